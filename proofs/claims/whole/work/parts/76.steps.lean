theorem mStep_4 {f : Row} {n mv ph wr p : Nat} (hf : WFr f n mv ph wr) (hp : p < n) (ha : ¬ f (32 + 42 * p + 0) = 0) : mStep f p 4 = f 4 := by
  have hf0 := hf
  obtain ⟨⟨hn2, hn, hm1, hm, hph, hwr⟩, h0, h1, h5, h6, hW⟩ := hf
  have hp4 : p < 4 := by omega
  obtain ⟨kd, st, wh, hs1, mm, hb⟩ := (hW p hp4).act ha
  have hhs : hs1 = 0 ∨ hs1 = 1 := by
    rcases hb.2.2.2.2.2.2 with q | q
    · exact Or.inl q.1
    · exact Or.inr q.1
  have e5 : mF5 f p n 4 = f 4 := f5_o (by omega) hn (by omega) (by omega)
  have g0 : mF5 f p n 0 = nI n := by rw [f5_o (by omega) hn (by omega) (by omega)]; exact h0
  have g5 : mF5 f p n 5 = nI ph := by rw [f5_o (by omega) hn (by omega) (by omega)]; exact h5
  have et : ∀ q, mTakes (mF5 f p n) p q 4 = f 4 := fun q => by rw [takes_o g0 hn g5 hph (by omega) (by omega) (by omega) (by omega)]; exact e5
  rcases hhs with rfl | rfl
  · have hmod : st % n < n := Nat.mod_lt _ (by omega)
    by_cases hc : st % n < n - 1
    · rw [step_B hf0 hb hp4 hc, rd_o (by omega), s2_0 (by omega) (by omega)]
    · rw [step_C hf0 hb hp4 (by omega)]
      repeat' split
      all_goals first | exact e5 | exact et _ | (rw [idl_o (by omega)]; exact et _)
  · rw [step_A hb hp4, wr_o (wr := wr) (by rw [s2_0 (by omega) (by omega)]; exact h6) hwr hp4 (by omega) (by omega) (by omega) (by omega), s2_0 (by omega) (by omega)]
theorem stF_4 {n mv p : Nat} (hp : p < n) : ∀ (k : Nat) (f : Row), WFx f n mv → stF f p k 4 = f 4
  | 0, _, _ => rfl
  | k + 1, f, h => by
    rw [stF]
    by_cases ha : f (32 + 42 * p + 0) = 0
    · rw [if_pos ha]
    · rw [if_neg ha, stF_4 hp k _ (wfx_step h hp ha)]
      obtain ⟨ph, wr, h⟩ := h
      exact mStep_4 h hp ha
theorem both_steps (l : Launch) (g : GG) (V : Nat → Nat → Row) (pn : Nat) (sa sb sr rb f fp fi fk fs : Row) (um q T : Nat) (hT : T < 700000) (hI : Inv V sa sb sr f fp fi fk fs pn um q T) (x v : Int32) : Both l g yX5_steps cX5_steps 3 yX6_steps cX6_steps 4 [.int x, .int v] (V, pn, sa, sb, sr, rb) f fp fi fk fs um q T := by
  have hI0 := hI
  obtain ⟨⟨n, mv, ph, wr, t, ac, hR, ht, hac, h4⟩, hpn, hum, hpast, him, hq, ta, tb, hsn⟩ := hI
  obtain ⟨hn2, hn, hm1, hm, hph, hwr⟩ := hR.1.1
  refine two_false (p := inB x (nI 0) (nI (n - 1))) (q := inB v (nI 1) (nI 20)) (fun hb => ?_) (fun b1 b2 => ?_)
  · exact Both.same hI0 (-1) 7 2 (by omega) (by omega) (fun b wa => c_X5_steps_bad l g b wa fk sa sb sr rb V f n mv ph wr t hR (nI pn) (nI um) (nI q) x v hb) (fun a th fw ft => c_X6_steps_bad l g a th (nI um) (nI q) f fw fp fi fk fs ft n (by omega) hn hR.1.2.1 x v hb)
  · obtain ⟨p, hp, rfl⟩ := inB_nat (by omega) (by omega) b1
    by_cases ha : f (32 + 42 * p + 0) = 0
    · exact Both.same hI0 (-2) 7 2 (by omega) (by omega) (fun b wa => c_X5_steps_state l g b wa fk sa sb sr rb V f n mv ph wr t hR (nI pn) (nI um) (nI q) p hp v b2 ha) (fun a th fw ft => c_X6_steps_state l g a th (nI um) (nI q) f fw fp fi fk fs ft n (by omega) hn hR.1.2.1 p v hp b2 ha)
    · obtain ⟨k, hk1, hk, rfl⟩ := inB_lit (by omega) (by omega) b2
      have hx : WFx f n mv := ⟨ph, wr, hR.1⟩
      have hle := stC_le p k f
      exact ⟨_, stF f p k, nP um f fp, fi, fk, fs, nU um, q, 7, 4, by omega, by omega, fun b wa => (c_X5_steps_ok l g b wa fk sa sb sr rb V f n mv ph wr t hR pn um hpn hum (nI q) p k hp hk1 hk (by omega) ha).mapE (fun u => ⟨(setV (setV V (2 + pn) (cCop (V (2 + pn)) (V 0) ph wr)) 0 u.1, nN pn, sa, sb, sr, rb), inv_now hI0 hT hR ht hac h4 (by obtain ⟨ph2, wr2, h2⟩ := u.2; exact ⟨n, mv, ph2, wr2, _, ac, h2, by omega, hac, by rw [stF_4 hp k f hx]; exact h4⟩)⟩) (fun _ => rfl), fun a th fw ft => (c_X6_steps_ok l g a th (nI q) um f fw fp fi fk fs ft n mv p k hum hx hp hk1 hk ha).toE (fw, ft) rfl⟩
