theorem both_undo (l : Launch) (g : GG) (V : Nat → Nat → Row) (pn : Nat) (sa sb sr rb f fp fi fk fs : Row) (um q T : Nat) (hT : T < 700000) (hI : Inv V sa sb sr f fp fi fk fs pn um q T) : Both l g yX5_undo cX5_undo 1 yX6_undo cX6_undo 2 [] (V, pn, sa, sb, sr, rb) f fp fi fk fs um q T := by
  have hI0 := hI
  obtain ⟨h1, h2, h3, h4, h5, h6, h7⟩ := hI.more (Nat.le_add_right T 20)
  cases um with
  | zero => exact Both.same hI0 (-2) 6 0 (by omega) (by omega) (fun b wa => c_X5_undo_state l g b wa fk sa sb sr rb V (nI pn) (nI q)) (fun a th fw ft => c_X6_undo_state l g a th (nI q) f fw fp fi fk fs ft)
  | succ u =>
    have er : rg pn (u + 1) u = 2 + pP pn := by unfold rg pP; split <;> omega
    have hu := h4 u (by omega)
    rw [er] at hu
    obtain ⟨n, mv, ph, wr, t, ac, hR, ht, hac, h44⟩ := hu
    have hpp := pP_lt h2
    refine ⟨_, _, fp, fi, fk, fs, u, q, 6, 0, by omega, by omega, fun b wa => (c_X5_undo_ok l g b wa fk sa sb sr rb V pn u h2 (by omega) (nI q) _ n mv ph wr t hR).toE ⟨(setV V 0 (cCop (V 0) (V (2 + pP pn)) ph wr), pP pn, sa, sb, sr, rb), ?_, hpp, by omega, fun i hi => ?_, fun k2 hk2 hn2 => ?_, h6, h7⟩ rfl, fun a th fw ft => (c_X6_undo_ok l g a th (nI q) u f fw fp fi fk fs ft (by omega)).toE (fw, ft) rfl⟩
    · show RelX (setV V 0 _ 0) _ _
      rw [setV_eq]; exact RelX.cop hR ht hac h44
    · show RelX (setV V 0 _ _) _ _
      have e2 : rg (pP pn) u i = rg pn (u + 1) i := by unfold rg pP; split <;> omega
      rw [setV_ne (by unfold rg; omega)]
      dsimp only
      rw [e2]; exact h4 i (by omega)
    · show RelX (setV V 0 _ _) _ _
      rw [setV_ne (by omega)]; exact h5 k2 hk2 hn2
/-- a change of the world now, remembered -/
theorem inv_now {V : Nat → Nat → Row} {sa sb sr f f' fp fi fk fs : Row} {pn um q T n mv ph wr t ac : Nat} {X : Nat → Row} (hI : Inv V sa sb sr f fp fi fk fs pn um q T) (hT : T < 700000) (hR : Rel (V 0) f n mv ph wr t) (ht : t ≤ T) (hac : ac ≤ 24) (h4 : f 4 = nI ac) (hX : RelX X f' (T + 20)) : Inv (setV (setV V (2 + pn) (cCop (V (2 + pn)) (V 0) ph wr)) 0 X) sa sb sr f' (nP um f fp) fi fk fs (nN pn) (nU um) q (T + 20) := by
  obtain ⟨h1, h2, h3, h4', h5, h6, h7⟩ := hI
  refine ⟨by rw [setV_eq]; exact hX, nN_lt h2, nU_le h3, fun i hi => ?_, fun k hk hn => ?_, h6, h7⟩
  · rw [setV_ne (by unfold rg; omega)]
    exact (inv_rem hR ht hac h4 (by omega) h2 h3 h4' i hi).more (Nat.le_add_right _ _)
  · rw [setV_ne (by omega), setV_ne (by omega)]; exact (h5 k hk hn).more (Nat.le_add_right _ _)
theorem both_begins (l : Launch) (g : GG) (V : Nat → Nat → Row) (pn : Nat) (sa sb sr rb f fp fi fk fs : Row) (um q T : Nat) (hT : T < 700000) (hI : Inv V sa sb sr f fp fi fk fs pn um q T) (x y z : Int32) : Both l g yX5_begins cX5_begins 5 yX6_begins cX6_begins 4 [.int x, .int y, .int z] (V, pn, sa, sb, sr, rb) f fp fi fk fs um q T := by
  have hI0 := hI
  obtain ⟨⟨n, mv, ph, wr, t, ac, hR, ht, hac, h4⟩, hpn, hum, hpast, him, hq, ta, tb, hsn⟩ := hI
  cases hb : begB x y z with
  | false => exact Both.same hI0 (-1) 7 1 (by omega) (by omega) (fun b wa => c_X5_begins_bad l g b wa fk sa sb sr rb V f n mv ph wr t hR (nI pn) (nI um) (nI q) x y z hb) (fun a th fw ft => c_X6_begins_bad l g a th (nI um) (nI q) f fw fp fi fk fs ft x y z hb)
  | true =>
    have hb0 := hb
    unfold begB at hb
    have b1 := (Bool.and_eq_true _ _).mp hb
    have b2 := (Bool.and_eq_true _ _).mp b1.2
    obtain ⟨k1, e1, e2, rfl⟩ := inB_lit (by omega) (by omega) b1.1
    obtain ⟨k2, e3, e4, rfl⟩ := inB_lit (by omega) (by omega) b2.1
    have hX : RelX (cRes (V 0) (nI k1) (nI k2) z) (mBares (nI k1) (nI k2) z) (T + 20) := ⟨k1, k2, 0, 0, 0, 0, rel_res e1 e2 e3 e4, by omega, by omega, rfl⟩
    obtain ⟨i1, i2, i3, i4, i5, i6, i7⟩ := inv_now hI0 hT hR ht hac h4 hX
    refine ⟨_, _, _, fi, _, fs, nU um, 0, 7, 1, by omega, by omega, fun b wa => (c_X5_begins_ok l g b wa fk sa sb sr rb V f n mv ph wr t hR pn um hpn hum (nI q) (nI k1) (nI k2) z hb0).toE ⟨(setV (setV V (2 + pn) (cCop (V (2 + pn)) (V 0) ph wr)) 0 (cRes (V 0) (nI k1) (nI k2) z), nN pn, sa, sb, sr, rb), i1, i2, i3, i4, fun k hk hn => ?_, by omega, ta, tb, fun i hi => absurd hi (by omega)⟩ rfl, fun a th fw ft => (c_X6_begins_ok l g a th (nI q) um f fw fp fi fk fs ft (nI k1) (nI k2) z hum hb0).toE (fw, ft) rfl⟩
    exfalso
    rcases (by omega : k = 0 ∨ k = 1) with rfl | rfl
    · exact hn (by rw [upd_ne (by omega), upd_self]; rfl)
    · exact hn (by rw [upd_self]; rfl)
