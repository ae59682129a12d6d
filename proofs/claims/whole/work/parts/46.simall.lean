/-! A STEP: the class's world and the reference's row go on together -/
theorem idl_f (f : Row) (p : Nat) : ∀ j, (j < 32 + 42 * p ∨ 32 + 42 * p + 42 ≤ j) → mIdles f p j = f j := fun _ h => idl_o h
set_option maxHeartbeats 4000000 in
theorem sim {V : Nat → Row} {f : Row} {n mv ph wr t p : Nat} (h : Rel V f n mv ph wr t) (ht : t < 900000) (hp : p < n) (ha : ¬ f (32 + 42 * p + 0) = 0) : ∃ (V' : Nat → Row) (ph' wr' : Nat), Rel V' (mStep f p) n mv ph' wr' (t + 1) ∧ ∀ (l : Launch) (g : GG) (a : Nat → Nat), Ct l g yX4_stepOnce cX4_stepOnce 3 none 3 [.ref (a 0), .int (nI p)] (wW g a V) none (wW g a V') := by
  have hR := h
  obtain ⟨hf, hz, hs, hc, hac, hal, hh⟩ := h
  have hf0 := hf
  obtain ⟨⟨hn2, hn, hm1, hm, hph, hwr⟩, h0, h1, h5, h6, hW⟩ := hf
  have hp4 : p < 4 := by omega
  obtain ⟨kd, st, wh, hs1, mm, hb⟩ := (hW p hp4).act ha
  have h60 := hb.st60 hn2 hn hm
  obtain ⟨k0, k1, k2, k3, k4, k5, k6, k7⟩ := hac p hp4
  have hhs : hs1 = 0 ∨ hs1 = 1 := by
    rcases hb.2.2.2.2.2.2 with q | q
    · exact Or.inl q.1
    · exact Or.inr q.1
  rcases hhs with rfl | rfl
  · have h55 := hb.st55 hn2 hn hm
    have hmod : st % n < n := Nat.mod_lt _ (by omega)
    have hk6 : V (6 + 8 * p) 6 = 0 := by rw [k6, hb.2.2.2.1]; rfl
    have hk4 : V (6 + 8 * p) 4 = nI (st % n) := by rw [k4, rdB_t hb, if_pos rfl, rSt_of hb.2.1 (by omega)]
    have hk5 : V (6 + 8 * p) 5 = nI wh := by rw [k5]; exact hb.2.2.1
    by_cases hc1 : st % n < n - 1
    · exact ⟨_, ph, wr, sim_B hR ht hp hb hc1, fun l g a => c_W_step_B l g a V p n (st % n) hp4 hn hk6 hs.1 hk4 hmod (by omega)⟩
    · have hc1 : st % n = n - 1 := by omega
      rw [hc1] at hk4
      have hS := step_C hf0 hb hp4 hc1
      by_cases hw0 : wh = 0
      · have hS0 : mStep f p = mF5 f p n := by rw [hS, if_pos (Or.inl hw0)]
        refine ⟨cvC0 V p n (n - 1) wh, ph, wr, sim_C hR ht hp hb hc1 hS0 (cvC0_kw V p n (n - 1) wh hp4) (cvC0_k V p n (n - 1) wh hp4) (cvC0_o V p n (n - 1) wh hp4 _ (by omega) (by omega) (by omega) (by omega) (by omega) (by omega)) (cvC0_ah V p n (n - 1) wh hp4) (cvC0_rv V p n (n - 1) wh hp4) (cvC0_rs V p n (n - 1) wh hp4) (cvC0_rw V p n (n - 1) wh hp4) (cvC0_o V p n (n - 1) wh hp4 _ (by omega) (by omega) (by omega) (by omega) (by omega) (by omega)) (fun j a1 a2 => cvC0_o V p n (n - 1) wh hp4 _ (by omega) (by omega) (by omega) (by omega) (by omega) (by omega)) (fun c hc4 => ?_), fun l g a => c_W_step_C0 l g a V p n (n - 1) wh hp4 hn hk6 hs.1 hk4 (by omega) (by omega) hk5 (by omega) hw0⟩
        unfold mF5
        rw [cnt_mv hn hc4, if_neg, f4_o (by omega) (by omega) (by omega) (by omega)]
        · exact (k7 c hc4).2.1
        · rintro ⟨q1, q2⟩
          have := anyMv_no n (anyMv_f (f := mF4 f p (n - 1)) (p := p) (by rw [f4_4 hb.2.2.1, hw0]; decide) n) c q1
          rw [this] at q2; cases q2
      · obtain ⟨hany, hmv, hlow⟩ := col_mv hR hp hb (by omega)
        obtain ⟨T, pl, hzh⟩ := hz.2.2.2.2
        have hpl : ∀ i, i < wr → V 42 i = nI (pl i) ∧ pl i < 4 := fun i hi => by
          obtain ⟨b1, b2, b3, b4⟩ := hzh.1 i hi
          exact ⟨(hh i hi).2.1.trans b2, by omega⟩
        have hz5 := ZZ_f5 hf0 hb hp hz
        have g0 : mF5 f p n 0 = nI n := by rw [f5_o (by omega) hn (by omega) (by omega)]; exact h0
        have g5 : mF5 f p n 5 = nI ph := by rw [f5_o (by omega) hn (by omega) (by omega)]; exact h5
        have g6 : mF5 f p n 6 = nI wr := by rw [f5_o (by omega) hn (by omega) (by omega)]; exact h6
        have v2 : mF5 f p n (32 + 42 * p + 2) = nI (st + 1) := by unfold mF5; rw [cnt_out (by omega) hn]; exact f4_2 hb.2.1
        have hph' : (if ph < 24 then ph + 1 else ph) ≤ 24 := by split <;> omega
        have hkd : kd = 1 ∨ kd = 2 := hb.2.2.2.2.2.1
        have hk0 : V (6 + 8 * p) 0 = nI kd := k0.trans hb.1
        obtain ⟨pvn, pvs⟩ := pv_T hR hp hb
        obtain ⟨ph1, wr1, hw1, -, -⟩ := wf_step hf0 hp hb
        cases hA : anyMv (mF4 f p (n - 1)) p n with
        | false =>
          rw [hA] at hany
          rw [hA] at hS
          simp only [Bool.false_eq_true, false_and, or_false, if_false] at hS
          rw [if_neg hw0] at hS
          have zt := ZZ_tk (q := none) hn2 hn hph hwr hp g0 g5 v2 (by omega) (fun x hx => by cases hx) hz5
          have t5 := takes_5 (p := p) (q := none) g0 hn g5 hph
          have t6 : mTakes (mF5 f p n) p none 6 = nI wr := by rw [takes_o g0 hn g5 hph (by omega) (by omega) (by omega) (by omega)]; exact g6
          by_cases hk : kd = 1
          · rw [if_pos hk] at hS
            rw [hS] at hw1
            rw [hS]
            refine ⟨cvTv1 V p n (n - 1) wh ph wr pl, _, _, sim_T (KT := upd (upd (upd (upd (upd (upd (V (6 + 8 * p)) 3 (V (6 + 8 * p) 3 + nI 1)) 4 (nI (n - 1 + 1))) 4 (nI 0)) 5 (nI (wh + 1))) 7 (-9)) 6 (nI 1)) (PV := upd (V (11 + 8 * p)) (n - 1) (V 2 (n - 1))) (qo := none) hR ht hp hb (fun x hx => by cases hx) hzh (hw1.cast (by rw [idl_o (by omega)]; exact t5) (by rw [idl_o (by omega)]; exact t6) hph' hwr) (idl_f _ p) (ZZ_idl hp4 zt) ?_ (cvTv1_kw V p n (n - 1) wh ph wr pl hp4) (cvTv1_asz V p n (n - 1) wh ph wr pl hp4) (cvTv1_fx V p n (n - 1) wh ph wr pl hp4) (fun j a1 a2 a3 a4 a5 => cvTv1_o V p n (n - 1) wh ph wr pl hp4 j (by omega) (by omega) (by omega) (by omega) (by omega) (by omega) (by omega) (by omega) (by omega) (by omega) (by omega)) rfl rfl ?_ rfl pvn, fun l g a => c_W_step_Tv1 l g a V p n (n - 1) wh ph wr pl hp4 hn hk6 hs.1 hk4 (by omega) (by omega) hk5 (by omega) hs.2.2.2.2.2.1 hph hs.2.2.2.2.2.2 hwr hpl (by omega) hany (by rw [hk0, hk])⟩
            · exact RAc.idle (cvTv1_k V p n (n - 1) wh ph wr pl hp4) (cvTv1_pv V p n (n - 1) wh ph wr pl hp4) (cvTv1_mv V p n (n - 1) wh ph wr pl hp4) (cvTv1_ah V p n (n - 1) wh ph wr pl hp4) (cvTv1_rv V p n (n - 1) wh ph wr pl hp4) (cvTv1_rs V p n (n - 1) wh ph wr pl hp4) (cvTv1_rw V p n (n - 1) wh ph wr pl hp4) (fun i hi => idl_i (by omega) (by omega))
            · rw [upd_ne (by decide), upd_ne (by decide), upd_ne (by decide), upd_ne (by decide), upd_ne (by decide), upd_self, k3, hb.2.1, nI_add]
          · rw [if_neg hk] at hS
            rw [hS] at hw1
            rw [hS]
            have t3 : (upd (upd (upd (upd (upd (upd (V (6 + 8 * p)) 3 (V (6 + 8 * p) 3 + nI 1)) 4 (nI (n - 1 + 1))) 4 (nI 0)) 5 (nI (wh + 1))) 7 (-9)) 6 (nI 1)) 3 = nI (st + 1) := by rw [upd_ne (by decide), upd_ne (by decide), upd_ne (by decide), upd_ne (by decide), upd_ne (by decide), upd_self, k3, hb.2.1, nI_add]
            exact ⟨cvTv2 V p n (n - 1) wh ph wr pl, _, _, sim_T (KT := upd (upd (upd (upd (upd (upd (V (6 + 8 * p)) 3 (V (6 + 8 * p) 3 + nI 1)) 4 (nI (n - 1 + 1))) 4 (nI 0)) 5 (nI (wh + 1))) 7 (-9)) 6 (nI 1)) (PV := upd (V (11 + 8 * p)) (n - 1) (V 2 (n - 1))) (qo := none) hR ht hp hb (fun x hx => by cases hx) hzh (hw1.cast t5 t6 hph' hwr) (fun _ _ => rfl) zt (act_T hR hp hb (by omega) rfl (cvTv2_k V p n (n - 1) wh ph wr pl hp4) (cvTv2_pv V p n (n - 1) wh ph wr pl hp4) (cvTv2_mv V p n (n - 1) wh ph wr pl hp4) (cvTv2_ah V p n (n - 1) wh ph wr pl hp4) (cvTv2_rv V p n (n - 1) wh ph wr pl hp4) (cvTv2_rs V p n (n - 1) wh ph wr pl hp4) (cvTv2_rw V p n (n - 1) wh ph wr pl hp4) rfl rfl rfl t3 rfl rfl rfl pvn) (cvTv2_kw V p n (n - 1) wh ph wr pl hp4) (cvTv2_asz V p n (n - 1) wh ph wr pl hp4) (cvTv2_fx V p n (n - 1) wh ph wr pl hp4) (fun j a1 a2 a3 a4 a5 => cvTv2_o V p n (n - 1) wh ph wr pl hp4 j (by omega) (by omega) (by omega) (by omega) (by omega) (by omega) (by omega) (by omega) (by omega) (by omega) (by omega)) rfl rfl t3 rfl pvn, fun l g a => c_W_step_Tv2 l g a V p n (n - 1) wh ph wr pl hp4 hn hk6 hs.1 hk4 (by omega) (by omega) hk5 (by omega) hs.2.2.2.2.2.1 hph hs.2.2.2.2.2.2 hwr hpl (by omega) hany (by rw [hk0]; exact nIne (by omega) (by omega) hk)⟩
        | true =>
          rw [hA] at hany
          rw [hA] at hS
          simp only [true_and, if_true] at hS
          cases hq : lendG (mF5 f p n) p 0 n with
          | none =>
            rw [hq] at hS hlow
            rw [if_pos (Or.inr rfl)] at hS
            exact ⟨cvCn V p n (n - 1) wh, ph, wr, sim_C hR ht hp hb hc1 hS (cvCn_kw V p n (n - 1) wh hp4) (cvCn_k V p n (n - 1) wh hp4) (cvCn_mv V p n (n - 1) wh hp4) (cvCn_ah V p n (n - 1) wh hp4) (cvCn_rv V p n (n - 1) wh hp4) (cvCn_rs V p n (n - 1) wh hp4) (cvCn_rw V p n (n - 1) wh hp4) (cvCn_o V p n (n - 1) wh hp4 _ (by omega) (by omega) (by omega) (by omega) (by omega) (by omega) (by omega)) (fun j a1 a2 => cvCn_o V p n (n - 1) wh hp4 _ (by omega) (by omega) (by omega) (by omega) (by omega) (by omega) (by omega)) hmv, fun l g a => c_W_step_Cn l g a V p n (n - 1) wh hp4 hn hk6 hs.1 hk4 (by omega) (by omega) hk5 (by omega) (by omega) hany hlow⟩
          | some q =>
            rw [hq] at hS hlow
            rw [if_neg (fun z => z.elim hw0 (fun z => by cases z))] at hS
            have hqn : q < n := by have := lendG_lt n 0 q hq; omega
            have zt := ZZ_tk (q := some q) hn2 hn hph hwr hp g0 g5 v2 (by omega) (fun x hx => by cases hx; exact hqn) hz5
            have t5 := takes_5 (p := p) (q := some q) g0 hn g5 hph
            have t6 : mTakes (mF5 f p n) p (some q) 6 = nI wr := by rw [takes_o g0 hn g5 hph (by omega) (by omega) (by omega) (by omega)]; exact g6
            have t3 : (upd (upd (upd (upd (upd (upd (V (6 + 8 * p)) 3 (V (6 + 8 * p) 3 + nI 1)) 4 (nI (n - 1 + 1))) 4 (nI 0)) 5 (nI (wh + 1))) 7 (nI q)) 6 (nI 1)) 3 = nI (st + 1) := by rw [upd_ne (by decide), upd_ne (by decide), upd_ne (by decide), upd_ne (by decide), upd_ne (by decide), upd_self, k3, hb.2.1, nI_add]
            by_cases hk : kd = 1
            · rw [if_pos hk] at hS
              rw [hS] at hw1
              rw [hS]
              exact ⟨cvTw1 V p n (n - 1) wh ph wr q pl, _, _, sim_T (KT := upd (upd (upd (upd (upd (upd (V (6 + 8 * p)) 3 (V (6 + 8 * p) 3 + nI 1)) 4 (nI (n - 1 + 1))) 4 (nI 0)) 5 (nI (wh + 1))) 7 (nI q)) 6 (nI 1)) (PV := fun j => va_cpy (V 4) (V (13 + 8 * p)) ((n - 1) * 4) ((n - 1) * 4) 4 (q * 4 + j)) (qo := some q) hR ht hp hb (fun x hx => by cases hx; exact hqn) hzh (hw1.cast (by rw [idl_o (by omega)]; exact t5) (by rw [idl_o (by omega)]; exact t6) hph' hwr) (idl_f _ p) (ZZ_idl hp4 zt) (RAc.idle (cvTw1_k V p n (n - 1) wh ph wr q pl hp4) (cvTw1_pv V p n (n - 1) wh ph wr q pl hp4) (cvTw1_mv V p n (n - 1) wh ph wr q pl hp4) (cvTw1_ah V p n (n - 1) wh ph wr q pl hp4) (cvTw1_rv V p n (n - 1) wh ph wr q pl hp4) (cvTw1_rs V p n (n - 1) wh ph wr q pl hp4) (cvTw1_rw V p n (n - 1) wh ph wr q pl hp4) (fun i hi => idl_i (by omega) (by omega))) (cvTw1_kw V p n (n - 1) wh ph wr q pl hp4) (cvTw1_asz V p n (n - 1) wh ph wr q pl hp4) (cvTw1_fx V p n (n - 1) wh ph wr q pl hp4) (fun j a1 a2 a3 a4 a5 => cvTw1_o V p n (n - 1) wh ph wr q pl hp4 j (by omega) (by omega) (by omega) (by omega) (by omega) (by omega) (by omega) (by omega) (by omega) (by omega) (by omega)) rfl rfl t3 rfl (pvs q hqn), fun l g a => c_W_step_Tw1 l g a V p n (n - 1) wh ph wr q pl hp4 hn hk6 hs.1 hk4 (by omega) (by omega) hk5 (by omega) hs.2.2.2.2.2.1 hph hs.2.2.2.2.2.2 hwr hpl (by omega) hany hlow (by rw [hk0, hk])⟩
            · rw [if_neg hk] at hS
              rw [hS] at hw1
              rw [hS]
              exact ⟨cvTw2 V p n (n - 1) wh ph wr q pl, _, _, sim_T (KT := upd (upd (upd (upd (upd (upd (V (6 + 8 * p)) 3 (V (6 + 8 * p) 3 + nI 1)) 4 (nI (n - 1 + 1))) 4 (nI 0)) 5 (nI (wh + 1))) 7 (nI q)) 6 (nI 1)) (PV := fun j => va_cpy (V 4) (V (13 + 8 * p)) ((n - 1) * 4) ((n - 1) * 4) 4 (q * 4 + j)) (qo := some q) hR ht hp hb (fun x hx => by cases hx; exact hqn) hzh (hw1.cast t5 t6 hph' hwr) (fun _ _ => rfl) zt (act_T hR hp hb (by omega) rfl (cvTw2_k V p n (n - 1) wh ph wr q pl hp4) (cvTw2_pv V p n (n - 1) wh ph wr q pl hp4) (cvTw2_mv V p n (n - 1) wh ph wr q pl hp4) (cvTw2_ah V p n (n - 1) wh ph wr q pl hp4) (cvTw2_rv V p n (n - 1) wh ph wr q pl hp4) (cvTw2_rs V p n (n - 1) wh ph wr q pl hp4) (cvTw2_rw V p n (n - 1) wh ph wr q pl hp4) rfl rfl rfl t3 rfl rfl rfl (pvs q hqn)) (cvTw2_kw V p n (n - 1) wh ph wr q pl hp4) (cvTw2_asz V p n (n - 1) wh ph wr q pl hp4) (cvTw2_fx V p n (n - 1) wh ph wr q pl hp4) (fun j a1 a2 a3 a4 a5 => cvTw2_o V p n (n - 1) wh ph wr q pl hp4 j (by omega) (by omega) (by omega) (by omega) (by omega) (by omega) (by omega) (by omega) (by omega) (by omega) (by omega)) rfl rfl t3 rfl (pvs q hqn), fun l g a => c_W_step_Tw2 l g a V p n (n - 1) wh ph wr q pl hp4 hn hk6 hs.1 hk4 (by omega) (by omega) hk5 (by omega) hs.2.2.2.2.2.1 hph hs.2.2.2.2.2.2 hwr hpl (by omega) hany hlow (by rw [hk0]; exact nIne (by omega) (by omega) hk)⟩
  · have hk6 : ¬ V (6 + 8 * p) 6 = 0 := by rw [k6, hb.2.2.2.1]; decide
    exact ⟨_, ph, _, sim_A hR ht hp hb, fun l g a => c_W_step_A l g a V p wr hp4 hs.2.2.2.2.2.2 hwr hk6⟩
