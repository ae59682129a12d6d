set_option maxHeartbeats 4000000 in
set_option maxRecDepth 100000 in
theorem c_X5_readsOfTrial (l : Launch) (g : GG) (b : Nat → Nat) (wa : Nat → Nat → Nat) (fk sa sb sr rb : Row) (V : Nat → Nat → Row) (f : Row) (n mv ph wr t : Nat) (hR : Rel (V 0) f n mv ph wr t) (pn pk sc : Int32) (mv2 ka kb : Nat) (hmv1 : 1 ≤ mv2) (hmv : mv2 ≤ 4) (ha1 : 1 ≤ ka) (ha : ka ≤ 4) (hb1 : 1 ≤ kb) (hb : kb ≤ 4) : CtE l g yX5_readsOfTrial cX5_readsOfTrial 8 (some .int) 4 [.ref (b 0), .int (nI mv2), .int (nI ka), .int (nI kb)] (lvB g b wa (pn) (pk) (sc) (fk) (sa) (sb) (sr) (rb) ++ WS g wa (V)) (some (.int (nI (trN n mv2 (f 2) ka kb)))) (fun u : Nat → Row => (lvB g b wa (pn) (pk) (sc) (fk) (sa) (sb) (sr) (rb) ++ WS g wa (setV V 1 u))) := by
  obtain ⟨hn2, hn, hm1, hm, hph, hwr⟩ := hR.1.1
  refine CtE.start (by decide +kernel) (Nat.le_of_ble_eq_true rfl) (by simp [Value.category]) (Or.inr ⟨.int, _, rfl, rfl, rfl⟩) ?_
  intro p0 e R s m args below meth c A Q K hr h ls hl
  have hl : Lq ls 8 [some (.ref (b 0)), some (.int (nI mv2)), some (.int (nI ka)), some (.int (nI kb)), none, none, none, none] := hl
  have R0 := rel_res (V := V 1) (w := f 2) hn2 hn hmv1 hmv
  have R1 := rel_beg (p := 0) (kd := 1) (v := nI 0) (v' := -9) R0 (by omega) (by omega) (Or.inl rfl) rfl
  have R2 := rel_beg (p := 1) (kd := 2) (v := nI 1) (v' := nI 1) R1 (by omega) (by omega) (Or.inr rfl) rfl
  have T0 := tw_0 (w := f 2) hn2 hn hmv1 hmv
  refine r_aln K hl 0 dX5_readsOfTrial_0 rfl rfl ?_
  refine r_get K h ffX5_16 0 rfl rfl dX5_readsOfTrial_1 ?_
  refine r_aln K hl 0 dX5_readsOfTrial_4 rfl rfl ?_
  refine r_get K h ffX5_10 0 rfl rfl dX5_readsOfTrial_5 ?_
  refine r_getE K h ffX5_147 8 rfl rfl (congrArg Value.int hR.2.2.1.1) dX5_readsOfTrial_8 ?_
  refine r_iln K hl 1 dX5_readsOfTrial_11 rfl rfl ?_
  refine r_aln K hl 0 dX5_readsOfTrial_12 rfl rfl ?_
  refine r_get K h ffX5_10 0 rfl rfl dX5_readsOfTrial_13 ?_
  refine r_getE K h ffX5_184 8 rfl rfl (congrArg Value.int hR.2.2.1.2.2.1) dX5_readsOfTrial_16 ?_
  refine r_callVW K h hl (wd1 1 (by omega) rfl (c_X4_restart l g (wa 1) (V 1) (nI n) (nI mv2) (f 2)) (lvB g b wa (pn) (pk) (sc) (fk) (sa) (sb) (sr) (rb))) mc_X4_restart vm_X4_restart mlX5_43 53 rfl rfl rfl (lv_fst rfl) _ rfl (by decide) (by decide) rfl rfl (Nat.le_of_ble_eq_true rfl) ⟨Nat.zero_le _, Nat.zero_le _⟩ dX5_readsOfTrial_19 (fun H locs h => ?_)
  refine W.eq (g2 := F0 m 22 ls []) rfl ?_
  refine r_aln K hl 0 dX5_readsOfTrial_22 rfl rfl ?_
  refine r_get K h ffX5_16 0 rfl rfl dX5_readsOfTrial_23 ?_
  refine r_ic K (nI 0) dX5_readsOfTrial_26 k_0 ?_
  refine r_ic K (nI 1) dX5_readsOfTrial_27 k_1 ?_
  refine r_bp K (-9) dX5_readsOfTrial_28 kb_m9 ?_
  refine r_callVW K h hl (wd1 1 (by omega) setV_eq (c_X4_beginAct l g (wa 1) (cRes (V 1) (nI n) (nI mv2) (f 2)) 0 (by omega) (nI 1) (-9)) (lvB g b wa (pn) (pk) (sc) (fk) (sa) (sb) (sr) (rb))) mc_X4_beginAct vm_X4_beginAct mlX5_198 53 rfl rfl rfl (lv_fst rfl) _ rfl (by decide) (by decide) rfl rfl (Nat.le_of_ble_eq_true rfl) ⟨Nat.zero_le _, Nat.zero_le _⟩ dX5_readsOfTrial_30 (fun H locs h => ?_)
  refine W.eq (g2 := F0 m 33 ls []) rfl ?_
  rw [setV_setV] at h
  refine r_ic K (nI 1) dX5_readsOfTrial_33 k_1 ?_
  refine r_is K hl 4 [_, _, _, _, _, _, _, _] dX5_readsOfTrial_34 (by decide) rfl (fun ls hl => ?_)
  refine r_aln K hl 0 dX5_readsOfTrial_36 rfl rfl ?_
  refine r_get K h ffX5_16 0 rfl rfl dX5_readsOfTrial_37 ?_
  refine r_ic K (nI 1) dX5_readsOfTrial_40 k_1 ?_
  refine r_ic K (nI 2) dX5_readsOfTrial_41 k_2 ?_
  refine r_il K hl 4 dX5_readsOfTrial_42 rfl ?_
  refine r_callVW K h hl (wd1 1 (by omega) setV_eq (c_X4_beginAct l g (wa 1) (cBeg (cRes (V 1) (nI n) (nI mv2) (f 2)) 0 (nI 1) (-9)) 1 (by omega) (nI 2) (nI 1)) (lvB g b wa (pn) (pk) (sc) (fk) (sa) (sb) (sr) (rb))) mc_X4_beginAct vm_X4_beginAct mlX5_198 53 rfl rfl rfl (lv_fst rfl) _ rfl (by decide) (by decide) rfl rfl (Nat.le_of_ble_eq_true rfl) ⟨Nat.zero_le _, Nat.zero_le _⟩ dX5_readsOfTrial_44 (fun H locs h => ?_)
  refine W.eq (g2 := F0 m 47 ls []) rfl ?_
  rw [setV_setV] at h
  refine r_ic K (nI 0) dX5_readsOfTrial_47 k_0 ?_
  refine r_is K hl 5 [_, _, _, _, _, _, _, _] dX5_readsOfTrial_48 (by decide) rfl (fun ls hl => ?_)
  refine r_ic K (nI 0) dX5_readsOfTrial_50 k_0 ?_
  refine r_is K hl 6 [_, _, _, _, _, _, _, _] dX5_readsOfTrial_51 (by decide) rfl (fun ls hl => ?_)
  have loop : ∀ (j k i : Nat) (x7 : Option Value) (X : Nat → Row) (y : Row × Nat) (ph1 wr1 t1 : Nat), k + j = 1000 → t1 ≤ 8 * k → Rel X y.1 n mv2 ph1 wr1 t1 → TWf y.1 n mv2 → i + trC ka kb j y = trN n mv2 (f 2) ka kb → ∀ (H : Heap) (locs : List Loc), Hp g A s H locs (lvB g b wa (pn) (pk) (sc) (fk) (sa) (sb) (sr) (rb) ++ WS g wa (setV V 1 X)) → ∀ ls, Lq ls 8 [some (.ref (b 0)), some (.int (nI mv2)), some (.int (nI ka)), some (.int (nI kb)), some (.int (nI (y.2))), some (.int (nI (i))), some (.int (nI (k))), x7] → W p0 l e R s m args below meth c H locs 0 0 Q (F0 m 53 ls []) := by
    intro j
    induction j with
    | zero =>
      intro k i x7 X y ph1 wr1 t1 hk ht1 hR1 hT hC H locs h ls hl
      refine r_il K hl 6 dX5_readsOfTrial_53 rfl ?_
      refine r_sp K (nI 1000) dX5_readsOfTrial_55 ks_1000 ?_
      refine r_cgeN K 163 dX5_readsOfTrial_58 (by decide) (by omega) (by omega) (fun c58 => ?_) (fun c => absurd c (by omega))
      refine r_il K hl 5 dX5_readsOfTrial_163 rfl ?_
      exact hr.1 X _ _ _ _ _ dX5_readsOfTrial_165 h (by rw [← hC]; rfl)
    | succ j ih =>
      intro k i x7 X y ph1 wr1 t1 hk ht1 hR1 hT hC H locs h ls hl
      have hid := rel_id hR1 (p := 0) (by omega)
      refine r_il K hl 6 dX5_readsOfTrial_53 rfl ?_
      refine r_sp K (nI 1000) dX5_readsOfTrial_55 ks_1000 ?_
      refine r_cgeN K 163 dX5_readsOfTrial_58 (by decide) (by omega) (by omega) (fun c => absurd c (by omega)) (fun c58 => ?_)
      refine r_aln K hl 0 dX5_readsOfTrial_61 rfl rfl ?_
      refine r_get K h ffX5_16 0 rfl rfl dX5_readsOfTrial_62 ?_
      refine r_ic K (nI 0) dX5_readsOfTrial_65 k_0 ?_
      refine r_callVW K h hl (wd0 1 (by omega) setV_eq (c_X4_isIdle l g (wa 1) X 0 (by omega)) (lvB g b wa (pn) (pk) (sc) (fk) (sa) (sb) (sr) (rb))) mc_X4_isIdle vm_X4_isIdle mlX5_69 53 rfl rfl rfl rfl _ rfl (by decide) (by decide) rfl rfl (Nat.le_of_ble_eq_true rfl) ⟨Nat.zero_le _, Nat.zero_le _⟩ dX5_readsOfTrial_66 (fun H locs h => ?_)
      refine W.eq (g2 := F0 m 69 ls [_]) rfl ?_
      refine r_zneB K 163 dX5_readsOfTrial_69 (by decide) (fun c69 => ?_) (fun c69 => ?_)
      · have e0 := of_decide_eq_true (hid.symm.trans c69)
        rw [trC, if_pos e0] at hC
        refine r_il K hl 5 dX5_readsOfTrial_163 rfl ?_
        exact hr.1 X _ _ _ _ _ dX5_readsOfTrial_165 h (by rw [← hC]; rfl)
      · have e0 := of_decide_eq_false (hid.symm.trans c69)
        rw [trC, if_neg e0] at hC
        have hTa := tw_stF (a := ka) hn2 hT
        have JB : ∀ (x8 : Option Value) (X2 : Nat → Row) (ph2 wr2 t2 : Nat), t2 ≤ t1 + 4 → Rel X2 (stF y.1 0 ka) n mv2 ph2 wr2 t2 → ∀ (H : Heap) (locs : List Loc), Hp g A s H locs (lvB g b wa (pn) (pk) (sc) (fk) (sa) (sb) (sr) (rb) ++ WS g wa (setV V 1 X2)) → ∀ ls, Lq ls 8 [some (.ref (b 0)), some (.int (nI mv2)), some (.int (nI ka)), some (.int (nI kb)), some (.int (nI (y.2))), some (.int (nI (i + stC y.1 0 ka))), some (.int (nI (k))), x8] → W p0 l e R s m args below meth c H locs 0 0 Q (F0 m 109 ls []) := by
          intro x8 X2 ph2 wr2 t2 ht2 hR2 H locs h ls hl
          refine r_ic K (nI 0) dX5_readsOfTrial_109 k_0 ?_
          refine r_is K hl 7 [_, _, _, _, _, _, _, _] dX5_readsOfTrial_110 (by decide) rfl (fun ls hl => ?_)
          have lb : ∀ (r q : Nat) (X3 : Nat → Row) (ph3 wr3 t3 : Nat), q + r = kb → t3 ≤ t1 + 4 + q → Rel X3 (tbK (stF y.1 0 ka, y.2) q).1 n mv2 ph3 wr3 t3 → ∀ (H : Heap) (locs : List Loc), Hp g A s H locs (lvB g b wa (pn) (pk) (sc) (fk) (sa) (sb) (sr) (rb) ++ WS g wa (setV V 1 X3)) → ∀ ls, Lq ls 8 [some (.ref (b 0)), some (.int (nI mv2)), some (.int (nI ka)), some (.int (nI kb)), some (.int (nI ((tbK (stF y.1 0 ka, y.2) q).2))), some (.int (nI (i + stC y.1 0 ka))), some (.int (nI (k))), some (.int (nI q))] → W p0 l e R s m args below meth c H locs 0 0 Q (F0 m 112 ls []) := by
            intro r
            induction r with
            | zero =>
              intro q X3 ph3 wr3 t3 hq ht3 hR3 H locs h ls hl
              obtain rfl : q = kb := by omega
              refine r_il K hl 7 dX5_readsOfTrial_112 rfl ?_
              refine r_iln K hl 3 dX5_readsOfTrial_114 rfl rfl ?_
              refine r_cgeN K 157 dX5_readsOfTrial_115 (by decide) (by omega) (by omega) (fun c115 => ?_) (fun c => absurd c (by omega))
              refine r_incN K hl (k := 1) [_, _, _, _, _, _, _, _] dX5_readsOfTrial_157 rfl (by decide) rfl (fun ls hl => ?_)
              refine r_go K 53 dX5_readsOfTrial_160 (by decide) ?_
              exact ih (k + 1) (i + stC y.1 0 ka) _ X3 (trR y ka q) ph3 wr3 t3 (by omega) (by omega) hR3 (tw_tbK hn2 hTa q) (by omega) H locs h ls hl
            | succ r ih3 =>
              intro q X3 ph3 wr3 t3 hq ht3 hR3 H locs h ls hl
              have hTq := tw_tbK (x := (stF y.1 0 ka, y.2)) hn2 hTa q
              obtain ⟨X4, ph4, wr4, hR4, hct⟩ := sim hR3 (by omega) (by omega : 1 < n) hTq.2
              have hi4 := rel_id hR4 (p := 1) (by omega)
              have hstep : tbK (stF y.1 0 ka, y.2) (q + 1) = tb1 (tbK (stF y.1 0 ka, y.2) q) := rfl
              refine r_il K hl 7 dX5_readsOfTrial_112 rfl ?_
              refine r_iln K hl 3 dX5_readsOfTrial_114 rfl rfl ?_
              refine r_cgeN K 157 dX5_readsOfTrial_115 (by decide) (by omega) (by omega) (fun c => absurd c (by omega)) (fun c115 => ?_)
              refine r_aln K hl 0 dX5_readsOfTrial_118 rfl rfl ?_
              refine r_get K h ffX5_16 0 rfl rfl dX5_readsOfTrial_119 ?_
              refine r_ic K (nI 1) dX5_readsOfTrial_122 k_1 ?_
              refine r_callVW K h hl (wd1 1 (by omega) setV_eq (hct l g (wa 1)) (lvB g b wa (pn) (pk) (sc) (fk) (sa) (sb) (sr) (rb))) mc_X4_stepOnce vm_X4_stepOnce mlX5_200 53 rfl rfl rfl (lv_fst rfl) _ rfl (by decide) (by decide) rfl rfl (Nat.le_of_ble_eq_true rfl) ⟨Nat.zero_le _, Nat.zero_le _⟩ dX5_readsOfTrial_123 (fun H locs h => ?_)
              refine W.eq (g2 := F0 m 126 ls []) rfl ?_
              rw [setV_setV] at h
              refine r_aln K hl 0 dX5_readsOfTrial_126 rfl rfl ?_
              refine r_get K h ffX5_16 0 rfl rfl dX5_readsOfTrial_127 ?_
              refine r_ic K (nI 1) dX5_readsOfTrial_130 k_1 ?_
              refine r_callVW K h hl (wd0 1 (by omega) setV_eq (c_X4_isIdle l g (wa 1) X4 1 (by omega)) (lvB g b wa (pn) (pk) (sc) (fk) (sa) (sb) (sr) (rb))) mc_X4_isIdle vm_X4_isIdle mlX5_69 53 rfl rfl rfl rfl _ rfl (by decide) (by decide) rfl rfl (Nat.le_of_ble_eq_true rfl) ⟨Nat.zero_le _, Nat.zero_le _⟩ dX5_readsOfTrial_131 (fun H locs h => ?_)
              refine W.eq (g2 := F0 m 134 ls [_]) rfl ?_
              refine r_zeqB K 151 dX5_readsOfTrial_134 (by decide) (fun c134 => ?_) (fun c134 => ?_)
              · have e1 := of_decide_eq_false (hi4.symm.trans c134)
                have e2 : tb1 (tbK (stF y.1 0 ka, y.2) q) = (mStep (tbK (stF y.1 0 ka, y.2) q).1 1, (tbK (stF y.1 0 ka, y.2) q).2) := if_neg e1
                refine r_incN K hl (k := 1) [_, _, _, _, _, _, _, _] dX5_readsOfTrial_151 rfl (by decide) rfl (fun ls hl => ?_)
                refine r_go K 112 dX5_readsOfTrial_154 (by decide) ?_
                exact ih3 (q + 1) X4 ph4 wr4 (t3 + 1) (by omega) (by omega) (by rw [hstep, e2]; exact hR4) H locs h ls (by rw [hstep, e2]; exact hl)
              · have e1 := of_decide_eq_true (hi4.symm.trans c134)
                have e2 : tb1 (tbK (stF y.1 0 ka, y.2) q) = (mActs (mStep (tbK (stF y.1 0 ka, y.2) q).1 1) 1 (nI 2) (nI ((tbK (stF y.1 0 ka, y.2) q).2 + 1)), (tbK (stF y.1 0 ka, y.2) q).2 + 1) := if_pos e1
                have R5 := rel_beg (p := 1) (kd := 2) (v := nI ((tbK (stF y.1 0 ka, y.2) q).2 + 1)) (v' := nI ((tbK (stF y.1 0 ka, y.2) q).2 + 1)) hR4 (by omega) (by omega) (Or.inr rfl) rfl
                refine r_incN K hl (k := 1) [_, _, _, _, _, _, _, _] dX5_readsOfTrial_137 rfl (by decide) rfl (fun ls hl => ?_)
                refine r_aln K hl 0 dX5_readsOfTrial_140 rfl rfl ?_
                refine r_get K h ffX5_16 0 rfl rfl dX5_readsOfTrial_141 ?_
                refine r_ic K (nI 1) dX5_readsOfTrial_144 k_1 ?_
                refine r_ic K (nI 2) dX5_readsOfTrial_145 k_2 ?_
                refine r_il K hl 4 dX5_readsOfTrial_146 rfl ?_
                refine r_callVW K h hl (wd1 1 (by omega) setV_eq (c_X4_beginAct l g (wa 1) X4 1 (by omega) (nI 2) (nI ((tbK (stF y.1 0 ka, y.2) q).2 + 1))) (lvB g b wa (pn) (pk) (sc) (fk) (sa) (sb) (sr) (rb))) mc_X4_beginAct vm_X4_beginAct mlX5_198 53 rfl rfl rfl (lv_fst rfl) _ rfl (by decide) (by decide) rfl rfl (Nat.le_of_ble_eq_true rfl) ⟨Nat.zero_le _, Nat.zero_le _⟩ dX5_readsOfTrial_148 (fun H locs h => ?_)
                refine W.eq (g2 := F0 m 151 ls []) rfl ?_
                rw [setV_setV] at h
                refine r_incN K hl (k := 1) [_, _, _, _, _, _, _, _] dX5_readsOfTrial_151 rfl (by decide) rfl (fun ls hl => ?_)
                refine r_go K 112 dX5_readsOfTrial_154 (by decide) ?_
                exact ih3 (q + 1) _ ph4 wr4 (t3 + 1) (by omega) (by omega) (by rw [hstep, e2]; exact R5) H locs h ls (by rw [hstep, e2]; exact hl)
          exact lb kb 0 X2 ph2 wr2 t2 (by omega) (by omega) hR2 H locs h ls hl
        refine r_ic K (nI 0) dX5_readsOfTrial_72 k_0 ?_
        refine r_is K hl 7 [_, _, _, _, _, _, _, _] dX5_readsOfTrial_73 (by decide) rfl (fun ls hl => ?_)
        have la : ∀ (r q i1 : Nat) (X3 : Nat → Row) (fA : Row) (ph3 wr3 t3 : Nat), q + r = ka → t3 ≤ t1 + q → Rel X3 fA n mv2 ph3 wr3 t3 → stF fA 0 r = stF y.1 0 ka → i1 + stC fA 0 r = i + stC y.1 0 ka → ∀ (H : Heap) (locs : List Loc), Hp g A s H locs (lvB g b wa (pn) (pk) (sc) (fk) (sa) (sb) (sr) (rb) ++ WS g wa (setV V 1 X3)) → ∀ ls, Lq ls 8 [some (.ref (b 0)), some (.int (nI mv2)), some (.int (nI ka)), some (.int (nI kb)), some (.int (nI (y.2))), some (.int (nI (i1))), some (.int (nI (k))), some (.int (nI q))] → W p0 l e R s m args below meth c H locs 0 0 Q (F0 m 75 ls []) := by
          intro r
          induction r with
          | zero =>
            intro q i1 X3 fA ph3 wr3 t3 hq ht3 hR3 hF hCA H locs h ls hl
            refine r_il K hl 7 dX5_readsOfTrial_75 rfl ?_
            refine r_iln K hl 2 dX5_readsOfTrial_77 rfl rfl ?_
            refine r_cgeN K 109 dX5_readsOfTrial_78 (by decide) (by omega) (by omega) (fun c78 => ?_) (fun c => absurd c (by omega))
            exact JB _ X3 ph3 wr3 t3 (by omega) (by rw [← hF]; exact hR3) H locs h ls (by rw [← hCA]; exact hl)
          | succ r ih3 =>
            intro q i1 X3 fA ph3 wr3 t3 hq ht3 hR3 hF hCA H locs h ls hl
            have hi3 := rel_id hR3 (p := 0) (by omega)
            refine r_il K hl 7 dX5_readsOfTrial_75 rfl ?_
            refine r_iln K hl 2 dX5_readsOfTrial_77 rfl rfl ?_
            refine r_cgeN K 109 dX5_readsOfTrial_78 (by decide) (by omega) (by omega) (fun c => absurd c (by omega)) (fun c78 => ?_)
            refine r_aln K hl 0 dX5_readsOfTrial_81 rfl rfl ?_
            refine r_get K h ffX5_16 0 rfl rfl dX5_readsOfTrial_82 ?_
            refine r_ic K (nI 0) dX5_readsOfTrial_85 k_0 ?_
            refine r_callVW K h hl (wd0 1 (by omega) setV_eq (c_X4_isIdle l g (wa 1) X3 0 (by omega)) (lvB g b wa (pn) (pk) (sc) (fk) (sa) (sb) (sr) (rb))) mc_X4_isIdle vm_X4_isIdle mlX5_69 53 rfl rfl rfl rfl _ rfl (by decide) (by decide) rfl rfl (Nat.le_of_ble_eq_true rfl) ⟨Nat.zero_le _, Nat.zero_le _⟩ dX5_readsOfTrial_86 (fun H locs h => ?_)
            refine W.eq (g2 := F0 m 89 ls [_]) rfl ?_
            refine r_zneB K 109 dX5_readsOfTrial_89 (by decide) (fun c89 => ?_) (fun c89 => ?_)
            · have e1 := of_decide_eq_true (hi3.symm.trans c89)
              rw [stF_idle e1] at hF
              rw [stC_idle e1] at hCA
              exact JB _ X3 ph3 wr3 t3 (by omega) (by rw [← hF]; exact hR3) H locs h ls (by rw [← hCA]; exact hl)
            · have e1 := of_decide_eq_false (hi3.symm.trans c89)
              rw [stF, if_neg e1] at hF
              rw [stC, if_neg e1] at hCA
              obtain ⟨X4, ph4, wr4, hR4, hct⟩ := sim hR3 (by omega) (by omega : 0 < n) e1
              refine r_aln K hl 0 dX5_readsOfTrial_92 rfl rfl ?_
              refine r_get K h ffX5_16 0 rfl rfl dX5_readsOfTrial_93 ?_
              refine r_ic K (nI 0) dX5_readsOfTrial_96 k_0 ?_
              refine r_callVW K h hl (wd1 1 (by omega) setV_eq (hct l g (wa 1)) (lvB g b wa (pn) (pk) (sc) (fk) (sa) (sb) (sr) (rb))) mc_X4_stepOnce vm_X4_stepOnce mlX5_200 53 rfl rfl rfl (lv_fst rfl) _ rfl (by decide) (by decide) rfl rfl (Nat.le_of_ble_eq_true rfl) ⟨Nat.zero_le _, Nat.zero_le _⟩ dX5_readsOfTrial_97 (fun H locs h => ?_)
              refine W.eq (g2 := F0 m 100 ls []) rfl ?_
              rw [setV_setV] at h
              refine r_incN K hl (k := 1) [_, _, _, _, _, _, _, _] dX5_readsOfTrial_100 rfl (by decide) rfl (fun ls hl => ?_)
              refine r_incN K hl (k := 1) [_, _, _, _, _, _, _, _] dX5_readsOfTrial_103 rfl (by decide) rfl (fun ls hl => ?_)
              refine r_go K 75 dX5_readsOfTrial_106 (by decide) ?_
              exact ih3 (q + 1) (i1 + 1) X4 (mStep fA 0) ph4 wr4 (t3 + 1) (by omega) (by omega) hR4 hF (by omega) H locs h ls hl
        exact la ka 0 i X y.1 ph1 wr1 t1 (by omega) (by omega) hR1 rfl rfl H locs h ls hl
  exact loop 1000 0 0 _ _ (tr0 n mv2 (f 2)) 0 0 0 (by omega) (by omega) R2 T0 (by unfold trN; omega) _ _ h _ hl

