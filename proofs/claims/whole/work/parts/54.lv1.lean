theorem wd0 {l : Launch} {g : GG} {y : MethodName} {cc : ByteArray} {n : Nat} {rt : Option FieldType} {d : Nat} {av : List Value} {ans : Option Value} {wa : Nat → Nat → Nat} {V : Nat → Nat → Row} {U : Nat → Row} (i : Nat) (hi : i < 9) (hU : V i = U) (h : Ct l g y cc n rt d av (wW g (wa i) U) ans (wW g (wa i) U)) (B : va_W) : Ct l g y cc n rt d av (B ++ WS g wa V) ans (B ++ WS g wa V) := by
  subst hU; exact wc0 i hi h B
theorem wd1 {l : Launch} {g : GG} {y : MethodName} {cc : ByteArray} {n : Nat} {rt : Option FieldType} {d : Nat} {av : List Value} {ans : Option Value} {wa : Nat → Nat → Nat} {V : Nat → Nat → Row} {U X : Nat → Row} (i : Nat) (hi : i < 9) (hU : V i = U) (h : Ct l g y cc n rt d av (wW g (wa i) U) ans (wW g (wa i) X)) (B : va_W) : Ct l g y cc n rt d av (B ++ WS g wa V) ans (B ++ WS g wa (setV V i X)) := by
  subst hU; exact wc1 i hi h B
theorem wd1E {S : Type} {l : Launch} {g : GG} {y : MethodName} {cc : ByteArray} {n : Nat} {rt : Option FieldType} {d : Nat} {av : List Value} {ans : Option Value} {wa : Nat → Nat → Nat} {V : Nat → Nat → Row} {U : Nat → Row} {X : S → Nat → Row} (i : Nat) (hi : i < 9) (hU : V i = U) (h : CtE l g y cc n rt d av (wW g (wa i) U) ans (fun u => wW g (wa i) (X u))) (B : va_W) : CtE l g y cc n rt d av (B ++ WS g wa V) ans (fun u => B ++ WS g wa (setV V i (X u))) := by
  subst hU; exact wc1E i hi h B
theorem wd2 {l : Launch} {g : GG} {y : MethodName} {cc : ByteArray} {n : Nat} {rt : Option FieldType} {d : Nat} {av : List Value} {ans : Option Value} {wa : Nat → Nat → Nat} {V : Nat → Nat → Row} {U U2 X : Nat → Row} (i j : Nat) (hi : i < 9) (hj : j < 9) (hij : j ≠ i) (hU : V i = U) (hU2 : V j = U2) (h : Ct l g y cc n rt d av (wW g (wa i) U ++ wW g (wa j) U2) ans (wW g (wa i) X ++ wW g (wa j) U2)) (B : va_W) : Ct l g y cc n rt d av (B ++ WS g wa V) ans (B ++ WS g wa (setV V i X)) := by
  subst hU; subst hU2; exact wc2 i j hi hj hij h B
def nN (p : Nat) : Nat := if p = 4 then 0 else p + 1
theorem nN_lt {p : Nat} (h : p < 5) : nN p < 5 := by unfold nN; split <;> omega
theorem nU_le {p : Nat} (h : p ≤ 5) : nU p ≤ 5 := by unfold nU; split <;> omega
theorem min5 {k : Nat} (h : k ≤ 5) : (if nI 5 < nI (k + 1) then nI 5 else nI (k + 1)) = nI (nU k) := by
  rcases (by omega : k = 0 ∨ k = 1 ∨ k = 2 ∨ k = 3 ∨ k = 4 ∨ k = 5) with rfl | rfl | rfl | rfl | rfl | rfl <;> rfl
set_option maxHeartbeats 4000000 in
set_option maxRecDepth 100000 in
theorem c_X5_remember (l : Launch) (g : GG) (b : Nat → Nat) (wa : Nat → Nat → Nat) (fk sa sb sr rb : Row) (V : Nat → Nat → Row) (f : Row) (n mv ph wr t : Nat) (hR : Rel (V 0) f n mv ph wr t) (pn pk : Nat) (hpn : pn < 5) (hpk : pk ≤ 5) (sc : Int32) : Ct l g yX5_remember cX5_remember 1 none 5 [.ref (b 0)] (lvB g b wa (nI pn) (nI pk) (sc) (fk) (sa) (sb) (sr) (rb) ++ WS g wa (V)) none (lvB g b wa (nI (nN pn)) (nI (nU pk)) (sc) (fk) (sa) (sb) (sr) (rb) ++ WS g wa (setV V (2 + pn) (cCop (V (2 + pn)) (V 0) ph wr))) := by
  obtain ⟨hn2, hn, hm1, hm, hph, hwr⟩ := hR.1.1
  refine Ct.start (by decide +kernel) (Nat.le_of_ble_eq_true rfl) (by simp [Value.category]) (Or.inl ⟨rfl, rfl⟩) ?_
  intro p0 e R s m args below meth c A Q K hr h ls hl
  have hl : Lq ls 1 [some (.ref (b 0))] := hl
  refine r_aln K hl 0 dX5_remember_0 rfl rfl ?_
  refine r_get K h ffX5_19 0 rfl rfl dX5_remember_1 ?_
  refine r_aln K hl 0 dX5_remember_4 rfl rfl ?_
  refine r_get K h ffX5_79 0 rfl rfl dX5_remember_5 ?_
  refine r_aal3 K h 1 rfl (by omega) (by decide) rfl dX5_remember_8 ?_
  refine r_aln K hl 0 dX5_remember_9 rfl rfl ?_
  refine r_get K h ffX5_10 0 rfl rfl dX5_remember_10 ?_
  refine r_callVW K h hl (wd2 (2 + pn) 0 (by omega) (by omega) (by omega) rfl rfl (c_X4_copyFrom l g (wa (2 + pn)) (wa (0)) (V (2 + pn)) (V 0) ph wr hph hwr hR.2.2.1.2.2.2.2.2.1 hR.2.2.1.2.2.2.2.2.2 hR.hz) (lvB g b wa (nI pn) (nI pk) (sc) (fk) (sa) (sb) (sr) (rb))) mc_X4_copyFrom vm_X4_copyFrom mlX5_82 (8 + 45 * (2 + pn)) (lvx_at (2 + pn) (by omega)) rfl rfl (lv_fst rfl) _ rfl (by decide) (by decide) rfl rfl (Nat.le_of_ble_eq_true rfl) ⟨Nat.zero_le _, Nat.zero_le _⟩ dX5_remember_13 (fun H locs h => ?_)
  refine W.eq (g2 := F0 m 16 ls []) rfl ?_
  refine r_aln K hl 0 dX5_remember_16 rfl rfl ?_
  refine r_aln K hl 0 dX5_remember_17 rfl rfl ?_
  refine r_get K h ffX5_79 0 rfl rfl dX5_remember_18 ?_
  refine r_ic K (nI 4) dX5_remember_21 k_4 ?_
  refine r_cneN K 29 dX5_remember_22 (by decide) (by omega) (by omega) (fun c22 => ?_) (fun c22 => ?_)
  · refine r_aln K hl 0 dX5_remember_29 rfl rfl ?_
    refine r_get K h ffX5_79 0 rfl rfl dX5_remember_30 ?_
    refine r_ic K (nI 1) dX5_remember_33 k_1 ?_
    refine r_addN K dX5_remember_34 ?_
    refine r_put K h ffX5_79 pfX5_3 0 [_, _, _, _, _, _, _, _, _, _, _, _] (_ :: _ :: _ :: _ :: _ :: _ :: _ :: _ :: _) rfl rfl rfl (Nat.le_of_ble_eq_true rfl) rfl rfl dX5_remember_35 (fun H locs h => ?_)
    refine r_aln K hl 0 dX5_remember_38 rfl rfl ?_
    refine r_aln K hl 0 dX5_remember_39 rfl rfl ?_
    refine r_get K h ffX5_76 0 rfl rfl dX5_remember_40 ?_
    refine r_ic K (nI 1) dX5_remember_43 k_1 ?_
    refine r_addN K dX5_remember_44 ?_
    refine r_ic K (nI 5) dX5_remember_45 k_5 ?_
    refine r_min K hl mlX5_193 (by decide) (Nat.le_of_ble_eq_true rfl) (Nat.zero_le _) (Nat.zero_le _) dX5_remember_46 ?_
    refine r_put K h ffX5_76 pfX5_4 0 [_, _, _, _, _, _, _, _, _, _, _, _] (_ :: _ :: _ :: _ :: _ :: _ :: _ :: _ :: _) rfl rfl rfl (Nat.le_of_ble_eq_true rfl) rfl rfl dX5_remember_49 (fun H locs h => ?_)
    refine hr.2 _ _ _ _ dX5_remember_52 (h.to ?_) rfl
    rw [min5 hpk, show nN pn = pn + 1 from if_neg (by omega)]
    rfl
  · refine r_ic K (nI 0) dX5_remember_25 k_0 ?_
    refine r_go K 35 dX5_remember_26 (by decide) ?_
    refine r_put K h ffX5_79 pfX5_3 0 [_, _, _, _, _, _, _, _, _, _, _, _] (_ :: _ :: _ :: _ :: _ :: _ :: _ :: _ :: _) rfl rfl rfl (Nat.le_of_ble_eq_true rfl) rfl rfl dX5_remember_35 (fun H locs h => ?_)
    refine r_aln K hl 0 dX5_remember_38 rfl rfl ?_
    refine r_aln K hl 0 dX5_remember_39 rfl rfl ?_
    refine r_get K h ffX5_76 0 rfl rfl dX5_remember_40 ?_
    refine r_ic K (nI 1) dX5_remember_43 k_1 ?_
    refine r_addN K dX5_remember_44 ?_
    refine r_ic K (nI 5) dX5_remember_45 k_5 ?_
    refine r_min K hl mlX5_193 (by decide) (Nat.le_of_ble_eq_true rfl) (Nat.zero_le _) (Nat.zero_le _) dX5_remember_46 ?_
    refine r_put K h ffX5_76 pfX5_4 0 [_, _, _, _, _, _, _, _, _, _, _, _] (_ :: _ :: _ :: _ :: _ :: _ :: _ :: _ :: _) rfl rfl rfl (Nat.le_of_ble_eq_true rfl) rfl rfl dX5_remember_49 (fun H locs h => ?_)
    refine hr.2 _ _ _ _ dX5_remember_52 (h.to ?_) rfl
    rw [min5 hpk, show nN pn = 0 from if_pos (by omega)]
    rfl

set_option maxHeartbeats 4000000 in
set_option maxRecDepth 100000 in
theorem c_X5_beginAct_state (l : Launch) (g : GG) (b : Nat → Nat) (wa : Nat → Nat → Nat) (fk sa sb sr rb : Row) (V : Nat → Nat → Row) (f : Row) (n mv ph wr t : Nat) (hR : Rel (V 0) f n mv ph wr t) (pn pk sc : Int32) (p : Nat) (hp : p < n) (kd v : Int32) (hid : decide (V 0 (6 + 8 * p) 0 = 0) = false) : Ct l g yX5_beginAct cX5_beginAct 4 (some .int) 6 [.ref (b 0), .int (nI p), .int kd, .int v] (lvB g b wa (pn) (pk) (sc) (fk) (sa) (sb) (sr) (rb) ++ WS g wa (V)) (some (.int (-2))) (lvB g b wa (pn) (pk) (sc) (fk) (sa) (sb) (sr) (rb) ++ WS g wa (V)) := by
  obtain ⟨hn2, hn, hm1, hm, hph, hwr⟩ := hR.1.1
  refine Ct.start (by decide +kernel) (Nat.le_of_ble_eq_true rfl) (by simp [Value.category]) (Or.inr ⟨.int, _, rfl, rfl, rfl⟩) ?_
  intro p0 e R s m args below meth c A Q K hr h ls hl
  have hl : Lq ls 4 [some (.ref (b 0)), some (.int (nI p)), some (.int kd), some (.int v)] := hl
  refine r_aln K hl 0 dX5_beginAct_0 rfl rfl ?_
  refine r_get K h ffX5_10 0 rfl rfl dX5_beginAct_1 ?_
  refine r_iln K hl 1 dX5_beginAct_4 rfl rfl ?_
  refine r_callVW K h hl (wd0 0 (by omega) rfl (c_X4_isIdle l g (wa 0) (V 0) p (by omega)) (lvB g b wa (pn) (pk) (sc) (fk) (sa) (sb) (sr) (rb))) mc_X4_isIdle vm_X4_isIdle mlX5_69 8 rfl rfl rfl rfl _ rfl (by decide) (by decide) rfl rfl (Nat.le_of_ble_eq_true rfl) ⟨Nat.zero_le _, Nat.zero_le _⟩ dX5_beginAct_5 (fun H locs h => ?_)
  refine W.eq (g2 := F0 m 8 ls [_]) rfl ?_
  refine r_zneB K 14 dX5_beginAct_8 (by decide) (fun c => absurd ((hid).symm.trans c) (by decide)) (fun _ => ?_)
  refine r_bp K (-2) dX5_beginAct_11 kb_m2 ?_
  exact hr.1 _ _ _ _ _ dX5_beginAct_13 h rfl

set_option maxHeartbeats 4000000 in
set_option maxRecDepth 100000 in
theorem c_X5_beginAct_full (l : Launch) (g : GG) (b : Nat → Nat) (wa : Nat → Nat → Nat) (fk sa sb sr rb : Row) (V : Nat → Nat → Row) (f : Row) (n mv ph wr t : Nat) (hR : Rel (V 0) f n mv ph wr t) (pn pk sc : Int32) (p : Nat) (hp : p < n) (kd v : Int32) (hid : decide (V 0 (6 + 8 * p) 0 = 0) = true) (h04 : V 0 0 4 = nI 24) : Ct l g yX5_beginAct cX5_beginAct 4 (some .int) 6 [.ref (b 0), .int (nI p), .int kd, .int v] (lvB g b wa (pn) (pk) (sc) (fk) (sa) (sb) (sr) (rb) ++ WS g wa (V)) (some (.int (-3))) (lvB g b wa (pn) (pk) (sc) (fk) (sa) (sb) (sr) (rb) ++ WS g wa (V)) := by
  obtain ⟨hn2, hn, hm1, hm, hph, hwr⟩ := hR.1.1
  refine Ct.start (by decide +kernel) (Nat.le_of_ble_eq_true rfl) (by simp [Value.category]) (Or.inr ⟨.int, _, rfl, rfl, rfl⟩) ?_
  intro p0 e R s m args below meth c A Q K hr h ls hl
  have hl : Lq ls 4 [some (.ref (b 0)), some (.int (nI p)), some (.int kd), some (.int v)] := hl
  refine r_aln K hl 0 dX5_beginAct_0 rfl rfl ?_
  refine r_get K h ffX5_10 0 rfl rfl dX5_beginAct_1 ?_
  refine r_iln K hl 1 dX5_beginAct_4 rfl rfl ?_
  refine r_callVW K h hl (wd0 0 (by omega) rfl (c_X4_isIdle l g (wa 0) (V 0) p (by omega)) (lvB g b wa (pn) (pk) (sc) (fk) (sa) (sb) (sr) (rb))) mc_X4_isIdle vm_X4_isIdle mlX5_69 8 rfl rfl rfl rfl _ rfl (by decide) (by decide) rfl rfl (Nat.le_of_ble_eq_true rfl) ⟨Nat.zero_le _, Nat.zero_le _⟩ dX5_beginAct_5 (fun H locs h => ?_)
  refine W.eq (g2 := F0 m 8 ls [_]) rfl ?_
  refine r_zneB K 14 dX5_beginAct_8 (by decide) (fun _ => ?_) (fun c => absurd ((hid).symm.trans c) (by decide))
  refine r_aln K hl 0 dX5_beginAct_14 rfl rfl ?_
  refine r_get K h ffX5_10 0 rfl rfl dX5_beginAct_15 ?_
  refine r_getE K h ffX5_190 8 rfl rfl (congrArg Value.int h04) dX5_beginAct_18 ?_
  refine r_bp K (nI 24) dX5_beginAct_21 kb_24 ?_
  refine r_cltN K 29 dX5_beginAct_23 (by decide) (by omega) (by omega) (fun c => absurd c (by omega)) (fun c23 => ?_)
  refine r_bp K (-3) dX5_beginAct_26 kb_m3 ?_
  exact hr.1 _ _ _ _ _ dX5_beginAct_28 h rfl

set_option maxHeartbeats 4000000 in
set_option maxRecDepth 100000 in
theorem c_X5_beginAct_ok (l : Launch) (g : GG) (b : Nat → Nat) (wa : Nat → Nat → Nat) (fk sa sb sr rb : Row) (V : Nat → Nat → Row) (f : Row) (n mv ph wr t : Nat) (hR : Rel (V 0) f n mv ph wr t) (pn pk : Nat) (hpn : pn < 5) (hpk : pk ≤ 5) (sc : Int32) (p : Nat) (hp : p < n) (kd v : Int32) (hid : decide (V 0 (6 + 8 * p) 0 = 0) = true) (ac : Nat) (hac : ac < 24) (h04 : V 0 0 4 = nI ac) : Ct l g yX5_beginAct cX5_beginAct 4 (some .int) 6 [.ref (b 0), .int (nI p), .int kd, .int v] (lvB g b wa (nI pn) (nI pk) (sc) (fk) (sa) (sb) (sr) (rb) ++ WS g wa (V)) (some (.int (V 0 0 3))) (lvB g b wa (nI (nN pn)) (nI (nU pk)) (sc) (fk) (sa) (sb) (sr) (rb) ++ WS g wa (setV (setV V (2 + pn) (cCop (V (2 + pn)) (V 0) ph wr)) 0 (cBeg (V 0) p kd v))) := by
  obtain ⟨hn2, hn, hm1, hm, hph, hwr⟩ := hR.1.1
  refine Ct.start (by decide +kernel) (Nat.le_of_ble_eq_true rfl) (by simp [Value.category]) (Or.inr ⟨.int, _, rfl, rfl, rfl⟩) ?_
  intro p0 e R s m args below meth c A Q K hr h ls hl
  have hl : Lq ls 4 [some (.ref (b 0)), some (.int (nI p)), some (.int kd), some (.int v)] := hl
  refine r_aln K hl 0 dX5_beginAct_0 rfl rfl ?_
  refine r_get K h ffX5_10 0 rfl rfl dX5_beginAct_1 ?_
  refine r_iln K hl 1 dX5_beginAct_4 rfl rfl ?_
  refine r_callVW K h hl (wd0 0 (by omega) rfl (c_X4_isIdle l g (wa 0) (V 0) p (by omega)) (lvB g b wa (nI pn) (nI pk) (sc) (fk) (sa) (sb) (sr) (rb))) mc_X4_isIdle vm_X4_isIdle mlX5_69 8 rfl rfl rfl rfl _ rfl (by decide) (by decide) rfl rfl (Nat.le_of_ble_eq_true rfl) ⟨Nat.zero_le _, Nat.zero_le _⟩ dX5_beginAct_5 (fun H locs h => ?_)
  refine W.eq (g2 := F0 m 8 ls [_]) rfl ?_
  refine r_zneB K 14 dX5_beginAct_8 (by decide) (fun _ => ?_) (fun c => absurd ((hid).symm.trans c) (by decide))
  refine r_aln K hl 0 dX5_beginAct_14 rfl rfl ?_
  refine r_get K h ffX5_10 0 rfl rfl dX5_beginAct_15 ?_
  refine r_getE K h ffX5_190 8 rfl rfl (congrArg Value.int h04) dX5_beginAct_18 ?_
  refine r_bp K (nI 24) dX5_beginAct_21 kb_24 ?_
  refine r_cltN K 29 dX5_beginAct_23 (by decide) (by omega) (by omega) (fun c23 => ?_) (fun c => absurd c (by omega))
  refine r_aln K hl 0 dX5_beginAct_29 rfl rfl ?_
  refine r_callVW K h hl (c_X5_remember l g b wa fk sa sb sr rb V f n mv ph wr t hR pn pk hpn hpk sc) mc_X5_remember vm_X5_remember mlX5_55 0 rfl rfl rfl (lv_fst rfl) _ rfl (by decide) (by decide) rfl rfl (Nat.le_of_ble_eq_true rfl) ⟨Nat.zero_le _, Nat.zero_le _⟩ dX5_beginAct_30 (fun H locs h => ?_)
  refine W.eq (g2 := F0 m 33 ls []) rfl ?_
  refine r_aln K hl 0 dX5_beginAct_33 rfl rfl ?_
  refine r_get K h ffX5_10 0 rfl rfl dX5_beginAct_34 ?_
  refine r_iln K hl 1 dX5_beginAct_37 rfl rfl ?_
  refine r_iln K hl 2 dX5_beginAct_38 rfl rfl ?_
  refine r_iln K hl 3 dX5_beginAct_39 rfl rfl ?_
  refine r_callVW K h hl (wd1 0 (by omega) (setV_ne (by omega)) (c_X4_beginAct l g (wa 0) (V 0) p (by omega) kd v) (lvB g b wa (nI (nN pn)) (nI (nU pk)) (sc) (fk) (sa) (sb) (sr) (rb))) mc_X4_beginAct vm_X4_beginAct mlX5_198 8 rfl rfl rfl (lv_fst rfl) _ rfl (by decide) (by decide) rfl rfl (Nat.le_of_ble_eq_true rfl) ⟨Nat.zero_le _, Nat.zero_le _⟩ dX5_beginAct_40 (fun H locs h => ?_)
  refine W.eq (g2 := F0 m 43 ls []) rfl ?_
  refine r_aln K hl 0 dX5_beginAct_43 rfl rfl ?_
  refine r_get K h ffX5_10 0 rfl rfl dX5_beginAct_44 ?_
  refine r_getE K h ffX5_178 8 rfl rfl (congrArg Value.int (by rw [setV_eq, cBeg_0, upd_ne (by omega)])) dX5_beginAct_47 ?_
  exact hr.1 _ _ _ _ _ dX5_beginAct_50 h rfl

