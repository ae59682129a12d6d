theorem in_L {l : Launch} {g : GG} {y : MethodName} {cc : ByteArray} {n : Nat} {rt : Option FieldType} {d : Nat} {av : List Value} {ans : Option Value} {a : Nat → Nat} {V : Nat → Row} (h : Ct l g y cc n rt d av (sL g a V) ans (sL g a V)) : Ct l g y cc n rt d av (wW g a V) ans (wW g a V) := by
  refine h.frameP (sA g a V ++ (sC g a V ++ (sR g a ++ (sT g a V 0 ++ (sT g a V 1 ++ (sT g a V 2 ++ (sT g a V 3 ++ sH g a V))))))) (perm_cnt fun c hc => ?_) (perm_cnt fun c hc => ?_) <;>
  · rw [wW_seg]; simp only [hc]; omega
theorem in_T {l : Launch} {g : GG} {y : MethodName} {cc : ByteArray} {n : Nat} {rt : Option FieldType} {d : Nat} {av : List Value} {ans : Option Value} {a : Nat → Nat} {V : Nat → Row} (i : Nat) (hi : i < 4) (h : Ct l g y cc n rt d av (sT g a V i) ans (sT g a V i)) : Ct l g y cc n rt d av (wW g a V) ans (wW g a V) := by
  rcases (by omega : i = 0 ∨ i = 1 ∨ i = 2 ∨ i = 3) with rfl | rfl | rfl | rfl
  · refine h.frameP (sA g a V ++ (sC g a V ++ (sR g a ++ (sT g a V 1 ++ (sT g a V 2 ++ (sT g a V 3 ++ (sL g a V ++ sH g a V))))))) (perm_cnt fun c hc => ?_) (perm_cnt fun c hc => ?_) <;>
    · rw [wW_seg]; simp only [hc]; omega
  · refine h.frameP (sA g a V ++ (sC g a V ++ (sR g a ++ (sT g a V 0 ++ (sT g a V 2 ++ (sT g a V 3 ++ (sL g a V ++ sH g a V))))))) (perm_cnt fun c hc => ?_) (perm_cnt fun c hc => ?_) <;>
    · rw [wW_seg]; simp only [hc]; omega
  · refine h.frameP (sA g a V ++ (sC g a V ++ (sR g a ++ (sT g a V 0 ++ (sT g a V 1 ++ (sT g a V 3 ++ (sL g a V ++ sH g a V))))))) (perm_cnt fun c hc => ?_) (perm_cnt fun c hc => ?_) <;>
    · rw [wW_seg]; simp only [hc]; omega
  · refine h.frameP (sA g a V ++ (sC g a V ++ (sR g a ++ (sT g a V 0 ++ (sT g a V 1 ++ (sT g a V 2 ++ (sL g a V ++ sH g a V))))))) (perm_cnt fun c hc => ?_) (perm_cnt fun c hc => ?_) <;>
    · rw [wW_seg]; simp only [hc]; omega
set_option maxHeartbeats 4000000 in
set_option maxRecDepth 100000 in
theorem c_X5_undo_state (l : Launch) (g : GG) (b : Nat → Nat) (wa : Nat → Nat → Nat) (fk sa sb sr rb : Row) (V : Nat → Nat → Row) (pn sc : Int32) : Ct l g yX5_undo cX5_undo 1 (some .int) 6 [.ref (b 0)] (lvB g b wa (pn) (nI 0) (sc) (fk) (sa) (sb) (sr) (rb) ++ WS g wa (V)) (some (.int (-2))) (lvB g b wa (pn) (nI 0) (sc) (fk) (sa) (sb) (sr) (rb) ++ WS g wa (V)) := by
  refine Ct.start (by decide +kernel) (Nat.le_of_ble_eq_true rfl) (by simp [Value.category]) (Or.inr ⟨.int, _, rfl, rfl, rfl⟩) ?_
  intro p0 e R s m args below meth c A Q K hr h ls hl
  have hl : Lq ls 1 [some (.ref (b 0))] := hl
  refine r_aln K hl 0 dX5_undo_0 rfl rfl ?_
  refine r_get K h ffX5_76 0 rfl rfl dX5_undo_1 ?_
  refine r_zne K 10 dX5_undo_4 (by decide) (fun c => absurd c (fun q => q rfl)) (fun c4 => ?_)
  refine r_bp K (-2) dX5_undo_7 kb_m2 ?_
  exact hr.1 _ _ _ _ _ dX5_undo_9 h rfl

set_option maxHeartbeats 4000000 in
set_option maxRecDepth 100000 in
theorem c_X5_undo_ok (l : Launch) (g : GG) (b : Nat → Nat) (wa : Nat → Nat → Nat) (fk sa sb sr rb : Row) (V : Nat → Nat → Row) (pn u : Nat) (hpn : pn < 5) (hu : u < 5) (sc : Int32) (f : Row) (n mv ph wr t : Nat) (hR : Rel (V (2 + pP pn)) f n mv ph wr t) : Ct l g yX5_undo cX5_undo 1 (some .int) 6 [.ref (b 0)] (lvB g b wa (nI pn) (nI (u + 1)) (sc) (fk) (sa) (sb) (sr) (rb) ++ WS g wa (V)) (some (.int (nI u))) (lvB g b wa (nI (pP pn)) (nI u) (sc) (fk) (sa) (sb) (sr) (rb) ++ WS g wa (setV V 0 (cCop (V 0) (V (2 + pP pn)) ph wr))) := by
  obtain ⟨hn2, hn, hm1, hm, hph, hwr⟩ := hR.1.1
  refine Ct.start (by decide +kernel) (Nat.le_of_ble_eq_true rfl) (by simp [Value.category]) (Or.inr ⟨.int, _, rfl, rfl, rfl⟩) ?_
  intro p0 e R s m args below meth c A Q K hr h ls hl
  have hl : Lq ls 1 [some (.ref (b 0))] := hl
  refine r_aln K hl 0 dX5_undo_0 rfl rfl ?_
  refine r_get K h ffX5_76 0 rfl rfl dX5_undo_1 ?_
  refine r_zne K 10 dX5_undo_4 (by decide) (fun c4 => ?_) (fun c => absurd c (show ¬ nI (u + 1) = nI 0 from nIne (by omega) (by omega) (by omega)))
  refine r_aln K hl 0 dX5_undo_10 rfl rfl ?_
  refine r_aln K hl 0 dX5_undo_11 rfl rfl ?_
  refine r_get K h ffX5_79 0 rfl rfl dX5_undo_12 ?_
  refine r_zne K 22 dX5_undo_15 (by decide) (fun c15 => ?_) (fun c15 => ?_)
  · have hpn0 : pn ≠ 0 := fun q => c15 (by rw [q]; rfl)
    have hpq : pP pn = pn - 1 := if_neg hpn0
    refine r_aln K hl 0 dX5_undo_22 rfl rfl ?_
    refine r_get K h ffX5_79 0 rfl rfl dX5_undo_23 ?_
    refine r_ic K (nI 1) dX5_undo_26 k_1 ?_
    refine r_subN K (by omega) dX5_undo_27 ?_
    refine r_put K h ffX5_79 pfX5_3 0 [_, _, _, _, _, _, _, _, _, _, _, _] (_ :: _ :: _ :: _ :: _ :: _ :: _ :: _ :: _) rfl rfl rfl (Nat.le_of_ble_eq_true rfl) rfl rfl dX5_undo_28 (fun H locs h => ?_)
    refine r_aln K hl 0 dX5_undo_31 rfl rfl ?_
    refine r_dup K dX5_undo_32 rfl ?_
    refine r_get K h ffX5_76 0 rfl rfl dX5_undo_33 ?_
    refine r_ic K (nI 1) dX5_undo_36 k_1 ?_
    refine r_subN K (by omega) dX5_undo_37 ?_
    refine r_put K h ffX5_76 pfX5_4 0 [_, _, _, _, _, _, _, _, _, _, _, _] (_ :: _ :: _ :: _ :: _ :: _ :: _ :: _ :: _) rfl rfl rfl (Nat.le_of_ble_eq_true rfl) rfl rfl dX5_undo_38 (fun H locs h => ?_)
    refine r_aln K hl 0 dX5_undo_41 rfl rfl ?_
    refine r_get K h ffX5_10 0 rfl rfl dX5_undo_42 ?_
    have h := h.to (show _ = (lvB g b wa (nI (pP pn)) (nI u) (sc) (fk) (sa) (sb) (sr) (rb) ++ WS g wa (V)) by rw [hpq]; rfl)
    refine r_aln K hl 0 dX5_undo_45 rfl rfl ?_
    refine r_get K h ffX5_19 0 rfl rfl dX5_undo_46 ?_
    refine r_aln K hl 0 dX5_undo_49 rfl rfl ?_
    refine r_get K h ffX5_79 0 rfl rfl dX5_undo_50 ?_
    refine r_aal3 K h 1 rfl (pP_lt hpn) (by decide) rfl dX5_undo_53 ?_
    refine r_callVW K h hl (wd2 0 (2 + pP pn) (by omega) (by have := pP_lt hpn; omega) (by omega) rfl rfl (c_X4_copyFrom l g (wa (0)) (wa (2 + pP pn)) (V 0) (V (2 + pP pn)) ph wr hph hwr hR.2.2.1.2.2.2.2.2.1 hR.2.2.1.2.2.2.2.2.2 hR.hz) (lvB g b wa (nI (pP pn)) (nI u) (sc) (fk) (sa) (sb) (sr) (rb))) mc_X4_copyFrom vm_X4_copyFrom mlX5_82 8 rfl rfl rfl (lv_fst rfl) _ rfl (by decide) (by decide) rfl rfl (Nat.le_of_ble_eq_true rfl) ⟨Nat.zero_le _, Nat.zero_le _⟩ dX5_undo_54 (fun H locs h => ?_)
    refine W.eq (g2 := F0 m 57 ls []) rfl ?_
    refine r_aln K hl 0 dX5_undo_57 rfl rfl ?_
    refine r_get K h ffX5_76 0 rfl rfl dX5_undo_58 ?_
    exact hr.1 _ _ _ _ _ dX5_undo_61 h rfl
  · have hpq : pP pn = 4 := if_pos (Classical.byContradiction fun q => nIne (b := 0) (by omega) (by omega) q c15)
    refine r_ic K (nI 4) dX5_undo_18 k_4 ?_
    refine r_go K 28 dX5_undo_19 (by decide) ?_
    refine r_put K h ffX5_79 pfX5_3 0 [_, _, _, _, _, _, _, _, _, _, _, _] (_ :: _ :: _ :: _ :: _ :: _ :: _ :: _ :: _) rfl rfl rfl (Nat.le_of_ble_eq_true rfl) rfl rfl dX5_undo_28 (fun H locs h => ?_)
    refine r_aln K hl 0 dX5_undo_31 rfl rfl ?_
    refine r_dup K dX5_undo_32 rfl ?_
    refine r_get K h ffX5_76 0 rfl rfl dX5_undo_33 ?_
    refine r_ic K (nI 1) dX5_undo_36 k_1 ?_
    refine r_subN K (by omega) dX5_undo_37 ?_
    refine r_put K h ffX5_76 pfX5_4 0 [_, _, _, _, _, _, _, _, _, _, _, _] (_ :: _ :: _ :: _ :: _ :: _ :: _ :: _ :: _) rfl rfl rfl (Nat.le_of_ble_eq_true rfl) rfl rfl dX5_undo_38 (fun H locs h => ?_)
    refine r_aln K hl 0 dX5_undo_41 rfl rfl ?_
    refine r_get K h ffX5_10 0 rfl rfl dX5_undo_42 ?_
    have h := h.to (show _ = (lvB g b wa (nI (pP pn)) (nI u) (sc) (fk) (sa) (sb) (sr) (rb) ++ WS g wa (V)) by rw [hpq]; rfl)
    refine r_aln K hl 0 dX5_undo_45 rfl rfl ?_
    refine r_get K h ffX5_19 0 rfl rfl dX5_undo_46 ?_
    refine r_aln K hl 0 dX5_undo_49 rfl rfl ?_
    refine r_get K h ffX5_79 0 rfl rfl dX5_undo_50 ?_
    refine r_aal3 K h 1 rfl (pP_lt hpn) (by decide) rfl dX5_undo_53 ?_
    refine r_callVW K h hl (wd2 0 (2 + pP pn) (by omega) (by have := pP_lt hpn; omega) (by omega) rfl rfl (c_X4_copyFrom l g (wa (0)) (wa (2 + pP pn)) (V 0) (V (2 + pP pn)) ph wr hph hwr hR.2.2.1.2.2.2.2.2.1 hR.2.2.1.2.2.2.2.2.2 hR.hz) (lvB g b wa (nI (pP pn)) (nI u) (sc) (fk) (sa) (sb) (sr) (rb))) mc_X4_copyFrom vm_X4_copyFrom mlX5_82 8 rfl rfl rfl (lv_fst rfl) _ rfl (by decide) (by decide) rfl rfl (Nat.le_of_ble_eq_true rfl) ⟨Nat.zero_le _, Nat.zero_le _⟩ dX5_undo_54 (fun H locs h => ?_)
    refine W.eq (g2 := F0 m 57 ls []) rfl ?_
    refine r_aln K hl 0 dX5_undo_57 rfl rfl ?_
    refine r_get K h ffX5_76 0 rfl rfl dX5_undo_58 ?_
    exact hr.1 _ _ _ _ _ dX5_undo_61 h rfl

set_option maxHeartbeats 4000000 in
set_option maxRecDepth 100000 in
theorem c_X5_keep_bad (l : Launch) (g : GG) (b : Nat → Nat) (wa : Nat → Nat → Nat) (fk sa sb sr rb : Row) (V : Nat → Nat → Row) (pn pk sc : Int32) (x : Int32) (hb : inB x (nI 0) (nI 1) = false) : Ct l g yX5_keep cX5_keep 2 (some .int) 6 [.ref (b 0), .int x] (lvB g b wa (pn) (pk) (sc) (fk) (sa) (sb) (sr) (rb) ++ WS g wa (V)) (some (.int (-1))) (lvB g b wa (pn) (pk) (sc) (fk) (sa) (sb) (sr) (rb) ++ WS g wa (V)) := by
  refine Ct.start (by decide +kernel) (Nat.le_of_ble_eq_true rfl) (by simp [Value.category]) (Or.inr ⟨.int, _, rfl, rfl, rfl⟩) ?_
  intro p0 e R s m args below meth c A Q K hr h ls hl
  have hl : Lq ls 2 [some (.ref (b 0)), some (.int x)] := hl
  refine r_iln K hl 1 dX5_keep_0 rfl rfl ?_
  refine r_ic K (nI 0) dX5_keep_1 k_0 ?_
  refine r_ic K (nI 1) dX5_keep_2 k_1 ?_
  refine r_callS K h hl (c_X5_isWithin l g x (nI 0) (nI 1)) mc_X5_isWithin st_X5_isWithin mlX5_47 [] (by decide +kernel) rfl rfl (_ :: _ :: _ :: _ :: _ :: _ :: _ :: _ :: _) rfl (by decide) (by decide) rfl rfl (Nat.le_of_ble_eq_true rfl) ⟨Nat.zero_le _, Nat.zero_le _⟩ dX5_keep_3 (fun H locs h => ?_)
  refine W.eq (g2 := F0 m 6 ls [_]) rfl ?_
  refine r_zneB K 11 dX5_keep_6 (by decide) (fun c => absurd ((hb).symm.trans c) (by decide)) (fun _ => ?_)
  refine r_ic K (-1) dX5_keep_9 k_m1 ?_
  exact hr.1 _ _ _ _ _ dX5_keep_10 h rfl

set_option maxHeartbeats 4000000 in
set_option maxRecDepth 100000 in
theorem c_X5_back_bad (l : Launch) (g : GG) (b : Nat → Nat) (wa : Nat → Nat → Nat) (fk sa sb sr rb : Row) (V : Nat → Nat → Row) (pn pk sc : Int32) (x : Int32) (hb : inB x (nI 0) (nI 1) = false) : Ct l g yX5_back cX5_back 2 (some .int) 6 [.ref (b 0), .int x] (lvB g b wa (pn) (pk) (sc) (fk) (sa) (sb) (sr) (rb) ++ WS g wa (V)) (some (.int (-1))) (lvB g b wa (pn) (pk) (sc) (fk) (sa) (sb) (sr) (rb) ++ WS g wa (V)) := by
  refine Ct.start (by decide +kernel) (Nat.le_of_ble_eq_true rfl) (by simp [Value.category]) (Or.inr ⟨.int, _, rfl, rfl, rfl⟩) ?_
  intro p0 e R s m args below meth c A Q K hr h ls hl
  have hl : Lq ls 2 [some (.ref (b 0)), some (.int x)] := hl
  refine r_iln K hl 1 dX5_back_0 rfl rfl ?_
  refine r_ic K (nI 0) dX5_back_1 k_0 ?_
  refine r_ic K (nI 1) dX5_back_2 k_1 ?_
  refine r_callS K h hl (c_X5_isWithin l g x (nI 0) (nI 1)) mc_X5_isWithin st_X5_isWithin mlX5_47 [] (by decide +kernel) rfl rfl (_ :: _ :: _ :: _ :: _ :: _ :: _ :: _ :: _) rfl (by decide) (by decide) rfl rfl (Nat.le_of_ble_eq_true rfl) ⟨Nat.zero_le _, Nat.zero_le _⟩ dX5_back_3 (fun H locs h => ?_)
  refine W.eq (g2 := F0 m 6 ls [_]) rfl ?_
  refine r_zneB K 11 dX5_back_6 (by decide) (fun c => absurd ((hb).symm.trans c) (by decide)) (fun _ => ?_)
  refine r_ic K (-1) dX5_back_9 k_m1 ?_
  exact hr.1 _ _ _ _ _ dX5_back_10 h rfl

set_option maxHeartbeats 4000000 in
set_option maxRecDepth 100000 in
theorem c_X5_keep_ok (l : Launch) (g : GG) (b : Nat → Nat) (wa : Nat → Nat → Nat) (fk sa sb sr rb : Row) (V : Nat → Nat → Row) (pn pk sc : Int32) (f : Row) (n mv ph wr t : Nat) (hR : Rel (V (0)) f n mv ph wr t) (k : Nat) (hk : k ≤ 1) : Ct l g yX5_keep cX5_keep 2 (some .int) 6 [.ref (b 0), .int (nI k)] (lvB g b wa (pn) (pk) (sc) (fk) (sa) (sb) (sr) (rb) ++ WS g wa (V)) (some (.int (f 3))) (lvB g b wa (pn) (pk) (sc) (upd fk k (nI 1)) (sa) (sb) (sr) (rb) ++ WS g wa (setV V (7 + k) (cCop (V (7 + k)) (V 0) ph wr))) := by
  obtain ⟨hn2, hn, hm1, hm, hph, hwr⟩ := hR.1.1
  refine Ct.start (by decide +kernel) (Nat.le_of_ble_eq_true rfl) (by simp [Value.category]) (Or.inr ⟨.int, _, rfl, rfl, rfl⟩) ?_
  intro p0 e R s m args below meth c A Q K hr h ls hl
  have hl : Lq ls 2 [some (.ref (b 0)), some (.int (nI k))] := hl
  refine r_iln K hl 1 dX5_keep_0 rfl rfl ?_
  refine r_ic K (nI 0) dX5_keep_1 k_0 ?_
  refine r_ic K (nI 1) dX5_keep_2 k_1 ?_
  refine r_callS K h hl (c_X5_isWithin l g (nI k) (nI 0) (nI 1)) mc_X5_isWithin st_X5_isWithin mlX5_47 [] (by decide +kernel) rfl rfl (_ :: _ :: _ :: _ :: _ :: _ :: _ :: _ :: _) rfl (by decide) (by decide) rfl rfl (Nat.le_of_ble_eq_true rfl) ⟨Nat.zero_le _, Nat.zero_le _⟩ dX5_keep_3 (fun H locs h => ?_)
  refine W.eq (g2 := F0 m 6 ls [_]) rfl ?_
  refine r_zneB K 11 dX5_keep_6 (by decide) (fun _ => ?_) (fun c => absurd (((inB_of (Nat.zero_le _) hk (by omega))).symm.trans c) (by decide))
  refine r_aln K hl 0 dX5_keep_11 rfl rfl ?_
  refine r_get K h ffX5_23 0 rfl rfl dX5_keep_12 ?_
  refine r_iln K hl 1 dX5_keep_15 rfl rfl ?_
  refine r_aal3 K h 2 rfl (by omega) (by decide) rfl dX5_keep_16 ?_
  refine r_aln K hl 0 dX5_keep_17 rfl rfl ?_
  refine r_get K h ffX5_10 0 rfl rfl dX5_keep_18 ?_
  refine r_callVW K h hl (wd2 (7 + k) 0 (by omega) (by omega) (by omega) rfl rfl (c_X4_copyFrom l g (wa (7 + k)) (wa (0)) (V (7 + k)) (V 0) ph wr hph hwr hR.2.2.1.2.2.2.2.2.1 hR.2.2.1.2.2.2.2.2.2 hR.hz) (lvB g b wa (pn) (pk) (sc) (fk) (sa) (sb) (sr) (rb))) mc_X4_copyFrom vm_X4_copyFrom mlX5_82 (8 + 45 * (7 + k)) (lvx_at (7 + k) (by omega)) rfl rfl (lv_fst rfl) _ rfl (by decide) (by decide) rfl rfl (Nat.le_of_ble_eq_true rfl) ⟨Nat.zero_le _, Nat.zero_le _⟩ dX5_keep_21 (fun H locs h => ?_)
  refine W.eq (g2 := F0 m 24 ls []) rfl ?_
  refine r_aln K hl 0 dX5_keep_24 rfl rfl ?_
  refine r_get K h ffX5_26 0 rfl rfl dX5_keep_25 ?_
  refine r_iln K hl 1 dX5_keep_28 rfl rfl ?_
  refine r_ic K (nI 1) dX5_keep_29 k_1 ?_
  refine r_zas K h 3 (_ :: _ :: _ :: _ :: _ :: _ :: _ :: _ :: _) rfl (by omega) (by decide) (by decide) rfl dX5_keep_30 (fun H locs h => ?_)
  refine r_aln K hl 0 dX5_keep_31 rfl rfl ?_
  refine r_get K h ffX5_10 0 rfl rfl dX5_keep_32 ?_
  refine r_getE K h ffX5_178 8 rfl rfl (congrArg Value.int ((congrFun (congrFun (setV_ne (by omega)) 0) 3).trans (rel_tm hR))) dX5_keep_35 ?_
  exact hr.1 _ _ _ _ _ dX5_keep_38 h rfl

set_option maxHeartbeats 4000000 in
set_option maxRecDepth 100000 in
theorem c_X5_back_state (l : Launch) (g : GG) (b : Nat → Nat) (wa : Nat → Nat → Nat) (fk sa sb sr rb : Row) (V : Nat → Nat → Row) (pn pk sc : Int32) (k : Nat) (hk : k ≤ 1) (hb : fk k = 0) : Ct l g yX5_back cX5_back 2 (some .int) 6 [.ref (b 0), .int (nI k)] (lvB g b wa (pn) (pk) (sc) (fk) (sa) (sb) (sr) (rb) ++ WS g wa (V)) (some (.int (-2))) (lvB g b wa (pn) (pk) (sc) (fk) (sa) (sb) (sr) (rb) ++ WS g wa (V)) := by
  refine Ct.start (by decide +kernel) (Nat.le_of_ble_eq_true rfl) (by simp [Value.category]) (Or.inr ⟨.int, _, rfl, rfl, rfl⟩) ?_
  intro p0 e R s m args below meth c A Q K hr h ls hl
  have hl : Lq ls 2 [some (.ref (b 0)), some (.int (nI k))] := hl
  refine r_iln K hl 1 dX5_back_0 rfl rfl ?_
  refine r_ic K (nI 0) dX5_back_1 k_0 ?_
  refine r_ic K (nI 1) dX5_back_2 k_1 ?_
  refine r_callS K h hl (c_X5_isWithin l g (nI k) (nI 0) (nI 1)) mc_X5_isWithin st_X5_isWithin mlX5_47 [] (by decide +kernel) rfl rfl (_ :: _ :: _ :: _ :: _ :: _ :: _ :: _ :: _) rfl (by decide) (by decide) rfl rfl (Nat.le_of_ble_eq_true rfl) ⟨Nat.zero_le _, Nat.zero_le _⟩ dX5_back_3 (fun H locs h => ?_)
  refine W.eq (g2 := F0 m 6 ls [_]) rfl ?_
  refine r_zneB K 11 dX5_back_6 (by decide) (fun _ => ?_) (fun c => absurd (((inB_of (Nat.zero_le _) hk (by omega))).symm.trans c) (by decide))
  refine r_aln K hl 0 dX5_back_11 rfl rfl ?_
  refine r_get K h ffX5_26 0 rfl rfl dX5_back_12 ?_
  refine r_iln K hl 1 dX5_back_15 rfl rfl ?_
  refine r_zal K h 3 rfl (by omega) (by decide) dX5_back_16 ?_
  refine r_zne K 23 dX5_back_17 (by decide) (fun c => absurd c (fun q => q hb)) (fun c17 => ?_)
  refine r_bp K (-2) dX5_back_20 kb_m2 ?_
  exact hr.1 _ _ _ _ _ dX5_back_22 h rfl

set_option maxHeartbeats 4000000 in
set_option maxRecDepth 100000 in
theorem c_X5_back_ok (l : Launch) (g : GG) (b : Nat → Nat) (wa : Nat → Nat → Nat) (fk sa sb sr rb : Row) (V : Nat → Nat → Row) (pn pk sc : Int32) (k : Nat) (hk : k ≤ 1) (hb : ¬ fk k = 0) (f : Row) (n mv ph wr t : Nat) (hR : Rel (V (7 + k)) f n mv ph wr t) : Ct l g yX5_back cX5_back 2 (some .int) 6 [.ref (b 0), .int (nI k)] (lvB g b wa (pn) (pk) (sc) (fk) (sa) (sb) (sr) (rb) ++ WS g wa (V)) (some (.int (f 3))) (lvB g b wa (pn) (nI 0) (sc) (fk) (sa) (sb) (sr) (rb) ++ WS g wa (setV V 0 (cCop (V 0) (V (7 + k)) ph wr))) := by
  obtain ⟨hn2, hn, hm1, hm, hph, hwr⟩ := hR.1.1
  refine Ct.start (by decide +kernel) (Nat.le_of_ble_eq_true rfl) (by simp [Value.category]) (Or.inr ⟨.int, _, rfl, rfl, rfl⟩) ?_
  intro p0 e R s m args below meth c A Q K hr h ls hl
  have hl : Lq ls 2 [some (.ref (b 0)), some (.int (nI k))] := hl
  refine r_iln K hl 1 dX5_back_0 rfl rfl ?_
  refine r_ic K (nI 0) dX5_back_1 k_0 ?_
  refine r_ic K (nI 1) dX5_back_2 k_1 ?_
  refine r_callS K h hl (c_X5_isWithin l g (nI k) (nI 0) (nI 1)) mc_X5_isWithin st_X5_isWithin mlX5_47 [] (by decide +kernel) rfl rfl (_ :: _ :: _ :: _ :: _ :: _ :: _ :: _ :: _) rfl (by decide) (by decide) rfl rfl (Nat.le_of_ble_eq_true rfl) ⟨Nat.zero_le _, Nat.zero_le _⟩ dX5_back_3 (fun H locs h => ?_)
  refine W.eq (g2 := F0 m 6 ls [_]) rfl ?_
  refine r_zneB K 11 dX5_back_6 (by decide) (fun _ => ?_) (fun c => absurd (((inB_of (Nat.zero_le _) hk (by omega))).symm.trans c) (by decide))
  refine r_aln K hl 0 dX5_back_11 rfl rfl ?_
  refine r_get K h ffX5_26 0 rfl rfl dX5_back_12 ?_
  refine r_iln K hl 1 dX5_back_15 rfl rfl ?_
  refine r_zal K h 3 rfl (by omega) (by decide) dX5_back_16 ?_
  refine r_zne K 23 dX5_back_17 (by decide) (fun c17 => ?_) (fun c => absurd c hb)
  refine r_aln K hl 0 dX5_back_23 rfl rfl ?_
  refine r_get K h ffX5_10 0 rfl rfl dX5_back_24 ?_
  refine r_aln K hl 0 dX5_back_27 rfl rfl ?_
  refine r_get K h ffX5_23 0 rfl rfl dX5_back_28 ?_
  refine r_iln K hl 1 dX5_back_31 rfl rfl ?_
  refine r_aal3 K h 2 rfl (by omega) (by decide) rfl dX5_back_32 ?_
  refine r_callVW K h hl (wd2 0 (7 + k) (by omega) (by omega) (by omega) rfl rfl (c_X4_copyFrom l g (wa (0)) (wa (7 + k)) (V 0) (V (7 + k)) ph wr hph hwr hR.2.2.1.2.2.2.2.2.1 hR.2.2.1.2.2.2.2.2.2 hR.hz) (lvB g b wa (pn) (pk) (sc) (fk) (sa) (sb) (sr) (rb))) mc_X4_copyFrom vm_X4_copyFrom mlX5_82 8 rfl rfl rfl (lv_fst rfl) _ rfl (by decide) (by decide) rfl rfl (Nat.le_of_ble_eq_true rfl) ⟨Nat.zero_le _, Nat.zero_le _⟩ dX5_back_33 (fun H locs h => ?_)
  refine W.eq (g2 := F0 m 36 ls []) rfl ?_
  refine r_aln K hl 0 dX5_back_36 rfl rfl ?_
  refine r_ic K (nI 0) dX5_back_37 k_0 ?_
  refine r_put K h ffX5_76 pfX5_4 0 [_, _, _, _, _, _, _, _, _, _, _, _] (_ :: _ :: _ :: _ :: _ :: _ :: _ :: _ :: _) rfl rfl rfl (Nat.le_of_ble_eq_true rfl) rfl rfl dX5_back_38 (fun H locs h => ?_)
  refine r_aln K hl 0 dX5_back_41 rfl rfl ?_
  refine r_get K h ffX5_10 0 rfl rfl dX5_back_42 ?_
  refine r_getE K h ffX5_178 8 rfl rfl (congrArg Value.int (rel_tm (rel_cop hR))) dX5_back_45 ?_
  exact hr.1 _ _ _ _ _ dX5_back_48 h rfl

set_option maxHeartbeats 4000000 in
set_option maxRecDepth 100000 in
theorem c_X5_sees_bad (l : Launch) (g : GG) (b : Nat → Nat) (wa : Nat → Nat → Nat) (fk sa sb sr rb : Row) (V : Nat → Nat → Row) (pn pk sc : Int32) (x y z : Int32) (hb : ((inB x (nI 1) (nI 4) && inB y (nI 1) (nI 4)) && inB z (nI 0) (nI 99)) = false) : Ct l g yX5_sees cX5_sees 4 (some .int) 6 [.ref (b 0), .int x, .int y, .int z] (lvB g b wa (pn) (pk) (sc) (fk) (sa) (sb) (sr) (rb) ++ WS g wa (V)) (some (.int (-1))) (lvB g b wa (pn) (pk) (sc) (fk) (sa) (sb) (sr) (rb) ++ WS g wa (V)) := by
  refine Ct.start (by decide +kernel) (Nat.le_of_ble_eq_true rfl) (by simp [Value.category]) (Or.inr ⟨.int, _, rfl, rfl, rfl⟩) ?_
  intro p0 e R s m args below meth c A Q K hr h ls hl
  have hl : Lq ls 4 [some (.ref (b 0)), some (.int x), some (.int y), some (.int z)] := hl
  refine r_iln K hl 1 dX5_sees_0 rfl rfl ?_
  refine r_callS K h hl (c_X5_isPace l g x) mc_X5_isPace st_X5_isPace mlX5_160 [] (by decide +kernel) rfl rfl (_ :: _ :: _ :: _ :: _ :: _ :: _ :: _ :: _) rfl (by decide) (by decide) rfl rfl (Nat.le_of_ble_eq_true rfl) ⟨Nat.zero_le _, Nat.zero_le _⟩ dX5_sees_1 (fun H locs h => ?_)
  refine W.eq (g2 := F0 m 4 ls [_]) rfl ?_
  refine r_zeqB K 24 dX5_sees_4 (by decide) (fun c4 => ?_) (fun c4 => ?_)
  · refine r_ic K (-1) dX5_sees_24 k_m1 ?_
    exact hr.1 _ _ _ _ _ dX5_sees_25 h rfl
  · refine r_iln K hl 2 dX5_sees_7 rfl rfl ?_
    refine r_callS K h hl (c_X5_isPace l g y) mc_X5_isPace st_X5_isPace mlX5_160 [] (by decide +kernel) rfl rfl (_ :: _ :: _ :: _ :: _ :: _ :: _ :: _ :: _) rfl (by decide) (by decide) rfl rfl (Nat.le_of_ble_eq_true rfl) ⟨Nat.zero_le _, Nat.zero_le _⟩ dX5_sees_8 (fun H locs h => ?_)
    refine W.eq (g2 := F0 m 11 ls [_]) rfl ?_
    refine r_zeqB K 24 dX5_sees_11 (by decide) (fun c11 => ?_) (fun c11 => ?_)
    · refine r_ic K (-1) dX5_sees_24 k_m1 ?_
      exact hr.1 _ _ _ _ _ dX5_sees_25 h rfl
    · refine r_iln K hl 3 dX5_sees_14 rfl rfl ?_
      refine r_ic K (nI 0) dX5_sees_15 k_0 ?_
      refine r_bp K (nI 99) dX5_sees_16 kb_99 ?_
      refine r_callS K h hl (c_X5_isWithin l g z (nI 0) (nI 99)) mc_X5_isWithin st_X5_isWithin mlX5_47 [] (by decide +kernel) rfl rfl (_ :: _ :: _ :: _ :: _ :: _ :: _ :: _ :: _) rfl (by decide) (by decide) rfl rfl (Nat.le_of_ble_eq_true rfl) ⟨Nat.zero_le _, Nat.zero_le _⟩ dX5_sees_18 (fun H locs h => ?_)
      refine W.eq (g2 := F0 m 21 ls [_]) rfl ?_
      refine r_zneB K 26 dX5_sees_21 (by decide) (fun c => absurd (((show inB z (nI 0) (nI 99) = false by rw [c4, c11, Bool.true_and, Bool.true_and] at hb; exact hb)).symm.trans c) (by decide)) (fun _ => ?_)
      refine r_ic K (-1) dX5_sees_24 k_m1 ?_
      exact hr.1 _ _ _ _ _ dX5_sees_25 h rfl

set_option maxHeartbeats 4000000 in
set_option maxRecDepth 100000 in
theorem c_X5_sees_full (l : Launch) (g : GG) (b : Nat → Nat) (wa : Nat → Nat → Nat) (fk sa sb sr rb : Row) (V : Nat → Nat → Row) (pn pk : Int32) (x y z : Int32) (hb : ((inB x (nI 1) (nI 4) && inB y (nI 1) (nI 4)) && inB z (nI 0) (nI 99)) = true) : Ct l g yX5_sees cX5_sees 4 (some .int) 6 [.ref (b 0), .int x, .int y, .int z] (lvB g b wa (pn) (pk) (nI 6) (fk) (sa) (sb) (sr) (rb) ++ WS g wa (V)) (some (.int (-3))) (lvB g b wa (pn) (pk) (nI 6) (fk) (sa) (sb) (sr) (rb) ++ WS g wa (V)) := by
  refine Ct.start (by decide +kernel) (Nat.le_of_ble_eq_true rfl) (by simp [Value.category]) (Or.inr ⟨.int, _, rfl, rfl, rfl⟩) ?_
  intro p0 e R s m args below meth c A Q K hr h ls hl
  have hl : Lq ls 4 [some (.ref (b 0)), some (.int x), some (.int y), some (.int z)] := hl
  have hb1 := (Bool.and_eq_true _ _).mp hb
  have hb2 := (Bool.and_eq_true _ _).mp hb1.1
  refine r_iln K hl 1 dX5_sees_0 rfl rfl ?_
  refine r_callS K h hl (c_X5_isPace l g x) mc_X5_isPace st_X5_isPace mlX5_160 [] (by decide +kernel) rfl rfl (_ :: _ :: _ :: _ :: _ :: _ :: _ :: _ :: _) rfl (by decide) (by decide) rfl rfl (Nat.le_of_ble_eq_true rfl) ⟨Nat.zero_le _, Nat.zero_le _⟩ dX5_sees_1 (fun H locs h => ?_)
  refine W.eq (g2 := F0 m 4 ls [_]) rfl ?_
  refine r_zeqB K 24 dX5_sees_4 (by decide) (fun c => absurd ((hb2.1).symm.trans c) (by decide)) (fun _ => ?_)
  refine r_iln K hl 2 dX5_sees_7 rfl rfl ?_
  refine r_callS K h hl (c_X5_isPace l g y) mc_X5_isPace st_X5_isPace mlX5_160 [] (by decide +kernel) rfl rfl (_ :: _ :: _ :: _ :: _ :: _ :: _ :: _ :: _) rfl (by decide) (by decide) rfl rfl (Nat.le_of_ble_eq_true rfl) ⟨Nat.zero_le _, Nat.zero_le _⟩ dX5_sees_8 (fun H locs h => ?_)
  refine W.eq (g2 := F0 m 11 ls [_]) rfl ?_
  refine r_zeqB K 24 dX5_sees_11 (by decide) (fun c => absurd ((hb2.2).symm.trans c) (by decide)) (fun _ => ?_)
  refine r_iln K hl 3 dX5_sees_14 rfl rfl ?_
  refine r_ic K (nI 0) dX5_sees_15 k_0 ?_
  refine r_bp K (nI 99) dX5_sees_16 kb_99 ?_
  refine r_callS K h hl (c_X5_isWithin l g z (nI 0) (nI 99)) mc_X5_isWithin st_X5_isWithin mlX5_47 [] (by decide +kernel) rfl rfl (_ :: _ :: _ :: _ :: _ :: _ :: _ :: _ :: _) rfl (by decide) (by decide) rfl rfl (Nat.le_of_ble_eq_true rfl) ⟨Nat.zero_le _, Nat.zero_le _⟩ dX5_sees_18 (fun H locs h => ?_)
  refine W.eq (g2 := F0 m 21 ls [_]) rfl ?_
  refine r_zneB K 26 dX5_sees_21 (by decide) (fun _ => ?_) (fun c => absurd ((hb1.2).symm.trans c) (by decide))
  refine r_aln K hl 0 dX5_sees_26 rfl rfl ?_
  refine r_get K h ffX5_58 0 rfl rfl dX5_sees_27 ?_
  refine r_bp K (nI 6) dX5_sees_30 kb_6 ?_
  refine r_cltN K 38 dX5_sees_32 (by decide) (by omega) (by omega) (fun c => absurd c (by omega)) (fun c32 => ?_)
  refine r_bp K (-3) dX5_sees_35 kb_m3 ?_
  exact hr.1 _ _ _ _ _ dX5_sees_37 h rfl

set_option maxHeartbeats 4000000 in
set_option maxRecDepth 100000 in
theorem c_X5_sees_ok (l : Launch) (g : GG) (b : Nat → Nat) (wa : Nat → Nat → Nat) (fk sa sb sr rb : Row) (V : Nat → Nat → Row) (pn pk : Int32) (x y z : Int32) (q : Nat) (hq : q < 6) (hb : ((inB x (nI 1) (nI 4) && inB y (nI 1) (nI 4)) && inB z (nI 0) (nI 99)) = true) : Ct l g yX5_sees cX5_sees 4 (some .int) 6 [.ref (b 0), .int x, .int y, .int z] (lvB g b wa (pn) (pk) (nI q) (fk) (sa) (sb) (sr) (rb) ++ WS g wa (V)) (some (.int (nI (q + 1)))) (lvB g b wa (pn) (pk) (nI (q + 1)) (fk) (upd sa q x) (upd sb q y) (upd sr q z) (rb) ++ WS g wa (V)) := by
  refine Ct.start (by decide +kernel) (Nat.le_of_ble_eq_true rfl) (by simp [Value.category]) (Or.inr ⟨.int, _, rfl, rfl, rfl⟩) ?_
  intro p0 e R s m args below meth c A Q K hr h ls hl
  have hl : Lq ls 4 [some (.ref (b 0)), some (.int x), some (.int y), some (.int z)] := hl
  have hb1 := (Bool.and_eq_true _ _).mp hb
  have hb2 := (Bool.and_eq_true _ _).mp hb1.1
  refine r_iln K hl 1 dX5_sees_0 rfl rfl ?_
  refine r_callS K h hl (c_X5_isPace l g x) mc_X5_isPace st_X5_isPace mlX5_160 [] (by decide +kernel) rfl rfl (_ :: _ :: _ :: _ :: _ :: _ :: _ :: _ :: _) rfl (by decide) (by decide) rfl rfl (Nat.le_of_ble_eq_true rfl) ⟨Nat.zero_le _, Nat.zero_le _⟩ dX5_sees_1 (fun H locs h => ?_)
  refine W.eq (g2 := F0 m 4 ls [_]) rfl ?_
  refine r_zeqB K 24 dX5_sees_4 (by decide) (fun c => absurd ((hb2.1).symm.trans c) (by decide)) (fun _ => ?_)
  refine r_iln K hl 2 dX5_sees_7 rfl rfl ?_
  refine r_callS K h hl (c_X5_isPace l g y) mc_X5_isPace st_X5_isPace mlX5_160 [] (by decide +kernel) rfl rfl (_ :: _ :: _ :: _ :: _ :: _ :: _ :: _ :: _) rfl (by decide) (by decide) rfl rfl (Nat.le_of_ble_eq_true rfl) ⟨Nat.zero_le _, Nat.zero_le _⟩ dX5_sees_8 (fun H locs h => ?_)
  refine W.eq (g2 := F0 m 11 ls [_]) rfl ?_
  refine r_zeqB K 24 dX5_sees_11 (by decide) (fun c => absurd ((hb2.2).symm.trans c) (by decide)) (fun _ => ?_)
  refine r_iln K hl 3 dX5_sees_14 rfl rfl ?_
  refine r_ic K (nI 0) dX5_sees_15 k_0 ?_
  refine r_bp K (nI 99) dX5_sees_16 kb_99 ?_
  refine r_callS K h hl (c_X5_isWithin l g z (nI 0) (nI 99)) mc_X5_isWithin st_X5_isWithin mlX5_47 [] (by decide +kernel) rfl rfl (_ :: _ :: _ :: _ :: _ :: _ :: _ :: _ :: _) rfl (by decide) (by decide) rfl rfl (Nat.le_of_ble_eq_true rfl) ⟨Nat.zero_le _, Nat.zero_le _⟩ dX5_sees_18 (fun H locs h => ?_)
  refine W.eq (g2 := F0 m 21 ls [_]) rfl ?_
  refine r_zneB K 26 dX5_sees_21 (by decide) (fun _ => ?_) (fun c => absurd ((hb1.2).symm.trans c) (by decide))
  refine r_aln K hl 0 dX5_sees_26 rfl rfl ?_
  refine r_get K h ffX5_58 0 rfl rfl dX5_sees_27 ?_
  refine r_bp K (nI 6) dX5_sees_30 kb_6 ?_
  refine r_cltN K 38 dX5_sees_32 (by decide) (by omega) (by omega) (fun c32 => ?_) (fun c => absurd c (by omega))
  refine r_aln K hl 0 dX5_sees_38 rfl rfl ?_
  refine r_get K h ffX5_30 0 rfl rfl dX5_sees_39 ?_
  refine r_aln K hl 0 dX5_sees_42 rfl rfl ?_
  refine r_get K h ffX5_58 0 rfl rfl dX5_sees_43 ?_
  refine r_iln K hl 1 dX5_sees_46 rfl rfl ?_
  refine r_ias K h 4 (_ :: _ :: _ :: _ :: _ :: _ :: _ :: _ :: _) rfl (by omega) (by decide) rfl dX5_sees_47 (fun H locs h => ?_)
  refine r_aln K hl 0 dX5_sees_48 rfl rfl ?_
  refine r_get K h ffX5_34 0 rfl rfl dX5_sees_49 ?_
  refine r_aln K hl 0 dX5_sees_52 rfl rfl ?_
  refine r_get K h ffX5_58 0 rfl rfl dX5_sees_53 ?_
  refine r_iln K hl 2 dX5_sees_56 rfl rfl ?_
  refine r_ias K h 5 (_ :: _ :: _ :: _ :: _ :: _ :: _ :: _ :: _) rfl (by omega) (by decide) rfl dX5_sees_57 (fun H locs h => ?_)
  refine r_aln K hl 0 dX5_sees_58 rfl rfl ?_
  refine r_get K h ffX5_37 0 rfl rfl dX5_sees_59 ?_
  refine r_aln K hl 0 dX5_sees_62 rfl rfl ?_
  refine r_get K h ffX5_58 0 rfl rfl dX5_sees_63 ?_
  refine r_iln K hl 3 dX5_sees_66 rfl rfl ?_
  refine r_ias K h 6 (_ :: _ :: _ :: _ :: _ :: _ :: _ :: _ :: _) rfl (by omega) (by decide) rfl dX5_sees_67 (fun H locs h => ?_)
  refine r_aln K hl 0 dX5_sees_68 rfl rfl ?_
  refine r_dup K dX5_sees_69 rfl ?_
  refine r_get K h ffX5_58 0 rfl rfl dX5_sees_70 ?_
  refine r_ic K (nI 1) dX5_sees_73 k_1 ?_
  refine r_addN K dX5_sees_74 ?_
  refine r_put K h ffX5_58 pfX5_10 0 [_, _, _, _, _, _, _, _, _, _, _, _] (_ :: _ :: _ :: _ :: _ :: _ :: _ :: _ :: _) rfl rfl rfl (Nat.le_of_ble_eq_true rfl) rfl rfl dX5_sees_75 (fun H locs h => ?_)
  refine r_aln K hl 0 dX5_sees_78 rfl rfl ?_
  refine r_get K h ffX5_58 0 rfl rfl dX5_sees_79 ?_
  exact hr.1 _ _ _ _ _ dX5_sees_82 h rfl

set_option maxHeartbeats 4000000 in
set_option maxRecDepth 100000 in
theorem c_X5_forget_ok (l : Launch) (g : GG) (b : Nat → Nat) (wa : Nat → Nat → Nat) (fk sa sb sr rb : Row) (V : Nat → Nat → Row) (pn pk sc : Int32) : Ct l g yX5_forget cX5_forget 2 (some .int) 6 [.ref (b 0)] (lvB g b wa (pn) (pk) (sc) (fk) (sa) (sb) (sr) (rb) ++ WS g wa (V)) (some (.int sc)) (lvB g b wa (pn) (pk) (nI 0) (fk) (sa) (sb) (sr) (rb) ++ WS g wa (V)) := by
  refine Ct.start (by decide +kernel) (Nat.le_of_ble_eq_true rfl) (by simp [Value.category]) (Or.inr ⟨.int, _, rfl, rfl, rfl⟩) ?_
  intro p0 e R s m args below meth c A Q K hr h ls hl
  have hl : Lq ls 2 [some (.ref (b 0)), none] := hl
  refine r_aln K hl 0 dX5_forget_0 rfl rfl ?_
  refine r_get K h ffX5_58 0 rfl rfl dX5_forget_1 ?_
  refine r_isn K hl 1 [_, _] dX5_forget_4 rfl (by decide) rfl (fun ls hl => ?_)
  refine r_aln K hl 0 dX5_forget_5 rfl rfl ?_
  refine r_ic K (nI 0) dX5_forget_6 k_0 ?_
  refine r_put K h ffX5_58 pfX5_10 0 [_, _, _, _, _, _, _, _, _, _, _, _] (_ :: _ :: _ :: _ :: _ :: _ :: _ :: _ :: _) rfl rfl rfl (Nat.le_of_ble_eq_true rfl) rfl rfl dX5_forget_7 (fun H locs h => ?_)
  refine r_iln K hl 1 dX5_forget_10 rfl rfl ?_
  exact hr.1 _ _ _ _ _ dX5_forget_11 h rfl

