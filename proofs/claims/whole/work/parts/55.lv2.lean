theorem rel_id {V : Nat → Row} {f : Row} {n mv ph wr t p : Nat} (h : Rel V f n mv ph wr t) (hp : p < 4) : decide (V (6 + 8 * p) 0 = 0) = decide (f (32 + 42 * p + 0) = 0) := by rw [(h.2.2.2.2.1 p hp).1]
theorem rel_tm {V : Nat → Row} {f : Row} {n mv ph wr t : Nat} (h : Rel V f n mv ph wr t) : V 0 3 = f 3 := h.2.2.1.2.2.2.1.trans h.2.1.1.symm
def pP (p : Nat) : Nat := if p = 0 then 4 else p - 1
theorem pP_lt {p : Nat} (h : p < 5) : pP p < 5 := by unfold pP; split <;> omega
set_option maxHeartbeats 4000000 in
set_option maxRecDepth 100000 in
theorem c_X5_scans_bad (l : Launch) (g : GG) (b : Nat → Nat) (wa : Nat → Nat → Nat) (fk sa sb sr rb : Row) (V : Nat → Nat → Row) (f : Row) (n mv ph wr t : Nat) (hR : Rel (V 0) f n mv ph wr t) (pn pk sc : Int32) (x : Int32) (hb : inB x (nI 0) (nI (n - 1)) = false) : Ct l g yX5_scans cX5_scans 2 (some .int) 7 [.ref (b 0), .int x] (lvB g b wa (pn) (pk) (sc) (fk) (sa) (sb) (sr) (rb) ++ WS g wa (V)) (some (.int (-1))) (lvB g b wa (pn) (pk) (sc) (fk) (sa) (sb) (sr) (rb) ++ WS g wa (V)) := by
  obtain ⟨hn2, hn, hm1, hm, hph, hwr⟩ := hR.1.1
  refine Ct.start (by decide +kernel) (Nat.le_of_ble_eq_true rfl) (by simp [Value.category]) (Or.inr ⟨.int, _, rfl, rfl, rfl⟩) ?_
  intro p0 e R s m args below meth c A Q K hr h ls hl
  have hl : Lq ls 2 [some (.ref (b 0)), some (.int x)] := hl
  refine r_aln K hl 0 dX5_scans_0 rfl rfl ?_
  refine r_get K h ffX5_10 0 rfl rfl dX5_scans_1 ?_
  refine r_iln K hl 1 dX5_scans_4 rfl rfl ?_
  refine r_callVW K h hl (wd0 0 (by omega) rfl (c_X4_has l g (wa 0) (V 0) x n (by omega) (by omega) hR.2.2.1.1) (lvB g b wa (pn) (pk) (sc) (fk) (sa) (sb) (sr) (rb))) mc_X4_has vm_X4_has mlX5_62 8 rfl rfl rfl rfl _ rfl (by decide) (by decide) rfl rfl (Nat.le_of_ble_eq_true rfl) ⟨Nat.zero_le _, Nat.zero_le _⟩ dX5_scans_5 (fun H locs h => ?_)
  refine W.eq (g2 := F0 m 8 ls [_]) rfl ?_
  refine r_zneB K 13 dX5_scans_8 (by decide) (fun c => absurd ((hb).symm.trans c) (by decide)) (fun _ => ?_)
  refine r_ic K (-1) dX5_scans_11 k_m1 ?_
  exact hr.1 _ _ _ _ _ dX5_scans_12 h rfl

set_option maxHeartbeats 4000000 in
set_option maxRecDepth 100000 in
theorem c_X5_scans_state (l : Launch) (g : GG) (b : Nat → Nat) (wa : Nat → Nat → Nat) (fk sa sb sr rb : Row) (V : Nat → Nat → Row) (f : Row) (n mv ph wr t : Nat) (hR : Rel (V 0) f n mv ph wr t) (pn pk sc : Int32) (p : Nat) (hp : p < n) (ha : ¬ f (32 + 42 * p + 0) = 0) : Ct l g yX5_scans cX5_scans 2 (some .int) 7 [.ref (b 0), .int (nI p)] (lvB g b wa (pn) (pk) (sc) (fk) (sa) (sb) (sr) (rb) ++ WS g wa (V)) (some (.int (-2))) (lvB g b wa (pn) (pk) (sc) (fk) (sa) (sb) (sr) (rb) ++ WS g wa (V)) := by
  obtain ⟨hn2, hn, hm1, hm, hph, hwr⟩ := hR.1.1
  refine Ct.start (by decide +kernel) (Nat.le_of_ble_eq_true rfl) (by simp [Value.category]) (Or.inr ⟨.int, _, rfl, rfl, rfl⟩) ?_
  intro p0 e R s m args below meth c A Q K hr h ls hl
  have hl : Lq ls 2 [some (.ref (b 0)), some (.int (nI p))] := hl
  refine r_aln K hl 0 dX5_scans_0 rfl rfl ?_
  refine r_get K h ffX5_10 0 rfl rfl dX5_scans_1 ?_
  refine r_iln K hl 1 dX5_scans_4 rfl rfl ?_
  refine r_callVW K h hl (wd0 0 (by omega) rfl (c_X4_has l g (wa 0) (V 0) (nI p) n (by omega) (by omega) hR.2.2.1.1) (lvB g b wa (pn) (pk) (sc) (fk) (sa) (sb) (sr) (rb))) mc_X4_has vm_X4_has mlX5_62 8 rfl rfl rfl rfl _ rfl (by decide) (by decide) rfl rfl (Nat.le_of_ble_eq_true rfl) ⟨Nat.zero_le _, Nat.zero_le _⟩ dX5_scans_5 (fun H locs h => ?_)
  refine W.eq (g2 := F0 m 8 ls [_]) rfl ?_
  refine r_zneB K 13 dX5_scans_8 (by decide) (fun _ => ?_) (fun c => absurd (((inB_of (Nat.zero_le _) (by omega) (by omega))).symm.trans c) (by decide))
  refine r_aln K hl 0 dX5_scans_13 rfl rfl ?_
  refine r_iln K hl 1 dX5_scans_14 rfl rfl ?_
  refine r_ic K (nI 1) dX5_scans_15 k_1 ?_
  refine r_bp K (-9) dX5_scans_16 kb_m9 ?_
  refine r_callVW K h hl (c_X5_beginAct_state l g b wa fk sa sb sr rb V f n mv ph wr t hR pn pk sc p hp (nI 1) (-9) ((rel_id hR (by omega)).trans (decide_eq_false ha))) mc_X5_beginAct vm_X5_beginAct mlX5_65 0 rfl rfl rfl rfl _ rfl (by decide) (by decide) rfl rfl (Nat.le_of_ble_eq_true rfl) ⟨Nat.zero_le _, Nat.zero_le _⟩ dX5_scans_18 (fun H locs h => ?_)
  refine W.eq (g2 := F0 m 21 ls [_]) rfl ?_
  exact hr.1 _ _ _ _ _ dX5_scans_21 h rfl

set_option maxHeartbeats 4000000 in
set_option maxRecDepth 100000 in
theorem c_X5_scans_full (l : Launch) (g : GG) (b : Nat → Nat) (wa : Nat → Nat → Nat) (fk sa sb sr rb : Row) (V : Nat → Nat → Row) (f : Row) (n mv ph wr t : Nat) (hR : Rel (V 0) f n mv ph wr t) (pn pk sc : Int32) (p : Nat) (hp : p < n) (ha : f (32 + 42 * p + 0) = 0) (h4 : f 4 = nI 24) : Ct l g yX5_scans cX5_scans 2 (some .int) 7 [.ref (b 0), .int (nI p)] (lvB g b wa (pn) (pk) (sc) (fk) (sa) (sb) (sr) (rb) ++ WS g wa (V)) (some (.int (-3))) (lvB g b wa (pn) (pk) (sc) (fk) (sa) (sb) (sr) (rb) ++ WS g wa (V)) := by
  obtain ⟨hn2, hn, hm1, hm, hph, hwr⟩ := hR.1.1
  refine Ct.start (by decide +kernel) (Nat.le_of_ble_eq_true rfl) (by simp [Value.category]) (Or.inr ⟨.int, _, rfl, rfl, rfl⟩) ?_
  intro p0 e R s m args below meth c A Q K hr h ls hl
  have hl : Lq ls 2 [some (.ref (b 0)), some (.int (nI p))] := hl
  refine r_aln K hl 0 dX5_scans_0 rfl rfl ?_
  refine r_get K h ffX5_10 0 rfl rfl dX5_scans_1 ?_
  refine r_iln K hl 1 dX5_scans_4 rfl rfl ?_
  refine r_callVW K h hl (wd0 0 (by omega) rfl (c_X4_has l g (wa 0) (V 0) (nI p) n (by omega) (by omega) hR.2.2.1.1) (lvB g b wa (pn) (pk) (sc) (fk) (sa) (sb) (sr) (rb))) mc_X4_has vm_X4_has mlX5_62 8 rfl rfl rfl rfl _ rfl (by decide) (by decide) rfl rfl (Nat.le_of_ble_eq_true rfl) ⟨Nat.zero_le _, Nat.zero_le _⟩ dX5_scans_5 (fun H locs h => ?_)
  refine W.eq (g2 := F0 m 8 ls [_]) rfl ?_
  refine r_zneB K 13 dX5_scans_8 (by decide) (fun _ => ?_) (fun c => absurd (((inB_of (Nat.zero_le _) (by omega) (by omega))).symm.trans c) (by decide))
  refine r_aln K hl 0 dX5_scans_13 rfl rfl ?_
  refine r_iln K hl 1 dX5_scans_14 rfl rfl ?_
  refine r_ic K (nI 1) dX5_scans_15 k_1 ?_
  refine r_bp K (-9) dX5_scans_16 kb_m9 ?_
  refine r_callVW K h hl (c_X5_beginAct_full l g b wa fk sa sb sr rb V f n mv ph wr t hR pn pk sc p hp (nI 1) (-9) ((rel_id hR (by omega)).trans (decide_eq_true ha)) (hR.2.2.1.2.2.2.2.1.trans h4)) mc_X5_beginAct vm_X5_beginAct mlX5_65 0 rfl rfl rfl rfl _ rfl (by decide) (by decide) rfl rfl (Nat.le_of_ble_eq_true rfl) ⟨Nat.zero_le _, Nat.zero_le _⟩ dX5_scans_18 (fun H locs h => ?_)
  refine W.eq (g2 := F0 m 21 ls [_]) rfl ?_
  exact hr.1 _ _ _ _ _ dX5_scans_21 h rfl

set_option maxHeartbeats 4000000 in
set_option maxRecDepth 100000 in
theorem c_X5_scans_ok (l : Launch) (g : GG) (b : Nat → Nat) (wa : Nat → Nat → Nat) (fk sa sb sr rb : Row) (V : Nat → Nat → Row) (f : Row) (n mv ph wr t : Nat) (hR : Rel (V 0) f n mv ph wr t) (pn pk : Nat) (hpn : pn < 5) (hpk : pk ≤ 5) (sc : Int32) (p : Nat) (hp : p < n) (ha : f (32 + 42 * p + 0) = 0) (ac : Nat) (hac : ac < 24) (h4 : f 4 = nI ac) : Ct l g yX5_scans cX5_scans 2 (some .int) 7 [.ref (b 0), .int (nI p)] (lvB g b wa (nI pn) (nI pk) (sc) (fk) (sa) (sb) (sr) (rb) ++ WS g wa (V)) (some (.int (f 3))) (lvB g b wa (nI (nN pn)) (nI (nU pk)) (sc) (fk) (sa) (sb) (sr) (rb) ++ WS g wa (setV (setV V (2 + pn) (cCop (V (2 + pn)) (V 0) ph wr)) 0 (cBeg (V 0) p (nI 1) (-9)))) := by
  obtain ⟨hn2, hn, hm1, hm, hph, hwr⟩ := hR.1.1
  refine Ct.start (by decide +kernel) (Nat.le_of_ble_eq_true rfl) (by simp [Value.category]) (Or.inr ⟨.int, _, rfl, rfl, rfl⟩) ?_
  intro p0 e R s m args below meth c A Q K hr h ls hl
  have hl : Lq ls 2 [some (.ref (b 0)), some (.int (nI p))] := hl
  refine r_aln K hl 0 dX5_scans_0 rfl rfl ?_
  refine r_get K h ffX5_10 0 rfl rfl dX5_scans_1 ?_
  refine r_iln K hl 1 dX5_scans_4 rfl rfl ?_
  refine r_callVW K h hl (wd0 0 (by omega) rfl (c_X4_has l g (wa 0) (V 0) (nI p) n (by omega) (by omega) hR.2.2.1.1) (lvB g b wa (nI pn) (nI pk) (sc) (fk) (sa) (sb) (sr) (rb))) mc_X4_has vm_X4_has mlX5_62 8 rfl rfl rfl rfl _ rfl (by decide) (by decide) rfl rfl (Nat.le_of_ble_eq_true rfl) ⟨Nat.zero_le _, Nat.zero_le _⟩ dX5_scans_5 (fun H locs h => ?_)
  refine W.eq (g2 := F0 m 8 ls [_]) rfl ?_
  refine r_zneB K 13 dX5_scans_8 (by decide) (fun _ => ?_) (fun c => absurd (((inB_of (Nat.zero_le _) (by omega) (by omega))).symm.trans c) (by decide))
  refine r_aln K hl 0 dX5_scans_13 rfl rfl ?_
  refine r_iln K hl 1 dX5_scans_14 rfl rfl ?_
  refine r_ic K (nI 1) dX5_scans_15 k_1 ?_
  refine r_bp K (-9) dX5_scans_16 kb_m9 ?_
  refine r_callVW K h hl (c_X5_beginAct_ok l g b wa fk sa sb sr rb V f n mv ph wr t hR pn pk hpn hpk sc p hp (nI 1) (-9) ((rel_id hR (by omega)).trans (decide_eq_true ha)) ac hac (hR.2.2.1.2.2.2.2.1.trans h4)) mc_X5_beginAct vm_X5_beginAct mlX5_65 0 rfl rfl rfl (lv_fst rfl) _ rfl (by decide) (by decide) rfl rfl (Nat.le_of_ble_eq_true rfl) ⟨Nat.zero_le _, Nat.zero_le _⟩ dX5_scans_18 (fun H locs h => ?_)
  refine W.eq (g2 := F0 m 21 ls [_]) rfl ?_
  exact hr.1 _ _ _ _ _ dX5_scans_21 h (by rw [rel_tm hR])

set_option maxHeartbeats 4000000 in
set_option maxRecDepth 100000 in
theorem c_X5_writes_state (l : Launch) (g : GG) (b : Nat → Nat) (wa : Nat → Nat → Nat) (fk sa sb sr rb : Row) (V : Nat → Nat → Row) (f : Row) (n mv ph wr t : Nat) (hR : Rel (V 0) f n mv ph wr t) (pn pk sc : Int32) (p : Nat) (hp : p < n) (v : Int32) (hv : inB v (nI 0) (nI 99) = true) (ha : ¬ f (32 + 42 * p + 0) = 0) : Ct l g yX5_writes cX5_writes 3 (some .int) 7 [.ref (b 0), .int (nI p), .int v] (lvB g b wa (pn) (pk) (sc) (fk) (sa) (sb) (sr) (rb) ++ WS g wa (V)) (some (.int (-2))) (lvB g b wa (pn) (pk) (sc) (fk) (sa) (sb) (sr) (rb) ++ WS g wa (V)) := by
  obtain ⟨hn2, hn, hm1, hm, hph, hwr⟩ := hR.1.1
  refine Ct.start (by decide +kernel) (Nat.le_of_ble_eq_true rfl) (by simp [Value.category]) (Or.inr ⟨.int, _, rfl, rfl, rfl⟩) ?_
  intro p0 e R s m args below meth c A Q K hr h ls hl
  have hl : Lq ls 3 [some (.ref (b 0)), some (.int (nI p)), some (.int v)] := hl
  refine r_aln K hl 0 dX5_writes_0 rfl rfl ?_
  refine r_get K h ffX5_10 0 rfl rfl dX5_writes_1 ?_
  refine r_iln K hl 1 dX5_writes_4 rfl rfl ?_
  refine r_callVW K h hl (wd0 0 (by omega) rfl (c_X4_has l g (wa 0) (V 0) (nI p) n (by omega) (by omega) hR.2.2.1.1) (lvB g b wa (pn) (pk) (sc) (fk) (sa) (sb) (sr) (rb))) mc_X4_has vm_X4_has mlX5_62 8 rfl rfl rfl rfl _ rfl (by decide) (by decide) rfl rfl (Nat.le_of_ble_eq_true rfl) ⟨Nat.zero_le _, Nat.zero_le _⟩ dX5_writes_5 (fun H locs h => ?_)
  refine W.eq (g2 := F0 m 8 ls [_]) rfl ?_
  refine r_zeqB K 21 dX5_writes_8 (by decide) (fun c => absurd (((inB_of (Nat.zero_le _) (by omega) (by omega))).symm.trans c) (by decide)) (fun _ => ?_)
  refine r_iln K hl 2 dX5_writes_11 rfl rfl ?_
  refine r_ic K (nI 0) dX5_writes_12 k_0 ?_
  refine r_bp K (nI 99) dX5_writes_13 kb_99 ?_
  refine r_callS K h hl (c_X5_isWithin l g v (nI 0) (nI 99)) mc_X5_isWithin st_X5_isWithin mlX5_47 [] (by decide +kernel) rfl rfl (_ :: _ :: _ :: _ :: _ :: _ :: _ :: _ :: _) rfl (by decide) (by decide) rfl rfl (Nat.le_of_ble_eq_true rfl) ⟨Nat.zero_le _, Nat.zero_le _⟩ dX5_writes_15 (fun H locs h => ?_)
  refine W.eq (g2 := F0 m 18 ls [_]) rfl ?_
  refine r_zneB K 23 dX5_writes_18 (by decide) (fun _ => ?_) (fun c => absurd ((hv).symm.trans c) (by decide))
  refine r_aln K hl 0 dX5_writes_23 rfl rfl ?_
  refine r_iln K hl 1 dX5_writes_24 rfl rfl ?_
  refine r_ic K (nI 2) dX5_writes_25 k_2 ?_
  refine r_iln K hl 2 dX5_writes_26 rfl rfl ?_
  refine r_callVW K h hl (c_X5_beginAct_state l g b wa fk sa sb sr rb V f n mv ph wr t hR pn pk sc p hp (nI 2) (v) ((rel_id hR (by omega)).trans (decide_eq_false ha))) mc_X5_beginAct vm_X5_beginAct mlX5_65 0 rfl rfl rfl rfl _ rfl (by decide) (by decide) rfl rfl (Nat.le_of_ble_eq_true rfl) ⟨Nat.zero_le _, Nat.zero_le _⟩ dX5_writes_27 (fun H locs h => ?_)
  refine W.eq (g2 := F0 m 30 ls [_]) rfl ?_
  exact hr.1 _ _ _ _ _ dX5_writes_30 h rfl

set_option maxHeartbeats 4000000 in
set_option maxRecDepth 100000 in
theorem c_X5_writes_full (l : Launch) (g : GG) (b : Nat → Nat) (wa : Nat → Nat → Nat) (fk sa sb sr rb : Row) (V : Nat → Nat → Row) (f : Row) (n mv ph wr t : Nat) (hR : Rel (V 0) f n mv ph wr t) (pn pk sc : Int32) (p : Nat) (hp : p < n) (v : Int32) (hv : inB v (nI 0) (nI 99) = true) (ha : f (32 + 42 * p + 0) = 0) (h4 : f 4 = nI 24) : Ct l g yX5_writes cX5_writes 3 (some .int) 7 [.ref (b 0), .int (nI p), .int v] (lvB g b wa (pn) (pk) (sc) (fk) (sa) (sb) (sr) (rb) ++ WS g wa (V)) (some (.int (-3))) (lvB g b wa (pn) (pk) (sc) (fk) (sa) (sb) (sr) (rb) ++ WS g wa (V)) := by
  obtain ⟨hn2, hn, hm1, hm, hph, hwr⟩ := hR.1.1
  refine Ct.start (by decide +kernel) (Nat.le_of_ble_eq_true rfl) (by simp [Value.category]) (Or.inr ⟨.int, _, rfl, rfl, rfl⟩) ?_
  intro p0 e R s m args below meth c A Q K hr h ls hl
  have hl : Lq ls 3 [some (.ref (b 0)), some (.int (nI p)), some (.int v)] := hl
  refine r_aln K hl 0 dX5_writes_0 rfl rfl ?_
  refine r_get K h ffX5_10 0 rfl rfl dX5_writes_1 ?_
  refine r_iln K hl 1 dX5_writes_4 rfl rfl ?_
  refine r_callVW K h hl (wd0 0 (by omega) rfl (c_X4_has l g (wa 0) (V 0) (nI p) n (by omega) (by omega) hR.2.2.1.1) (lvB g b wa (pn) (pk) (sc) (fk) (sa) (sb) (sr) (rb))) mc_X4_has vm_X4_has mlX5_62 8 rfl rfl rfl rfl _ rfl (by decide) (by decide) rfl rfl (Nat.le_of_ble_eq_true rfl) ⟨Nat.zero_le _, Nat.zero_le _⟩ dX5_writes_5 (fun H locs h => ?_)
  refine W.eq (g2 := F0 m 8 ls [_]) rfl ?_
  refine r_zeqB K 21 dX5_writes_8 (by decide) (fun c => absurd (((inB_of (Nat.zero_le _) (by omega) (by omega))).symm.trans c) (by decide)) (fun _ => ?_)
  refine r_iln K hl 2 dX5_writes_11 rfl rfl ?_
  refine r_ic K (nI 0) dX5_writes_12 k_0 ?_
  refine r_bp K (nI 99) dX5_writes_13 kb_99 ?_
  refine r_callS K h hl (c_X5_isWithin l g v (nI 0) (nI 99)) mc_X5_isWithin st_X5_isWithin mlX5_47 [] (by decide +kernel) rfl rfl (_ :: _ :: _ :: _ :: _ :: _ :: _ :: _ :: _) rfl (by decide) (by decide) rfl rfl (Nat.le_of_ble_eq_true rfl) ⟨Nat.zero_le _, Nat.zero_le _⟩ dX5_writes_15 (fun H locs h => ?_)
  refine W.eq (g2 := F0 m 18 ls [_]) rfl ?_
  refine r_zneB K 23 dX5_writes_18 (by decide) (fun _ => ?_) (fun c => absurd ((hv).symm.trans c) (by decide))
  refine r_aln K hl 0 dX5_writes_23 rfl rfl ?_
  refine r_iln K hl 1 dX5_writes_24 rfl rfl ?_
  refine r_ic K (nI 2) dX5_writes_25 k_2 ?_
  refine r_iln K hl 2 dX5_writes_26 rfl rfl ?_
  refine r_callVW K h hl (c_X5_beginAct_full l g b wa fk sa sb sr rb V f n mv ph wr t hR pn pk sc p hp (nI 2) (v) ((rel_id hR (by omega)).trans (decide_eq_true ha)) (hR.2.2.1.2.2.2.2.1.trans h4)) mc_X5_beginAct vm_X5_beginAct mlX5_65 0 rfl rfl rfl rfl _ rfl (by decide) (by decide) rfl rfl (Nat.le_of_ble_eq_true rfl) ⟨Nat.zero_le _, Nat.zero_le _⟩ dX5_writes_27 (fun H locs h => ?_)
  refine W.eq (g2 := F0 m 30 ls [_]) rfl ?_
  exact hr.1 _ _ _ _ _ dX5_writes_30 h rfl

set_option maxHeartbeats 4000000 in
set_option maxRecDepth 100000 in
theorem c_X5_writes_ok (l : Launch) (g : GG) (b : Nat → Nat) (wa : Nat → Nat → Nat) (fk sa sb sr rb : Row) (V : Nat → Nat → Row) (f : Row) (n mv ph wr t : Nat) (hR : Rel (V 0) f n mv ph wr t) (pn pk : Nat) (hpn : pn < 5) (hpk : pk ≤ 5) (sc : Int32) (p : Nat) (hp : p < n) (v : Int32) (hv : inB v (nI 0) (nI 99) = true) (ha : f (32 + 42 * p + 0) = 0) (ac : Nat) (hac : ac < 24) (h4 : f 4 = nI ac) : Ct l g yX5_writes cX5_writes 3 (some .int) 7 [.ref (b 0), .int (nI p), .int v] (lvB g b wa (nI pn) (nI pk) (sc) (fk) (sa) (sb) (sr) (rb) ++ WS g wa (V)) (some (.int (f 3))) (lvB g b wa (nI (nN pn)) (nI (nU pk)) (sc) (fk) (sa) (sb) (sr) (rb) ++ WS g wa (setV (setV V (2 + pn) (cCop (V (2 + pn)) (V 0) ph wr)) 0 (cBeg (V 0) p (nI 2) (v)))) := by
  obtain ⟨hn2, hn, hm1, hm, hph, hwr⟩ := hR.1.1
  refine Ct.start (by decide +kernel) (Nat.le_of_ble_eq_true rfl) (by simp [Value.category]) (Or.inr ⟨.int, _, rfl, rfl, rfl⟩) ?_
  intro p0 e R s m args below meth c A Q K hr h ls hl
  have hl : Lq ls 3 [some (.ref (b 0)), some (.int (nI p)), some (.int v)] := hl
  refine r_aln K hl 0 dX5_writes_0 rfl rfl ?_
  refine r_get K h ffX5_10 0 rfl rfl dX5_writes_1 ?_
  refine r_iln K hl 1 dX5_writes_4 rfl rfl ?_
  refine r_callVW K h hl (wd0 0 (by omega) rfl (c_X4_has l g (wa 0) (V 0) (nI p) n (by omega) (by omega) hR.2.2.1.1) (lvB g b wa (nI pn) (nI pk) (sc) (fk) (sa) (sb) (sr) (rb))) mc_X4_has vm_X4_has mlX5_62 8 rfl rfl rfl rfl _ rfl (by decide) (by decide) rfl rfl (Nat.le_of_ble_eq_true rfl) ⟨Nat.zero_le _, Nat.zero_le _⟩ dX5_writes_5 (fun H locs h => ?_)
  refine W.eq (g2 := F0 m 8 ls [_]) rfl ?_
  refine r_zeqB K 21 dX5_writes_8 (by decide) (fun c => absurd (((inB_of (Nat.zero_le _) (by omega) (by omega))).symm.trans c) (by decide)) (fun _ => ?_)
  refine r_iln K hl 2 dX5_writes_11 rfl rfl ?_
  refine r_ic K (nI 0) dX5_writes_12 k_0 ?_
  refine r_bp K (nI 99) dX5_writes_13 kb_99 ?_
  refine r_callS K h hl (c_X5_isWithin l g v (nI 0) (nI 99)) mc_X5_isWithin st_X5_isWithin mlX5_47 [] (by decide +kernel) rfl rfl (_ :: _ :: _ :: _ :: _ :: _ :: _ :: _ :: _) rfl (by decide) (by decide) rfl rfl (Nat.le_of_ble_eq_true rfl) ⟨Nat.zero_le _, Nat.zero_le _⟩ dX5_writes_15 (fun H locs h => ?_)
  refine W.eq (g2 := F0 m 18 ls [_]) rfl ?_
  refine r_zneB K 23 dX5_writes_18 (by decide) (fun _ => ?_) (fun c => absurd ((hv).symm.trans c) (by decide))
  refine r_aln K hl 0 dX5_writes_23 rfl rfl ?_
  refine r_iln K hl 1 dX5_writes_24 rfl rfl ?_
  refine r_ic K (nI 2) dX5_writes_25 k_2 ?_
  refine r_iln K hl 2 dX5_writes_26 rfl rfl ?_
  refine r_callVW K h hl (c_X5_beginAct_ok l g b wa fk sa sb sr rb V f n mv ph wr t hR pn pk hpn hpk sc p hp (nI 2) (v) ((rel_id hR (by omega)).trans (decide_eq_true ha)) ac hac (hR.2.2.1.2.2.2.2.1.trans h4)) mc_X5_beginAct vm_X5_beginAct mlX5_65 0 rfl rfl rfl (lv_fst rfl) _ rfl (by decide) (by decide) rfl rfl (Nat.le_of_ble_eq_true rfl) ⟨Nat.zero_le _, Nat.zero_le _⟩ dX5_writes_27 (fun H locs h => ?_)
  refine W.eq (g2 := F0 m 30 ls [_]) rfl ?_
  exact hr.1 _ _ _ _ _ dX5_writes_30 h (by rw [rel_tm hR])

set_option maxHeartbeats 4000000 in
set_option maxRecDepth 100000 in
theorem c_X5_writes_bad (l : Launch) (g : GG) (b : Nat → Nat) (wa : Nat → Nat → Nat) (fk sa sb sr rb : Row) (V : Nat → Nat → Row) (f : Row) (n mv ph wr t : Nat) (hR : Rel (V 0) f n mv ph wr t) (pn pk sc : Int32) (x v : Int32) (hb : (inB x (nI 0) (nI (n - 1)) && inB v (nI 0) (nI 99)) = false) : Ct l g yX5_writes cX5_writes 3 (some .int) 7 [.ref (b 0), .int x, .int v] (lvB g b wa (pn) (pk) (sc) (fk) (sa) (sb) (sr) (rb) ++ WS g wa (V)) (some (.int (-1))) (lvB g b wa (pn) (pk) (sc) (fk) (sa) (sb) (sr) (rb) ++ WS g wa (V)) := by
  obtain ⟨hn2, hn, hm1, hm, hph, hwr⟩ := hR.1.1
  refine Ct.start (by decide +kernel) (Nat.le_of_ble_eq_true rfl) (by simp [Value.category]) (Or.inr ⟨.int, _, rfl, rfl, rfl⟩) ?_
  intro p0 e R s m args below meth c A Q K hr h ls hl
  have hl : Lq ls 3 [some (.ref (b 0)), some (.int x), some (.int v)] := hl
  refine r_aln K hl 0 dX5_writes_0 rfl rfl ?_
  refine r_get K h ffX5_10 0 rfl rfl dX5_writes_1 ?_
  refine r_iln K hl 1 dX5_writes_4 rfl rfl ?_
  refine r_callVW K h hl (wd0 0 (by omega) rfl (c_X4_has l g (wa 0) (V 0) x n (by omega) (by omega) hR.2.2.1.1) (lvB g b wa (pn) (pk) (sc) (fk) (sa) (sb) (sr) (rb))) mc_X4_has vm_X4_has mlX5_62 8 rfl rfl rfl rfl _ rfl (by decide) (by decide) rfl rfl (Nat.le_of_ble_eq_true rfl) ⟨Nat.zero_le _, Nat.zero_le _⟩ dX5_writes_5 (fun H locs h => ?_)
  refine W.eq (g2 := F0 m 8 ls [_]) rfl ?_
  refine r_zeqB K 21 dX5_writes_8 (by decide) (fun c8 => ?_) (fun c8 => ?_)
  · refine r_ic K (-1) dX5_writes_21 k_m1 ?_
    exact hr.1 _ _ _ _ _ dX5_writes_22 h rfl
  · refine r_iln K hl 2 dX5_writes_11 rfl rfl ?_
    refine r_ic K (nI 0) dX5_writes_12 k_0 ?_
    refine r_bp K (nI 99) dX5_writes_13 kb_99 ?_
    refine r_callS K h hl (c_X5_isWithin l g v (nI 0) (nI 99)) mc_X5_isWithin st_X5_isWithin mlX5_47 [] (by decide +kernel) rfl rfl (_ :: _ :: _ :: _ :: _ :: _ :: _ :: _ :: _) rfl (by decide) (by decide) rfl rfl (Nat.le_of_ble_eq_true rfl) ⟨Nat.zero_le _, Nat.zero_le _⟩ dX5_writes_15 (fun H locs h => ?_)
    refine W.eq (g2 := F0 m 18 ls [_]) rfl ?_
    refine r_zneB K 23 dX5_writes_18 (by decide) (fun c => absurd (((show inB v (nI 0) (nI 99) = false by rw [c8, Bool.true_and] at hb; exact hb)).symm.trans c) (by decide)) (fun _ => ?_)
    refine r_ic K (-1) dX5_writes_21 k_m1 ?_
    exact hr.1 _ _ _ _ _ dX5_writes_22 h rfl

set_option maxHeartbeats 4000000 in
set_option maxRecDepth 100000 in
theorem c_X5_steps_bad (l : Launch) (g : GG) (b : Nat → Nat) (wa : Nat → Nat → Nat) (fk sa sb sr rb : Row) (V : Nat → Nat → Row) (f : Row) (n mv ph wr t : Nat) (hR : Rel (V 0) f n mv ph wr t) (pn pk sc : Int32) (x v : Int32) (hb : (inB x (nI 0) (nI (n - 1)) && inB v (nI 1) (nI 20)) = false) : Ct l g yX5_steps cX5_steps 3 (some .int) 7 [.ref (b 0), .int x, .int v] (lvB g b wa (pn) (pk) (sc) (fk) (sa) (sb) (sr) (rb) ++ WS g wa (V)) (some (.int (-1))) (lvB g b wa (pn) (pk) (sc) (fk) (sa) (sb) (sr) (rb) ++ WS g wa (V)) := by
  obtain ⟨hn2, hn, hm1, hm, hph, hwr⟩ := hR.1.1
  refine Ct.start (by decide +kernel) (Nat.le_of_ble_eq_true rfl) (by simp [Value.category]) (Or.inr ⟨.int, _, rfl, rfl, rfl⟩) ?_
  intro p0 e R s m args below meth c A Q K hr h ls hl
  have hl : Lq ls 3 [some (.ref (b 0)), some (.int x), some (.int v)] := hl
  refine r_aln K hl 0 dX5_steps_0 rfl rfl ?_
  refine r_get K h ffX5_10 0 rfl rfl dX5_steps_1 ?_
  refine r_iln K hl 1 dX5_steps_4 rfl rfl ?_
  refine r_callVW K h hl (wd0 0 (by omega) rfl (c_X4_has l g (wa 0) (V 0) x n (by omega) (by omega) hR.2.2.1.1) (lvB g b wa (pn) (pk) (sc) (fk) (sa) (sb) (sr) (rb))) mc_X4_has vm_X4_has mlX5_62 8 rfl rfl rfl rfl _ rfl (by decide) (by decide) rfl rfl (Nat.le_of_ble_eq_true rfl) ⟨Nat.zero_le _, Nat.zero_le _⟩ dX5_steps_5 (fun H locs h => ?_)
  refine W.eq (g2 := F0 m 8 ls [_]) rfl ?_
  refine r_zeqB K 21 dX5_steps_8 (by decide) (fun c8 => ?_) (fun c8 => ?_)
  · refine r_ic K (-1) dX5_steps_21 k_m1 ?_
    exact hr.1 _ _ _ _ _ dX5_steps_22 h rfl
  · refine r_iln K hl 2 dX5_steps_11 rfl rfl ?_
    refine r_ic K (nI 1) dX5_steps_12 k_1 ?_
    refine r_bp K (nI 20) dX5_steps_13 kb_20 ?_
    refine r_callS K h hl (c_X5_isWithin l g v (nI 1) (nI 20)) mc_X5_isWithin st_X5_isWithin mlX5_47 [] (by decide +kernel) rfl rfl (_ :: _ :: _ :: _ :: _ :: _ :: _ :: _ :: _) rfl (by decide) (by decide) rfl rfl (Nat.le_of_ble_eq_true rfl) ⟨Nat.zero_le _, Nat.zero_le _⟩ dX5_steps_15 (fun H locs h => ?_)
    refine W.eq (g2 := F0 m 18 ls [_]) rfl ?_
    refine r_zneB K 23 dX5_steps_18 (by decide) (fun c => absurd (((show inB v (nI 1) (nI 20) = false by rw [c8, Bool.true_and] at hb; exact hb)).symm.trans c) (by decide)) (fun _ => ?_)
    refine r_ic K (-1) dX5_steps_21 k_m1 ?_
    exact hr.1 _ _ _ _ _ dX5_steps_22 h rfl

set_option maxHeartbeats 4000000 in
set_option maxRecDepth 100000 in
theorem c_X5_steps_state (l : Launch) (g : GG) (b : Nat → Nat) (wa : Nat → Nat → Nat) (fk sa sb sr rb : Row) (V : Nat → Nat → Row) (f : Row) (n mv ph wr t : Nat) (hR : Rel (V 0) f n mv ph wr t) (pn pk sc : Int32) (p : Nat) (hp : p < n) (v : Int32) (hv : inB v (nI 1) (nI 20) = true) (ha : f (32 + 42 * p + 0) = 0) : Ct l g yX5_steps cX5_steps 3 (some .int) 7 [.ref (b 0), .int (nI p), .int v] (lvB g b wa (pn) (pk) (sc) (fk) (sa) (sb) (sr) (rb) ++ WS g wa (V)) (some (.int (-2))) (lvB g b wa (pn) (pk) (sc) (fk) (sa) (sb) (sr) (rb) ++ WS g wa (V)) := by
  obtain ⟨hn2, hn, hm1, hm, hph, hwr⟩ := hR.1.1
  refine Ct.start (by decide +kernel) (Nat.le_of_ble_eq_true rfl) (by simp [Value.category]) (Or.inr ⟨.int, _, rfl, rfl, rfl⟩) ?_
  intro p0 e R s m args below meth c A Q K hr h ls hl
  have hl : Lq ls 3 [some (.ref (b 0)), some (.int (nI p)), some (.int v)] := hl
  refine r_aln K hl 0 dX5_steps_0 rfl rfl ?_
  refine r_get K h ffX5_10 0 rfl rfl dX5_steps_1 ?_
  refine r_iln K hl 1 dX5_steps_4 rfl rfl ?_
  refine r_callVW K h hl (wd0 0 (by omega) rfl (c_X4_has l g (wa 0) (V 0) (nI p) n (by omega) (by omega) hR.2.2.1.1) (lvB g b wa (pn) (pk) (sc) (fk) (sa) (sb) (sr) (rb))) mc_X4_has vm_X4_has mlX5_62 8 rfl rfl rfl rfl _ rfl (by decide) (by decide) rfl rfl (Nat.le_of_ble_eq_true rfl) ⟨Nat.zero_le _, Nat.zero_le _⟩ dX5_steps_5 (fun H locs h => ?_)
  refine W.eq (g2 := F0 m 8 ls [_]) rfl ?_
  refine r_zeqB K 21 dX5_steps_8 (by decide) (fun c => absurd (((inB_of (Nat.zero_le _) (by omega) (by omega))).symm.trans c) (by decide)) (fun _ => ?_)
  refine r_iln K hl 2 dX5_steps_11 rfl rfl ?_
  refine r_ic K (nI 1) dX5_steps_12 k_1 ?_
  refine r_bp K (nI 20) dX5_steps_13 kb_20 ?_
  refine r_callS K h hl (c_X5_isWithin l g v (nI 1) (nI 20)) mc_X5_isWithin st_X5_isWithin mlX5_47 [] (by decide +kernel) rfl rfl (_ :: _ :: _ :: _ :: _ :: _ :: _ :: _ :: _) rfl (by decide) (by decide) rfl rfl (Nat.le_of_ble_eq_true rfl) ⟨Nat.zero_le _, Nat.zero_le _⟩ dX5_steps_15 (fun H locs h => ?_)
  refine W.eq (g2 := F0 m 18 ls [_]) rfl ?_
  refine r_zneB K 23 dX5_steps_18 (by decide) (fun _ => ?_) (fun c => absurd ((hv).symm.trans c) (by decide))
  refine r_aln K hl 0 dX5_steps_23 rfl rfl ?_
  refine r_get K h ffX5_10 0 rfl rfl dX5_steps_24 ?_
  refine r_iln K hl 1 dX5_steps_27 rfl rfl ?_
  refine r_callVW K h hl (wd0 0 (by omega) rfl (c_X4_isIdle l g (wa 0) (V 0) p (by omega)) (lvB g b wa (pn) (pk) (sc) (fk) (sa) (sb) (sr) (rb))) mc_X4_isIdle vm_X4_isIdle mlX5_69 8 rfl rfl rfl rfl _ rfl (by decide) (by decide) rfl rfl (Nat.le_of_ble_eq_true rfl) ⟨Nat.zero_le _, Nat.zero_le _⟩ dX5_steps_28 (fun H locs h => ?_)
  refine W.eq (g2 := F0 m 31 ls [_]) rfl ?_
  refine r_zeqB K 37 dX5_steps_31 (by decide) (fun c => absurd ((((rel_id hR (by omega)).trans (decide_eq_true ha))).symm.trans c) (by decide)) (fun _ => ?_)
  refine r_bp K (-2) dX5_steps_34 kb_m2 ?_
  exact hr.1 _ _ _ _ _ dX5_steps_36 h rfl

set_option maxHeartbeats 4000000 in
set_option maxRecDepth 100000 in
theorem c_X5_steps_ok (l : Launch) (g : GG) (b : Nat → Nat) (wa : Nat → Nat → Nat) (fk sa sb sr rb : Row) (V : Nat → Nat → Row) (f : Row) (n mv ph wr t : Nat) (hR : Rel (V 0) f n mv ph wr t) (pn pk : Nat) (hpn : pn < 5) (hpk : pk ≤ 5) (sc : Int32) (p k : Nat) (hp : p < n) (hk1 : 1 ≤ k) (hk : k ≤ 20) (ht : t < 800000) (ha : ¬ f (32 + 42 * p + 0) = 0) : CtE l g yX5_steps cX5_steps 3 (some .int) 7 [.ref (b 0), .int (nI p), .int (nI k)] (lvB g b wa (nI pn) (nI pk) (sc) (fk) (sa) (sb) (sr) (rb) ++ WS g wa (V)) (some (.int (nI (stC f p k)))) (fun u : {X : Nat → Row // ∃ ph2 wr2, Rel X (stF f p k) n mv ph2 wr2 (t + stC f p k)} => (lvB g b wa (nI (nN pn)) (nI (nU pk)) (sc) (fk) (sa) (sb) (sr) (rb) ++ WS g wa (setV (setV V (2 + pn) (cCop (V (2 + pn)) (V 0) ph wr)) 0 u.1))) := by
  obtain ⟨hn2, hn, hm1, hm, hph, hwr⟩ := hR.1.1
  refine CtE.start (by decide +kernel) (Nat.le_of_ble_eq_true rfl) (by simp [Value.category]) (Or.inr ⟨.int, _, rfl, rfl, rfl⟩) ?_
  intro p0 e R s m args below meth c A Q K hr h ls hl
  have hl : Lq ls 3 [some (.ref (b 0)), some (.int (nI p)), some (.int (nI k))] := hl
  refine r_aln K hl 0 dX5_steps_0 rfl rfl ?_
  refine r_get K h ffX5_10 0 rfl rfl dX5_steps_1 ?_
  refine r_iln K hl 1 dX5_steps_4 rfl rfl ?_
  refine r_callVW K h hl (wd0 0 (by omega) rfl (c_X4_has l g (wa 0) (V 0) (nI p) n (by omega) (by omega) hR.2.2.1.1) (lvB g b wa (nI pn) (nI pk) (sc) (fk) (sa) (sb) (sr) (rb))) mc_X4_has vm_X4_has mlX5_62 8 rfl rfl rfl rfl _ rfl (by decide) (by decide) rfl rfl (Nat.le_of_ble_eq_true rfl) ⟨Nat.zero_le _, Nat.zero_le _⟩ dX5_steps_5 (fun H locs h => ?_)
  refine W.eq (g2 := F0 m 8 ls [_]) rfl ?_
  refine r_zeqB K 21 dX5_steps_8 (by decide) (fun c => absurd (((inB_of (Nat.zero_le _) (by omega) (by omega))).symm.trans c) (by decide)) (fun _ => ?_)
  refine r_iln K hl 2 dX5_steps_11 rfl rfl ?_
  refine r_ic K (nI 1) dX5_steps_12 k_1 ?_
  refine r_bp K (nI 20) dX5_steps_13 kb_20 ?_
  refine r_callS K h hl (c_X5_isWithin l g (nI k) (nI 1) (nI 20)) mc_X5_isWithin st_X5_isWithin mlX5_47 [] (by decide +kernel) rfl rfl (_ :: _ :: _ :: _ :: _ :: _ :: _ :: _ :: _) rfl (by decide) (by decide) rfl rfl (Nat.le_of_ble_eq_true rfl) ⟨Nat.zero_le _, Nat.zero_le _⟩ dX5_steps_15 (fun H locs h => ?_)
  refine W.eq (g2 := F0 m 18 ls [_]) rfl ?_
  refine r_zneB K 23 dX5_steps_18 (by decide) (fun _ => ?_) (fun c => absurd (((inB_of hk1 hk (by omega))).symm.trans c) (by decide))
  refine r_aln K hl 0 dX5_steps_23 rfl rfl ?_
  refine r_get K h ffX5_10 0 rfl rfl dX5_steps_24 ?_
  refine r_iln K hl 1 dX5_steps_27 rfl rfl ?_
  refine r_callVW K h hl (wd0 0 (by omega) rfl (c_X4_isIdle l g (wa 0) (V 0) p (by omega)) (lvB g b wa (nI pn) (nI pk) (sc) (fk) (sa) (sb) (sr) (rb))) mc_X4_isIdle vm_X4_isIdle mlX5_69 8 rfl rfl rfl rfl _ rfl (by decide) (by decide) rfl rfl (Nat.le_of_ble_eq_true rfl) ⟨Nat.zero_le _, Nat.zero_le _⟩ dX5_steps_28 (fun H locs h => ?_)
  refine W.eq (g2 := F0 m 31 ls [_]) rfl ?_
  refine r_zeqB K 37 dX5_steps_31 (by decide) (fun _ => ?_) (fun c => absurd ((((rel_id hR (by omega)).trans (decide_eq_false ha))).symm.trans c) (by decide))
  refine r_aln K hl 0 dX5_steps_37 rfl rfl ?_
  refine r_callVW K h hl (c_X5_remember l g b wa fk sa sb sr rb V f n mv ph wr t hR pn pk hpn hpk sc) mc_X5_remember vm_X5_remember mlX5_55 0 rfl rfl rfl (lv_fst rfl) _ rfl (by decide) (by decide) rfl rfl (Nat.le_of_ble_eq_true rfl) ⟨Nat.zero_le _, Nat.zero_le _⟩ dX5_steps_38 (fun H locs h => ?_)
  refine W.eq (g2 := F0 m 41 ls []) rfl ?_
  refine r_aln K hl 0 dX5_steps_41 rfl rfl ?_
  refine r_get K h ffX5_10 0 rfl rfl dX5_steps_42 ?_
  refine r_iln K hl 1 dX5_steps_45 rfl rfl ?_
  refine r_iln K hl 2 dX5_steps_46 rfl rfl ?_
  refine r_callVWE K h hl (wd1E 0 (by omega) (setV_ne (by omega)) (c_X4_stepUpTo l g (wa 0) (V 0) f n mv ph wr t p k hR (by omega) hp) (lvB g b wa (nI (nN pn)) (nI (nU pk)) (sc) (fk) (sa) (sb) (sr) (rb))) mc_X4_stepUpTo vm_X4_stepUpTo mlX5_72 8 rfl rfl rfl (fun _ => lv_fst rfl) (by decide) (by decide) rfl rfl (Nat.le_of_ble_eq_true rfl) ⟨Nat.zero_le _, Nat.zero_le _⟩ dX5_steps_47 (fun u H locs h => ?_)
  refine W.eq (g2 := F0 m 50 ls [_]) rfl ?_
  exact hr.1 u _ _ _ _ _ dX5_steps_50 h rfl

set_option maxHeartbeats 4000000 in
set_option maxRecDepth 100000 in
theorem c_X5_begins_bad (l : Launch) (g : GG) (b : Nat → Nat) (wa : Nat → Nat → Nat) (fk sa sb sr rb : Row) (V : Nat → Nat → Row) (f : Row) (n mv ph wr t : Nat) (hR : Rel (V 0) f n mv ph wr t) (pn pk sc : Int32) (x y z : Int32) (hb : begB x y z = false) : Ct l g yX5_begins cX5_begins 5 (some .int) 7 [.ref (b 0), .int x, .int y, .int z] (lvB g b wa (pn) (pk) (sc) (fk) (sa) (sb) (sr) (rb) ++ WS g wa (V)) (some (.int (-1))) (lvB g b wa (pn) (pk) (sc) (fk) (sa) (sb) (sr) (rb) ++ WS g wa (V)) := by
  obtain ⟨hn2, hn, hm1, hm, hph, hwr⟩ := hR.1.1
  refine Ct.start (by decide +kernel) (Nat.le_of_ble_eq_true rfl) (by simp [Value.category]) (Or.inr ⟨.int, _, rfl, rfl, rfl⟩) ?_
  intro p0 e R s m args below meth c A Q K hr h ls hl
  have hl : Lq ls 5 [some (.ref (b 0)), some (.int x), some (.int y), some (.int z), none] := hl
  refine r_iln K hl 1 dX5_begins_0 rfl rfl ?_
  refine r_ic K (nI 2) dX5_begins_1 k_2 ?_
  refine r_ic K (nI 4) dX5_begins_2 k_4 ?_
  refine r_callS K h hl (c_X5_isWithin l g x (nI 2) (nI 4)) mc_X5_isWithin st_X5_isWithin mlX5_47 [] (by decide +kernel) rfl rfl (_ :: _ :: _ :: _ :: _ :: _ :: _ :: _ :: _) rfl (by decide) (by decide) rfl rfl (Nat.le_of_ble_eq_true rfl) ⟨Nat.zero_le _, Nat.zero_le _⟩ dX5_begins_3 (fun H locs h => ?_)
  refine W.eq (g2 := F0 m 6 ls [_]) rfl ?_
  refine r_zeqB K 25 dX5_begins_6 (by decide) (fun c6 => ?_) (fun c6 => ?_)
  · refine r_ic K (-1) dX5_begins_25 k_m1 ?_
    exact hr.1 _ _ _ _ _ dX5_begins_26 h rfl
  · refine r_iln K hl 2 dX5_begins_9 rfl rfl ?_
    refine r_ic K (nI 1) dX5_begins_10 k_1 ?_
    refine r_ic K (nI 4) dX5_begins_11 k_4 ?_
    refine r_callS K h hl (c_X5_isWithin l g y (nI 1) (nI 4)) mc_X5_isWithin st_X5_isWithin mlX5_47 [] (by decide +kernel) rfl rfl (_ :: _ :: _ :: _ :: _ :: _ :: _ :: _ :: _) rfl (by decide) (by decide) rfl rfl (Nat.le_of_ble_eq_true rfl) ⟨Nat.zero_le _, Nat.zero_le _⟩ dX5_begins_12 (fun H locs h => ?_)
    refine W.eq (g2 := F0 m 15 ls [_]) rfl ?_
    refine r_zeqB K 25 dX5_begins_15 (by decide) (fun c15 => ?_) (fun c15 => ?_)
    · refine r_ic K (-1) dX5_begins_25 k_m1 ?_
      exact hr.1 _ _ _ _ _ dX5_begins_26 h rfl
    · refine r_iln K hl 3 dX5_begins_18 rfl rfl ?_
      refine r_callS K h hl (c_X5_isWrap l g z) mc_X5_isWrap st_X5_isWrap mlX5_51 [] (by decide +kernel) rfl rfl (_ :: _ :: _ :: _ :: _ :: _ :: _ :: _ :: _) rfl (by decide) (by decide) rfl rfl (Nat.le_of_ble_eq_true rfl) ⟨Nat.zero_le _, Nat.zero_le _⟩ dX5_begins_19 (fun H locs h => ?_)
      refine W.eq (g2 := F0 m 22 ls [_]) rfl ?_
      refine r_zneB K 27 dX5_begins_22 (by decide) (fun c => absurd (((show (decide (z = 0) || inB z (nI 2) (nI 8)) = false by unfold begB at hb; rw [c6, c15, Bool.true_and, Bool.true_and] at hb; exact hb)).symm.trans c) (by decide)) (fun _ => ?_)
      refine r_ic K (-1) dX5_begins_25 k_m1 ?_
      exact hr.1 _ _ _ _ _ dX5_begins_26 h rfl

set_option maxHeartbeats 4000000 in
set_option maxRecDepth 100000 in
theorem c_X5_begins_ok (l : Launch) (g : GG) (b : Nat → Nat) (wa : Nat → Nat → Nat) (fk sa sb sr rb : Row) (V : Nat → Nat → Row) (f : Row) (n mv ph wr t : Nat) (hR : Rel (V 0) f n mv ph wr t) (pn pk : Nat) (hpn : pn < 5) (hpk : pk ≤ 5) (sc : Int32) (x y z : Int32) (hb : begB x y z = true) : Ct l g yX5_begins cX5_begins 5 (some .int) 7 [.ref (b 0), .int x, .int y, .int z] (lvB g b wa (nI pn) (nI pk) (sc) (fk) (sa) (sb) (sr) (rb) ++ WS g wa (V)) (some (.int x)) (lvB g b wa (nI (nN pn)) (nI (nU pk)) (nI 0) (upd (upd fk 0 (nI 0)) 1 (nI 0)) (sa) (sb) (sr) (rb) ++ WS g wa (setV (setV V (2 + pn) (cCop (V (2 + pn)) (V 0) ph wr)) 0 (cRes (V 0) x y z))) := by
  obtain ⟨hn2, hn, hm1, hm, hph, hwr⟩ := hR.1.1
  refine Ct.start (by decide +kernel) (Nat.le_of_ble_eq_true rfl) (by simp [Value.category]) (Or.inr ⟨.int, _, rfl, rfl, rfl⟩) ?_
  intro p0 e R s m args below meth c A Q K hr h ls hl
  have hl : Lq ls 5 [some (.ref (b 0)), some (.int x), some (.int y), some (.int z), none] := hl
  unfold begB at hb
  have hb1 := (Bool.and_eq_true _ _).mp hb
  have hb2 := (Bool.and_eq_true _ _).mp hb1.2
  refine r_iln K hl 1 dX5_begins_0 rfl rfl ?_
  refine r_ic K (nI 2) dX5_begins_1 k_2 ?_
  refine r_ic K (nI 4) dX5_begins_2 k_4 ?_
  refine r_callS K h hl (c_X5_isWithin l g x (nI 2) (nI 4)) mc_X5_isWithin st_X5_isWithin mlX5_47 [] (by decide +kernel) rfl rfl (_ :: _ :: _ :: _ :: _ :: _ :: _ :: _ :: _) rfl (by decide) (by decide) rfl rfl (Nat.le_of_ble_eq_true rfl) ⟨Nat.zero_le _, Nat.zero_le _⟩ dX5_begins_3 (fun H locs h => ?_)
  refine W.eq (g2 := F0 m 6 ls [_]) rfl ?_
  refine r_zeqB K 25 dX5_begins_6 (by decide) (fun c => absurd ((hb1.1).symm.trans c) (by decide)) (fun _ => ?_)
  refine r_iln K hl 2 dX5_begins_9 rfl rfl ?_
  refine r_ic K (nI 1) dX5_begins_10 k_1 ?_
  refine r_ic K (nI 4) dX5_begins_11 k_4 ?_
  refine r_callS K h hl (c_X5_isWithin l g y (nI 1) (nI 4)) mc_X5_isWithin st_X5_isWithin mlX5_47 [] (by decide +kernel) rfl rfl (_ :: _ :: _ :: _ :: _ :: _ :: _ :: _ :: _) rfl (by decide) (by decide) rfl rfl (Nat.le_of_ble_eq_true rfl) ⟨Nat.zero_le _, Nat.zero_le _⟩ dX5_begins_12 (fun H locs h => ?_)
  refine W.eq (g2 := F0 m 15 ls [_]) rfl ?_
  refine r_zeqB K 25 dX5_begins_15 (by decide) (fun c => absurd ((hb2.1).symm.trans c) (by decide)) (fun _ => ?_)
  refine r_iln K hl 3 dX5_begins_18 rfl rfl ?_
  refine r_callS K h hl (c_X5_isWrap l g z) mc_X5_isWrap st_X5_isWrap mlX5_51 [] (by decide +kernel) rfl rfl (_ :: _ :: _ :: _ :: _ :: _ :: _ :: _ :: _) rfl (by decide) (by decide) rfl rfl (Nat.le_of_ble_eq_true rfl) ⟨Nat.zero_le _, Nat.zero_le _⟩ dX5_begins_19 (fun H locs h => ?_)
  refine W.eq (g2 := F0 m 22 ls [_]) rfl ?_
  refine r_zneB K 27 dX5_begins_22 (by decide) (fun _ => ?_) (fun c => absurd ((hb2.2).symm.trans c) (by decide))
  refine r_aln K hl 0 dX5_begins_27 rfl rfl ?_
  refine r_callVW K h hl (c_X5_remember l g b wa fk sa sb sr rb V f n mv ph wr t hR pn pk hpn hpk sc) mc_X5_remember vm_X5_remember mlX5_55 0 rfl rfl rfl (lv_fst rfl) _ rfl (by decide) (by decide) rfl rfl (Nat.le_of_ble_eq_true rfl) ⟨Nat.zero_le _, Nat.zero_le _⟩ dX5_begins_28 (fun H locs h => ?_)
  refine W.eq (g2 := F0 m 31 ls []) rfl ?_
  refine r_aln K hl 0 dX5_begins_31 rfl rfl ?_
  refine r_get K h ffX5_10 0 rfl rfl dX5_begins_32 ?_
  refine r_iln K hl 1 dX5_begins_35 rfl rfl ?_
  refine r_iln K hl 2 dX5_begins_36 rfl rfl ?_
  refine r_iln K hl 3 dX5_begins_37 rfl rfl ?_
  refine r_callVW K h hl (wd1 0 (by omega) (setV_ne (by omega)) (c_X4_restart l g (wa 0) (V 0) x y z) (lvB g b wa (nI (nN pn)) (nI (nU pk)) (sc) (fk) (sa) (sb) (sr) (rb))) mc_X4_restart vm_X4_restart mlX5_43 8 rfl rfl rfl (lv_fst rfl) _ rfl (by decide) (by decide) rfl rfl (Nat.le_of_ble_eq_true rfl) ⟨Nat.zero_le _, Nat.zero_le _⟩ dX5_begins_38 (fun H locs h => ?_)
  refine W.eq (g2 := F0 m 41 ls []) rfl ?_
  refine r_aln K hl 0 dX5_begins_41 rfl rfl ?_
  refine r_ic K (nI 0) dX5_begins_42 k_0 ?_
  refine r_put K h ffX5_58 pfX5_10 0 [_, _, _, _, _, _, _, _, _, _, _, _] (_ :: _ :: _ :: _ :: _ :: _ :: _ :: _ :: _) rfl rfl rfl (Nat.le_of_ble_eq_true rfl) rfl rfl dX5_begins_43 (fun H locs h => ?_)
  refine r_ic K (nI 0) dX5_begins_46 k_0 ?_
  refine r_is K hl 4 [_, _, _, _, _] dX5_begins_47 (by decide) rfl (fun ls hl => ?_)
  refine r_il K hl 4 dX5_begins_49 rfl ?_
  refine r_ic K (nI 2) dX5_begins_51 k_2 ?_
  refine r_cgeN K 69 dX5_begins_52 (by decide) (by omega) (by omega) (fun c => absurd c (by decide)) (fun c52 => ?_)
  refine r_aln K hl 0 dX5_begins_55 rfl rfl ?_
  refine r_get K h ffX5_26 0 rfl rfl dX5_begins_56 ?_
  refine r_il K hl 4 dX5_begins_59 rfl ?_
  refine r_ic K (nI 0) dX5_begins_61 k_0 ?_
  refine r_zas K h 3 (_ :: _ :: _ :: _ :: _ :: _ :: _ :: _ :: _) rfl (by omega) (by decide) (by decide) rfl dX5_begins_62 (fun H locs h => ?_)
  refine r_incN K hl (k := 1) [_, _, _, _, _] dX5_begins_63 rfl (by decide) rfl (fun ls hl => ?_)
  refine r_go K 49 dX5_begins_66 (by decide) ?_
  refine r_il K hl 4 dX5_begins_49 rfl ?_
  refine r_ic K (nI 2) dX5_begins_51 k_2 ?_
  refine r_cgeN K 69 dX5_begins_52 (by decide) (by omega) (by omega) (fun c => absurd c (by decide)) (fun c52 => ?_)
  refine r_aln K hl 0 dX5_begins_55 rfl rfl ?_
  refine r_get K h ffX5_26 0 rfl rfl dX5_begins_56 ?_
  refine r_il K hl 4 dX5_begins_59 rfl ?_
  refine r_ic K (nI 0) dX5_begins_61 k_0 ?_
  refine r_zas K h 3 (_ :: _ :: _ :: _ :: _ :: _ :: _ :: _ :: _) rfl (by omega) (by decide) (by decide) rfl dX5_begins_62 (fun H locs h => ?_)
  refine r_incN K hl (k := 1) [_, _, _, _, _] dX5_begins_63 rfl (by decide) rfl (fun ls hl => ?_)
  refine r_go K 49 dX5_begins_66 (by decide) ?_
  refine r_il K hl 4 dX5_begins_49 rfl ?_
  refine r_ic K (nI 2) dX5_begins_51 k_2 ?_
  refine r_cgeN K 69 dX5_begins_52 (by decide) (by omega) (by omega) (fun c52 => ?_) (fun c => absurd c (by decide))
  refine r_iln K hl 1 dX5_begins_69 rfl rfl ?_
  exact hr.1 _ _ _ _ _ dX5_begins_70 h rfl

