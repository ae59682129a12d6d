theorem r_as {p : Program} {l : Launch} {e : Env} {R : Room} {s : State} {m : MethodId} {args : Array Value} {below : List Frame} {meth : Method} {c : Code} {H : Heap} {locs : List Loc} {cells slots : Nat} {Q : State → Prop} {g : GG} {A : Nat → Prop} {cc : ByteArray} {nL : Nat} {own : String} {rt : Option FieldType} {d : Nat} {pc : Nat} {ls : Array Slot} {rest : List Value} {lv : List (Option Value)} (K : Cx p l R s m args meth c g A cc nL own rt d) (hl : Lq ls nL lv) (i : Nat) {x : Nat} (lv' : List (Option Value)) (dd : decode cc pc = .ok (.astore i, 2)) (hn : i < nL) (hs : lv.set i (some (.ref x)) = lv') (kk : ∀ ls : Array Slot, Lq ls nL lv' → W p l e R s m args below meth c H locs cells slots Q (F0 m (pc + 2) ls rest)) : W p l e R s m args below meth c H locs cells slots Q (F0 m pc ls (.ref x :: rest)) := lv_astore K.1.1 K.1.2.1 dd hl.2.1 hn rfl (fun ls' h' => kk ls' (by rw [← hs]; exact hl.store rfl h'))
set_option maxHeartbeats 4000000 in
set_option maxRecDepth 100000 in
theorem c_X5_cell_bad (l : Launch) (g : GG) (b : Nat → Nat) (wa : Nat → Nat → Nat) (fk sa sb sr rb : Row) (V : Nat → Nat → Row) (f : Row) (n mv ph wr t : Nat) (hR : Rel (V 0) f n mv ph wr t) (pn pk sc : Int32) (x v : Int32) (hb : (inB x (nI 0) (nI (n - 1)) && inB v (nI 0) (nI 5)) = false) : Ct l g yX5_cell cX5_cell 3 (some .int) 7 [.ref (b 0), .int x, .int v] (lvB g b wa (pn) (pk) (sc) (fk) (sa) (sb) (sr) (rb) ++ WS g wa (V)) (some (.int (-1))) (lvB g b wa (pn) (pk) (sc) (fk) (sa) (sb) (sr) (rb) ++ WS g wa (V)) := by
  obtain ⟨hn2, hn, hm1, hm, hph, hwr⟩ := hR.1.1
  refine Ct.start (by decide +kernel) (Nat.le_of_ble_eq_true rfl) (by simp [Value.category]) (Or.inr ⟨.int, _, rfl, rfl, rfl⟩) ?_
  intro p0 e R s m args below meth c A Q K hr h ls hl
  have hl : Lq ls 3 [some (.ref (b 0)), some (.int x), some (.int v)] := hl
  refine r_aln K hl 0 dX5_cell_0 rfl rfl ?_
  refine r_get K h ffX5_10 0 rfl rfl dX5_cell_1 ?_
  refine r_iln K hl 1 dX5_cell_4 rfl rfl ?_
  refine r_callVW K h hl (wd0 0 (by omega) rfl (c_X4_has l g (wa 0) (V 0) x n (by omega) (by omega) hR.2.2.1.1) (lvB g b wa (pn) (pk) (sc) (fk) (sa) (sb) (sr) (rb))) mc_X4_has vm_X4_has mlX5_62 8 rfl rfl rfl rfl _ rfl (by decide) (by decide) rfl rfl (Nat.le_of_ble_eq_true rfl) ⟨Nat.zero_le _, Nat.zero_le _⟩ dX5_cell_5 (fun H locs h => ?_)
  refine W.eq (g2 := F0 m 8 ls [_]) rfl ?_
  refine r_zeqB K 20 dX5_cell_8 (by decide) (fun c8 => ?_) (fun c8 => ?_)
  · refine r_ic K (-1) dX5_cell_20 k_m1 ?_
    exact hr.1 _ _ _ _ _ dX5_cell_21 h rfl
  · refine r_iln K hl 2 dX5_cell_11 rfl rfl ?_
    refine r_ic K (nI 0) dX5_cell_12 k_0 ?_
    refine r_ic K (nI 5) dX5_cell_13 k_5 ?_
    refine r_callS K h hl (c_X5_isWithin l g v (nI 0) (nI 5)) mc_X5_isWithin st_X5_isWithin mlX5_47 [] (by decide +kernel) rfl rfl (_ :: _ :: _ :: _ :: _ :: _ :: _ :: _ :: _) rfl (by decide) (by decide) rfl rfl (Nat.le_of_ble_eq_true rfl) ⟨Nat.zero_le _, Nat.zero_le _⟩ dX5_cell_14 (fun H locs h => ?_)
    refine W.eq (g2 := F0 m 17 ls [_]) rfl ?_
    refine r_zneB K 22 dX5_cell_17 (by decide) (fun c => absurd (((show inB v (nI 0) (nI 5) = false by rw [c8, Bool.true_and] at hb; exact hb)).symm.trans c) (by decide)) (fun _ => ?_)
    refine r_ic K (-1) dX5_cell_20 k_m1 ?_
    exact hr.1 _ _ _ _ _ dX5_cell_21 h rfl

set_option maxHeartbeats 4000000 in
set_option maxRecDepth 100000 in
theorem c_X5_writer_bad (l : Launch) (g : GG) (b : Nat → Nat) (wa : Nat → Nat → Nat) (fk sa sb sr rb : Row) (V : Nat → Nat → Row) (f : Row) (n mv ph wr t : Nat) (hR : Rel (V 0) f n mv ph wr t) (pn pk sc : Int32) (x v : Int32) (hb : (inB x (nI 0) (nI (n - 1)) && inB v (nI 0) (nI 8)) = false) : Ct l g yX5_writer cX5_writer 4 (some .int) 7 [.ref (b 0), .int x, .int v] (lvB g b wa (pn) (pk) (sc) (fk) (sa) (sb) (sr) (rb) ++ WS g wa (V)) (some (.int (-1))) (lvB g b wa (pn) (pk) (sc) (fk) (sa) (sb) (sr) (rb) ++ WS g wa (V)) := by
  obtain ⟨hn2, hn, hm1, hm, hph, hwr⟩ := hR.1.1
  refine Ct.start (by decide +kernel) (Nat.le_of_ble_eq_true rfl) (by simp [Value.category]) (Or.inr ⟨.int, _, rfl, rfl, rfl⟩) ?_
  intro p0 e R s m args below meth c A Q K hr h ls hl
  have hl : Lq ls 4 [some (.ref (b 0)), some (.int x), some (.int v), none] := hl
  refine r_aln K hl 0 dX5_writer_0 rfl rfl ?_
  refine r_get K h ffX5_10 0 rfl rfl dX5_writer_1 ?_
  refine r_iln K hl 1 dX5_writer_4 rfl rfl ?_
  refine r_callVW K h hl (wd0 0 (by omega) rfl (c_X4_has l g (wa 0) (V 0) x n (by omega) (by omega) hR.2.2.1.1) (lvB g b wa (pn) (pk) (sc) (fk) (sa) (sb) (sr) (rb))) mc_X4_has vm_X4_has mlX5_62 8 rfl rfl rfl rfl _ rfl (by decide) (by decide) rfl rfl (Nat.le_of_ble_eq_true rfl) ⟨Nat.zero_le _, Nat.zero_le _⟩ dX5_writer_5 (fun H locs h => ?_)
  refine W.eq (g2 := F0 m 8 ls [_]) rfl ?_
  refine r_zeqB K 21 dX5_writer_8 (by decide) (fun c8 => ?_) (fun c8 => ?_)
  · refine r_ic K (-1) dX5_writer_21 k_m1 ?_
    exact hr.1 _ _ _ _ _ dX5_writer_22 h rfl
  · refine r_iln K hl 2 dX5_writer_11 rfl rfl ?_
    refine r_ic K (nI 0) dX5_writer_12 k_0 ?_
    refine r_bp K (nI 8) dX5_writer_13 kb_8 ?_
    refine r_callS K h hl (c_X5_isWithin l g v (nI 0) (nI 8)) mc_X5_isWithin st_X5_isWithin mlX5_47 [] (by decide +kernel) rfl rfl (_ :: _ :: _ :: _ :: _ :: _ :: _ :: _ :: _) rfl (by decide) (by decide) rfl rfl (Nat.le_of_ble_eq_true rfl) ⟨Nat.zero_le _, Nat.zero_le _⟩ dX5_writer_15 (fun H locs h => ?_)
    refine W.eq (g2 := F0 m 18 ls [_]) rfl ?_
    refine r_zneB K 23 dX5_writer_18 (by decide) (fun c => absurd (((show inB v (nI 0) (nI 8) = false by rw [c8, Bool.true_and] at hb; exact hb)).symm.trans c) (by decide)) (fun _ => ?_)
    refine r_ic K (-1) dX5_writer_21 k_m1 ?_
    exact hr.1 _ _ _ _ _ dX5_writer_22 h rfl

set_option maxHeartbeats 4000000 in
set_option maxRecDepth 100000 in
theorem c_X5_cell_ok (l : Launch) (g : GG) (b : Nat → Nat) (wa : Nat → Nat → Nat) (fk sa sb sr rb : Row) (V : Nat → Nat → Row) (f : Row) (n mv ph wr t : Nat) (hR : Rel (V 0) f n mv ph wr t) (pn pk sc : Int32) (p k : Nat) (hp : p < n) (hk : k ≤ 5) : Ct l g yX5_cell cX5_cell 3 (some .int) 7 [.ref (b 0), .int (nI p), .int (nI k)] (lvB g b wa (pn) (pk) (sc) (fk) (sa) (sb) (sr) (rb) ++ WS g wa (V)) (some (.int (f (8 + 6 * p + k)))) (lvB g b wa (pn) (pk) (sc) (fk) (sa) (sb) (sr) (rb) ++ WS g wa (V)) := by
  obtain ⟨hn2, hn, hm1, hm, hph, hwr⟩ := hR.1.1
  refine Ct.start (by decide +kernel) (Nat.le_of_ble_eq_true rfl) (by simp [Value.category]) (Or.inr ⟨.int, _, rfl, rfl, rfl⟩) ?_
  intro p0 e R s m args below meth c A Q K hr h ls hl
  have hl : Lq ls 3 [some (.ref (b 0)), some (.int (nI p)), some (.int (nI k))] := hl
  refine r_aln K hl 0 dX5_cell_0 rfl rfl ?_
  refine r_get K h ffX5_10 0 rfl rfl dX5_cell_1 ?_
  refine r_iln K hl 1 dX5_cell_4 rfl rfl ?_
  refine r_callVW K h hl (wd0 0 (by omega) rfl (c_X4_has l g (wa 0) (V 0) (nI p) n (by omega) (by omega) hR.2.2.1.1) (lvB g b wa (pn) (pk) (sc) (fk) (sa) (sb) (sr) (rb))) mc_X4_has vm_X4_has mlX5_62 8 rfl rfl rfl rfl _ rfl (by decide) (by decide) rfl rfl (Nat.le_of_ble_eq_true rfl) ⟨Nat.zero_le _, Nat.zero_le _⟩ dX5_cell_5 (fun H locs h => ?_)
  refine W.eq (g2 := F0 m 8 ls [_]) rfl ?_
  refine r_zeqB K 20 dX5_cell_8 (by decide) (fun c => absurd (((inB_of (Nat.zero_le _) (by omega) (by omega))).symm.trans c) (by decide)) (fun _ => ?_)
  refine r_iln K hl 2 dX5_cell_11 rfl rfl ?_
  refine r_ic K (nI 0) dX5_cell_12 k_0 ?_
  refine r_ic K (nI 5) dX5_cell_13 k_5 ?_
  refine r_callS K h hl (c_X5_isWithin l g (nI k) (nI 0) (nI 5)) mc_X5_isWithin st_X5_isWithin mlX5_47 [] (by decide +kernel) rfl rfl (_ :: _ :: _ :: _ :: _ :: _ :: _ :: _ :: _) rfl (by decide) (by decide) rfl rfl (Nat.le_of_ble_eq_true rfl) ⟨Nat.zero_le _, Nat.zero_le _⟩ dX5_cell_14 (fun H locs h => ?_)
  refine W.eq (g2 := F0 m 17 ls [_]) rfl ?_
  refine r_zneB K 22 dX5_cell_17 (by decide) (fun _ => ?_) (fun c => absurd (((inB_of (Nat.zero_le _) hk (by omega))).symm.trans c) (by decide))
  refine r_iln K hl 2 dX5_cell_22 rfl rfl ?_
  have hce := hR.2.2.2.1 p (by omega)
  rcases (by omega : k = 0 ∨ k = 1 ∨ k = 2 ∨ k = 3 ∨ k = 4 ∨ k = 5) with rfl | rfl | rfl | rfl | rfl | rfl
  · refine r_lsw K 25 48 dX5_cell_23 (by decide) (by decide) (by decide) ?_
    refine r_aln K hl 0 dX5_cell_48 rfl rfl ?_
    refine r_get K h ffX5_10 0 rfl rfl dX5_cell_49 ?_
    refine r_get K h ffX5_86 8 rfl rfl dX5_cell_52 ?_
    refine r_get K h ffX5_90 9 rfl rfl dX5_cell_55 ?_
    refine r_iln K hl 1 dX5_cell_58 rfl rfl ?_
    refine r_ial K h 10 rfl (by omega) (by decide) dX5_cell_59 ?_
    exact hr.1 _ _ _ _ _ dX5_cell_60 h (congrArg (fun q => some (Value.int q)) (hce.1.symm))
  · refine r_lsw K 38 61 dX5_cell_23 (by decide) (by decide) (by decide) ?_
    refine r_aln K hl 0 dX5_cell_61 rfl rfl ?_
    refine r_get K h ffX5_10 0 rfl rfl dX5_cell_62 ?_
    refine r_get K h ffX5_86 8 rfl rfl dX5_cell_65 ?_
    refine r_get K h ffX5_95 9 rfl rfl dX5_cell_68 ?_
    refine r_iln K hl 1 dX5_cell_71 rfl rfl ?_
    refine r_ial K h 11 rfl (by omega) (by decide) dX5_cell_72 ?_
    exact hr.1 _ _ _ _ _ dX5_cell_73 h (congrArg (fun q => some (Value.int q)) (hce.2.1.symm))
  · refine r_lsw K 51 74 dX5_cell_23 (by decide) (by decide) (by decide) ?_
    refine r_aln K hl 0 dX5_cell_74 rfl rfl ?_
    refine r_get K h ffX5_10 0 rfl rfl dX5_cell_75 ?_
    refine r_get K h ffX5_86 8 rfl rfl dX5_cell_78 ?_
    refine r_get K h ffX5_98 9 rfl rfl dX5_cell_81 ?_
    refine r_iln K hl 1 dX5_cell_84 rfl rfl ?_
    refine r_ic K (nI 4) dX5_cell_85 k_4 ?_
    refine r_mulN K dX5_cell_86 ?_
    refine r_iln K hl 2 dX5_cell_87 rfl rfl ?_
    refine r_addN K dX5_cell_88 ?_
    refine r_ic K (nI 2) dX5_cell_89 k_2 ?_
    refine r_subN K (by omega) dX5_cell_90 ?_
    refine r_ial K h 12 rfl (by omega) (by decide) dX5_cell_91 ?_
    exact hr.1 _ _ _ _ _ dX5_cell_92 h (congrArg (fun q => some (Value.int q)) (show f (8 + 6 * p + 2) = V 0 4 (p * 4 + 2 - 2) by rw [show p * 4 + 2 - 2 = p * 4 + 0 by omega]; exact (hce.2.2 0 (by omega)).symm))
  · refine r_lsw K 51 74 dX5_cell_23 (by decide) (by decide) (by decide) ?_
    refine r_aln K hl 0 dX5_cell_74 rfl rfl ?_
    refine r_get K h ffX5_10 0 rfl rfl dX5_cell_75 ?_
    refine r_get K h ffX5_86 8 rfl rfl dX5_cell_78 ?_
    refine r_get K h ffX5_98 9 rfl rfl dX5_cell_81 ?_
    refine r_iln K hl 1 dX5_cell_84 rfl rfl ?_
    refine r_ic K (nI 4) dX5_cell_85 k_4 ?_
    refine r_mulN K dX5_cell_86 ?_
    refine r_iln K hl 2 dX5_cell_87 rfl rfl ?_
    refine r_addN K dX5_cell_88 ?_
    refine r_ic K (nI 2) dX5_cell_89 k_2 ?_
    refine r_subN K (by omega) dX5_cell_90 ?_
    refine r_ial K h 12 rfl (by omega) (by decide) dX5_cell_91 ?_
    exact hr.1 _ _ _ _ _ dX5_cell_92 h (congrArg (fun q => some (Value.int q)) (show f (8 + 6 * p + 3) = V 0 4 (p * 4 + 3 - 2) by rw [show p * 4 + 3 - 2 = p * 4 + 1 by omega]; exact (hce.2.2 1 (by omega)).symm))
  · refine r_lsw K 51 74 dX5_cell_23 (by decide) (by decide) (by decide) ?_
    refine r_aln K hl 0 dX5_cell_74 rfl rfl ?_
    refine r_get K h ffX5_10 0 rfl rfl dX5_cell_75 ?_
    refine r_get K h ffX5_86 8 rfl rfl dX5_cell_78 ?_
    refine r_get K h ffX5_98 9 rfl rfl dX5_cell_81 ?_
    refine r_iln K hl 1 dX5_cell_84 rfl rfl ?_
    refine r_ic K (nI 4) dX5_cell_85 k_4 ?_
    refine r_mulN K dX5_cell_86 ?_
    refine r_iln K hl 2 dX5_cell_87 rfl rfl ?_
    refine r_addN K dX5_cell_88 ?_
    refine r_ic K (nI 2) dX5_cell_89 k_2 ?_
    refine r_subN K (by omega) dX5_cell_90 ?_
    refine r_ial K h 12 rfl (by omega) (by decide) dX5_cell_91 ?_
    exact hr.1 _ _ _ _ _ dX5_cell_92 h (congrArg (fun q => some (Value.int q)) (show f (8 + 6 * p + 4) = V 0 4 (p * 4 + 4 - 2) by rw [show p * 4 + 4 - 2 = p * 4 + 2 by omega]; exact (hce.2.2 2 (by omega)).symm))
  · refine r_lsw K 51 74 dX5_cell_23 (by decide) (by decide) (by decide) ?_
    refine r_aln K hl 0 dX5_cell_74 rfl rfl ?_
    refine r_get K h ffX5_10 0 rfl rfl dX5_cell_75 ?_
    refine r_get K h ffX5_86 8 rfl rfl dX5_cell_78 ?_
    refine r_get K h ffX5_98 9 rfl rfl dX5_cell_81 ?_
    refine r_iln K hl 1 dX5_cell_84 rfl rfl ?_
    refine r_ic K (nI 4) dX5_cell_85 k_4 ?_
    refine r_mulN K dX5_cell_86 ?_
    refine r_iln K hl 2 dX5_cell_87 rfl rfl ?_
    refine r_addN K dX5_cell_88 ?_
    refine r_ic K (nI 2) dX5_cell_89 k_2 ?_
    refine r_subN K (by omega) dX5_cell_90 ?_
    refine r_ial K h 12 rfl (by omega) (by decide) dX5_cell_91 ?_
    exact hr.1 _ _ _ _ _ dX5_cell_92 h (congrArg (fun q => some (Value.int q)) (show f (8 + 6 * p + 5) = V 0 4 (p * 4 + 5 - 2) by rw [show p * 4 + 5 - 2 = p * 4 + 3 by omega]; exact (hce.2.2 3 (by omega)).symm))

set_option maxHeartbeats 4000000 in
set_option maxRecDepth 100000 in
theorem c_X5_writer_ok (l : Launch) (g : GG) (b : Nat → Nat) (wa : Nat → Nat → Nat) (fk sa sb sr rb : Row) (V : Nat → Nat → Row) (f : Row) (n mv ph wr t : Nat) (hR : Rel (V 0) f n mv ph wr t) (pn pk sc : Int32) (p k : Nat) (hp : p < n) (hk : k ≤ 8) : Ct l g yX5_writer cX5_writer 4 (some .int) 7 [.ref (b 0), .int (nI p), .int (nI k)] (lvB g b wa (pn) (pk) (sc) (fk) (sa) (sb) (sr) (rb) ++ WS g wa (V)) (some (.int (mWA f n p k))) (lvB g b wa (pn) (pk) (sc) (fk) (sa) (sb) (sr) (rb) ++ WS g wa (V)) := by
  obtain ⟨hn2, hn, hm1, hm, hph, hwr⟩ := hR.1.1
  refine Ct.start (by decide +kernel) (Nat.le_of_ble_eq_true rfl) (by simp [Value.category]) (Or.inr ⟨.int, _, rfl, rfl, rfl⟩) ?_
  intro p0 e R s m args below meth c A Q K hr h ls hl
  have hl : Lq ls 4 [some (.ref (b 0)), some (.int (nI p)), some (.int (nI k)), none] := hl
  refine r_aln K hl 0 dX5_writer_0 rfl rfl ?_
  refine r_get K h ffX5_10 0 rfl rfl dX5_writer_1 ?_
  refine r_iln K hl 1 dX5_writer_4 rfl rfl ?_
  refine r_callVW K h hl (wd0 0 (by omega) rfl (c_X4_has l g (wa 0) (V 0) (nI p) n (by omega) (by omega) hR.2.2.1.1) (lvB g b wa (pn) (pk) (sc) (fk) (sa) (sb) (sr) (rb))) mc_X4_has vm_X4_has mlX5_62 8 rfl rfl rfl rfl _ rfl (by decide) (by decide) rfl rfl (Nat.le_of_ble_eq_true rfl) ⟨Nat.zero_le _, Nat.zero_le _⟩ dX5_writer_5 (fun H locs h => ?_)
  refine W.eq (g2 := F0 m 8 ls [_]) rfl ?_
  refine r_zeqB K 21 dX5_writer_8 (by decide) (fun c => absurd (((inB_of (Nat.zero_le _) (by omega) (by omega))).symm.trans c) (by decide)) (fun _ => ?_)
  refine r_iln K hl 2 dX5_writer_11 rfl rfl ?_
  refine r_ic K (nI 0) dX5_writer_12 k_0 ?_
  refine r_bp K (nI 8) dX5_writer_13 kb_8 ?_
  refine r_callS K h hl (c_X5_isWithin l g (nI k) (nI 0) (nI 8)) mc_X5_isWithin st_X5_isWithin mlX5_47 [] (by decide +kernel) rfl rfl (_ :: _ :: _ :: _ :: _ :: _ :: _ :: _ :: _) rfl (by decide) (by decide) rfl rfl (Nat.le_of_ble_eq_true rfl) ⟨Nat.zero_le _, Nat.zero_le _⟩ dX5_writer_15 (fun H locs h => ?_)
  refine W.eq (g2 := F0 m 18 ls [_]) rfl ?_
  refine r_zneB K 23 dX5_writer_18 (by decide) (fun _ => ?_) (fun c => absurd (((inB_of (Nat.zero_le _) hk (by omega))).symm.trans c) (by decide))
  rcases (by omega : p = 0 ∨ p = 1 ∨ p = 2 ∨ p = 3) with rfl | rfl | rfl | rfl
  · obtain ⟨k0, k1, k2, k3, k4, k5, k6, k7⟩ := hR.2.2.2.2.1 0 (by omega)
    have hrb := rel_rdB hR (p := 0) (by omega)
    have hnc := rel_nc hR (p := 0) (by omega)
    refine r_aln K hl 0 dX5_writer_23 rfl rfl ?_
    refine r_get K h ffX5_10 0 rfl rfl dX5_writer_24 ?_
    refine r_get K h ffX5_101 8 rfl rfl dX5_writer_27 ?_
    refine r_iln K hl 1 dX5_writer_30 rfl rfl ?_
    refine r_aal2 K h 13 rfl (by omega) (by decide) rfl dX5_writer_31 ?_
    refine r_asn K hl 3 [_, _, _, _] dX5_writer_32 rfl (by decide) rfl (fun ls hl => ?_)
    refine r_iln K hl 2 dX5_writer_33 rfl rfl ?_
    rcases (by omega : k = 0 ∨ k = 1 ∨ k = 2 ∨ k = 3 ∨ k = 4 ∨ k = 5 ∨ k = 6 ∨ k = 7 ∨ k = 8) with rfl | rfl | rfl | rfl | rfl | rfl | rfl | rfl | rfl
    · refine r_tsI K 50 84 dX5_writer_34 (by decide) (by decide) (by decide) (by decide) ?_
      refine r_aln K hl 3 dX5_writer_84 rfl rfl ?_
      refine r_get K h ffX5_105 14 rfl rfl dX5_writer_85 ?_
      exact hr.1 _ _ _ _ _ dX5_writer_88 h (congrArg (fun q => some (Value.int q)) (k0.symm))
    · refine r_tsI K 55 89 dX5_writer_34 (by decide) (by decide) (by decide) (by decide) ?_
      refine r_aln K hl 3 dX5_writer_89 rfl rfl ?_
      refine r_get K h ffX5_110 14 rfl rfl dX5_writer_90 ?_
      exact hr.1 _ _ _ _ _ dX5_writer_93 h (congrArg (fun q => some (Value.int q)) (k3.symm))
    · refine r_tsI K 60 94 dX5_writer_34 (by decide) (by decide) (by decide) (by decide) ?_
      refine r_aln K hl 3 dX5_writer_94 rfl rfl ?_
      refine r_callVW K h hl (wd0 0 (by omega) rfl (c_W_isReading l g (wa 0) (V 0) 0 (by omega)) (lvB g b wa (pn) (pk) (sc) (fk) (sa) (sb) (sr) (rb))) mc_X0_isReading vm_X0_isReading mlX5_113 14 rfl rfl rfl rfl _ rfl (by decide) (by decide) rfl rfl (Nat.le_of_ble_eq_true rfl) ⟨Nat.zero_le _, Nat.zero_le _⟩ dX5_writer_95 (fun H locs h => ?_)
      refine W.eq (g2 := F0 m 98 ls [_]) rfl ?_
      refine r_zeqB K 108 dX5_writer_98 (by decide) (fun c98 => ?_) (fun c98 => ?_)
      · refine r_bp K (-9) dX5_writer_108 kb_m9 ?_
        exact hr.1 _ _ _ _ _ dX5_writer_110 h (congrArg (fun q => some (Value.int q)) (show (if rdB f 0 then nI (rSt f 0 % n) else -9) = -9 by rw [← hrb, show _ = false from c98]; rfl))
      · refine r_aln K hl 3 dX5_writer_101 rfl rfl ?_
        refine r_get K h ffX5_117 14 rfl rfl dX5_writer_102 ?_
        refine r_go K 110 dX5_writer_105 (by decide) ?_
        exact hr.1 _ _ _ _ _ dX5_writer_110 h (congrArg (fun q => some (Value.int q)) (show (if rdB f 0 then nI (rSt f 0 % n) else -9) = V 0 6 4 by rw [if_pos (hrb.symm.trans c98)]; exact (hnc (hrb.symm.trans c98)).symm))
    · refine r_tsI K 77 111 dX5_writer_34 (by decide) (by decide) (by decide) (by decide) ?_
      refine r_aln K hl 3 dX5_writer_111 rfl rfl ?_
      refine r_get K h ffX5_120 14 rfl rfl dX5_writer_112 ?_
      exact hr.1 _ _ _ _ _ dX5_writer_115 h (congrArg (fun q => some (Value.int q)) (k5.symm))
    · refine r_tsI K 87 121 dX5_writer_34 (by decide) (by decide) (by decide) (by decide) ?_
      refine r_aln K hl 3 dX5_writer_121 rfl rfl ?_
      refine r_get K h ffX5_126 14 rfl rfl dX5_writer_122 ?_
      refine r_iln K hl 2 dX5_writer_125 rfl rfl ?_
      refine r_ic K (nI 4) dX5_writer_126 k_4 ?_
      refine r_subN K (by omega) dX5_writer_127 ?_
      refine r_ial K h 16 rfl (by omega) (by decide) dX5_writer_128 ?_
      exact hr.1 _ _ _ _ _ dX5_writer_129 h (congrArg (fun q => some (Value.int q)) ((k7 0 (by omega)).2.1.symm))
    · refine r_tsI K 87 121 dX5_writer_34 (by decide) (by decide) (by decide) (by decide) ?_
      refine r_aln K hl 3 dX5_writer_121 rfl rfl ?_
      refine r_get K h ffX5_126 14 rfl rfl dX5_writer_122 ?_
      refine r_iln K hl 2 dX5_writer_125 rfl rfl ?_
      refine r_ic K (nI 4) dX5_writer_126 k_4 ?_
      refine r_subN K (by omega) dX5_writer_127 ?_
      refine r_ial K h 16 rfl (by omega) (by decide) dX5_writer_128 ?_
      exact hr.1 _ _ _ _ _ dX5_writer_129 h (congrArg (fun q => some (Value.int q)) ((k7 1 (by omega)).2.1.symm))
    · refine r_tsI K 87 121 dX5_writer_34 (by decide) (by decide) (by decide) (by decide) ?_
      refine r_aln K hl 3 dX5_writer_121 rfl rfl ?_
      refine r_get K h ffX5_126 14 rfl rfl dX5_writer_122 ?_
      refine r_iln K hl 2 dX5_writer_125 rfl rfl ?_
      refine r_ic K (nI 4) dX5_writer_126 k_4 ?_
      refine r_subN K (by omega) dX5_writer_127 ?_
      refine r_ial K h 16 rfl (by omega) (by decide) dX5_writer_128 ?_
      exact hr.1 _ _ _ _ _ dX5_writer_129 h (congrArg (fun q => some (Value.int q)) ((k7 2 (by omega)).2.1.symm))
    · refine r_tsI K 87 121 dX5_writer_34 (by decide) (by decide) (by decide) (by decide) ?_
      refine r_aln K hl 3 dX5_writer_121 rfl rfl ?_
      refine r_get K h ffX5_126 14 rfl rfl dX5_writer_122 ?_
      refine r_iln K hl 2 dX5_writer_125 rfl rfl ?_
      refine r_ic K (nI 4) dX5_writer_126 k_4 ?_
      refine r_subN K (by omega) dX5_writer_127 ?_
      refine r_ial K h 16 rfl (by omega) (by decide) dX5_writer_128 ?_
      exact hr.1 _ _ _ _ _ dX5_writer_129 h (congrArg (fun q => some (Value.int q)) ((k7 3 (by omega)).2.1.symm))
    · refine r_tsI K 82 116 dX5_writer_34 (by decide) (by decide) (by decide) (by decide) ?_
      refine r_aln K hl 3 dX5_writer_116 rfl rfl ?_
      refine r_get K h ffX5_123 14 rfl rfl dX5_writer_117 ?_
      exact hr.1 _ _ _ _ _ dX5_writer_120 h (congrArg (fun q => some (Value.int q)) (k1.symm))
  · obtain ⟨k0, k1, k2, k3, k4, k5, k6, k7⟩ := hR.2.2.2.2.1 1 (by omega)
    have hrb := rel_rdB hR (p := 1) (by omega)
    have hnc := rel_nc hR (p := 1) (by omega)
    refine r_aln K hl 0 dX5_writer_23 rfl rfl ?_
    refine r_get K h ffX5_10 0 rfl rfl dX5_writer_24 ?_
    refine r_get K h ffX5_101 8 rfl rfl dX5_writer_27 ?_
    refine r_iln K hl 1 dX5_writer_30 rfl rfl ?_
    refine r_aal2 K h 13 rfl (by omega) (by decide) rfl dX5_writer_31 ?_
    refine r_asn K hl 3 [_, _, _, _] dX5_writer_32 rfl (by decide) rfl (fun ls hl => ?_)
    refine r_iln K hl 2 dX5_writer_33 rfl rfl ?_
    rcases (by omega : k = 0 ∨ k = 1 ∨ k = 2 ∨ k = 3 ∨ k = 4 ∨ k = 5 ∨ k = 6 ∨ k = 7 ∨ k = 8) with rfl | rfl | rfl | rfl | rfl | rfl | rfl | rfl | rfl
    · refine r_tsI K 50 84 dX5_writer_34 (by decide) (by decide) (by decide) (by decide) ?_
      refine r_aln K hl 3 dX5_writer_84 rfl rfl ?_
      refine r_get K h ffX5_105 22 rfl rfl dX5_writer_85 ?_
      exact hr.1 _ _ _ _ _ dX5_writer_88 h (congrArg (fun q => some (Value.int q)) (k0.symm))
    · refine r_tsI K 55 89 dX5_writer_34 (by decide) (by decide) (by decide) (by decide) ?_
      refine r_aln K hl 3 dX5_writer_89 rfl rfl ?_
      refine r_get K h ffX5_110 22 rfl rfl dX5_writer_90 ?_
      exact hr.1 _ _ _ _ _ dX5_writer_93 h (congrArg (fun q => some (Value.int q)) (k3.symm))
    · refine r_tsI K 60 94 dX5_writer_34 (by decide) (by decide) (by decide) (by decide) ?_
      refine r_aln K hl 3 dX5_writer_94 rfl rfl ?_
      refine r_callVW K h hl (wd0 0 (by omega) rfl (c_W_isReading l g (wa 0) (V 0) 1 (by omega)) (lvB g b wa (pn) (pk) (sc) (fk) (sa) (sb) (sr) (rb))) mc_X0_isReading vm_X0_isReading mlX5_113 22 rfl rfl rfl rfl _ rfl (by decide) (by decide) rfl rfl (Nat.le_of_ble_eq_true rfl) ⟨Nat.zero_le _, Nat.zero_le _⟩ dX5_writer_95 (fun H locs h => ?_)
      refine W.eq (g2 := F0 m 98 ls [_]) rfl ?_
      refine r_zeqB K 108 dX5_writer_98 (by decide) (fun c98 => ?_) (fun c98 => ?_)
      · refine r_bp K (-9) dX5_writer_108 kb_m9 ?_
        exact hr.1 _ _ _ _ _ dX5_writer_110 h (congrArg (fun q => some (Value.int q)) (show (if rdB f 1 then nI (rSt f 1 % n) else -9) = -9 by rw [← hrb, show _ = false from c98]; rfl))
      · refine r_aln K hl 3 dX5_writer_101 rfl rfl ?_
        refine r_get K h ffX5_117 22 rfl rfl dX5_writer_102 ?_
        refine r_go K 110 dX5_writer_105 (by decide) ?_
        exact hr.1 _ _ _ _ _ dX5_writer_110 h (congrArg (fun q => some (Value.int q)) (show (if rdB f 1 then nI (rSt f 1 % n) else -9) = V 0 14 4 by rw [if_pos (hrb.symm.trans c98)]; exact (hnc (hrb.symm.trans c98)).symm))
    · refine r_tsI K 77 111 dX5_writer_34 (by decide) (by decide) (by decide) (by decide) ?_
      refine r_aln K hl 3 dX5_writer_111 rfl rfl ?_
      refine r_get K h ffX5_120 22 rfl rfl dX5_writer_112 ?_
      exact hr.1 _ _ _ _ _ dX5_writer_115 h (congrArg (fun q => some (Value.int q)) (k5.symm))
    · refine r_tsI K 87 121 dX5_writer_34 (by decide) (by decide) (by decide) (by decide) ?_
      refine r_aln K hl 3 dX5_writer_121 rfl rfl ?_
      refine r_get K h ffX5_126 22 rfl rfl dX5_writer_122 ?_
      refine r_iln K hl 2 dX5_writer_125 rfl rfl ?_
      refine r_ic K (nI 4) dX5_writer_126 k_4 ?_
      refine r_subN K (by omega) dX5_writer_127 ?_
      refine r_ial K h 24 rfl (by omega) (by decide) dX5_writer_128 ?_
      exact hr.1 _ _ _ _ _ dX5_writer_129 h (congrArg (fun q => some (Value.int q)) ((k7 0 (by omega)).2.1.symm))
    · refine r_tsI K 87 121 dX5_writer_34 (by decide) (by decide) (by decide) (by decide) ?_
      refine r_aln K hl 3 dX5_writer_121 rfl rfl ?_
      refine r_get K h ffX5_126 22 rfl rfl dX5_writer_122 ?_
      refine r_iln K hl 2 dX5_writer_125 rfl rfl ?_
      refine r_ic K (nI 4) dX5_writer_126 k_4 ?_
      refine r_subN K (by omega) dX5_writer_127 ?_
      refine r_ial K h 24 rfl (by omega) (by decide) dX5_writer_128 ?_
      exact hr.1 _ _ _ _ _ dX5_writer_129 h (congrArg (fun q => some (Value.int q)) ((k7 1 (by omega)).2.1.symm))
    · refine r_tsI K 87 121 dX5_writer_34 (by decide) (by decide) (by decide) (by decide) ?_
      refine r_aln K hl 3 dX5_writer_121 rfl rfl ?_
      refine r_get K h ffX5_126 22 rfl rfl dX5_writer_122 ?_
      refine r_iln K hl 2 dX5_writer_125 rfl rfl ?_
      refine r_ic K (nI 4) dX5_writer_126 k_4 ?_
      refine r_subN K (by omega) dX5_writer_127 ?_
      refine r_ial K h 24 rfl (by omega) (by decide) dX5_writer_128 ?_
      exact hr.1 _ _ _ _ _ dX5_writer_129 h (congrArg (fun q => some (Value.int q)) ((k7 2 (by omega)).2.1.symm))
    · refine r_tsI K 87 121 dX5_writer_34 (by decide) (by decide) (by decide) (by decide) ?_
      refine r_aln K hl 3 dX5_writer_121 rfl rfl ?_
      refine r_get K h ffX5_126 22 rfl rfl dX5_writer_122 ?_
      refine r_iln K hl 2 dX5_writer_125 rfl rfl ?_
      refine r_ic K (nI 4) dX5_writer_126 k_4 ?_
      refine r_subN K (by omega) dX5_writer_127 ?_
      refine r_ial K h 24 rfl (by omega) (by decide) dX5_writer_128 ?_
      exact hr.1 _ _ _ _ _ dX5_writer_129 h (congrArg (fun q => some (Value.int q)) ((k7 3 (by omega)).2.1.symm))
    · refine r_tsI K 82 116 dX5_writer_34 (by decide) (by decide) (by decide) (by decide) ?_
      refine r_aln K hl 3 dX5_writer_116 rfl rfl ?_
      refine r_get K h ffX5_123 22 rfl rfl dX5_writer_117 ?_
      exact hr.1 _ _ _ _ _ dX5_writer_120 h (congrArg (fun q => some (Value.int q)) (k1.symm))
  · obtain ⟨k0, k1, k2, k3, k4, k5, k6, k7⟩ := hR.2.2.2.2.1 2 (by omega)
    have hrb := rel_rdB hR (p := 2) (by omega)
    have hnc := rel_nc hR (p := 2) (by omega)
    refine r_aln K hl 0 dX5_writer_23 rfl rfl ?_
    refine r_get K h ffX5_10 0 rfl rfl dX5_writer_24 ?_
    refine r_get K h ffX5_101 8 rfl rfl dX5_writer_27 ?_
    refine r_iln K hl 1 dX5_writer_30 rfl rfl ?_
    refine r_aal2 K h 13 rfl (by omega) (by decide) rfl dX5_writer_31 ?_
    refine r_asn K hl 3 [_, _, _, _] dX5_writer_32 rfl (by decide) rfl (fun ls hl => ?_)
    refine r_iln K hl 2 dX5_writer_33 rfl rfl ?_
    rcases (by omega : k = 0 ∨ k = 1 ∨ k = 2 ∨ k = 3 ∨ k = 4 ∨ k = 5 ∨ k = 6 ∨ k = 7 ∨ k = 8) with rfl | rfl | rfl | rfl | rfl | rfl | rfl | rfl | rfl
    · refine r_tsI K 50 84 dX5_writer_34 (by decide) (by decide) (by decide) (by decide) ?_
      refine r_aln K hl 3 dX5_writer_84 rfl rfl ?_
      refine r_get K h ffX5_105 30 rfl rfl dX5_writer_85 ?_
      exact hr.1 _ _ _ _ _ dX5_writer_88 h (congrArg (fun q => some (Value.int q)) (k0.symm))
    · refine r_tsI K 55 89 dX5_writer_34 (by decide) (by decide) (by decide) (by decide) ?_
      refine r_aln K hl 3 dX5_writer_89 rfl rfl ?_
      refine r_get K h ffX5_110 30 rfl rfl dX5_writer_90 ?_
      exact hr.1 _ _ _ _ _ dX5_writer_93 h (congrArg (fun q => some (Value.int q)) (k3.symm))
    · refine r_tsI K 60 94 dX5_writer_34 (by decide) (by decide) (by decide) (by decide) ?_
      refine r_aln K hl 3 dX5_writer_94 rfl rfl ?_
      refine r_callVW K h hl (wd0 0 (by omega) rfl (c_W_isReading l g (wa 0) (V 0) 2 (by omega)) (lvB g b wa (pn) (pk) (sc) (fk) (sa) (sb) (sr) (rb))) mc_X0_isReading vm_X0_isReading mlX5_113 30 rfl rfl rfl rfl _ rfl (by decide) (by decide) rfl rfl (Nat.le_of_ble_eq_true rfl) ⟨Nat.zero_le _, Nat.zero_le _⟩ dX5_writer_95 (fun H locs h => ?_)
      refine W.eq (g2 := F0 m 98 ls [_]) rfl ?_
      refine r_zeqB K 108 dX5_writer_98 (by decide) (fun c98 => ?_) (fun c98 => ?_)
      · refine r_bp K (-9) dX5_writer_108 kb_m9 ?_
        exact hr.1 _ _ _ _ _ dX5_writer_110 h (congrArg (fun q => some (Value.int q)) (show (if rdB f 2 then nI (rSt f 2 % n) else -9) = -9 by rw [← hrb, show _ = false from c98]; rfl))
      · refine r_aln K hl 3 dX5_writer_101 rfl rfl ?_
        refine r_get K h ffX5_117 30 rfl rfl dX5_writer_102 ?_
        refine r_go K 110 dX5_writer_105 (by decide) ?_
        exact hr.1 _ _ _ _ _ dX5_writer_110 h (congrArg (fun q => some (Value.int q)) (show (if rdB f 2 then nI (rSt f 2 % n) else -9) = V 0 22 4 by rw [if_pos (hrb.symm.trans c98)]; exact (hnc (hrb.symm.trans c98)).symm))
    · refine r_tsI K 77 111 dX5_writer_34 (by decide) (by decide) (by decide) (by decide) ?_
      refine r_aln K hl 3 dX5_writer_111 rfl rfl ?_
      refine r_get K h ffX5_120 30 rfl rfl dX5_writer_112 ?_
      exact hr.1 _ _ _ _ _ dX5_writer_115 h (congrArg (fun q => some (Value.int q)) (k5.symm))
    · refine r_tsI K 87 121 dX5_writer_34 (by decide) (by decide) (by decide) (by decide) ?_
      refine r_aln K hl 3 dX5_writer_121 rfl rfl ?_
      refine r_get K h ffX5_126 30 rfl rfl dX5_writer_122 ?_
      refine r_iln K hl 2 dX5_writer_125 rfl rfl ?_
      refine r_ic K (nI 4) dX5_writer_126 k_4 ?_
      refine r_subN K (by omega) dX5_writer_127 ?_
      refine r_ial K h 32 rfl (by omega) (by decide) dX5_writer_128 ?_
      exact hr.1 _ _ _ _ _ dX5_writer_129 h (congrArg (fun q => some (Value.int q)) ((k7 0 (by omega)).2.1.symm))
    · refine r_tsI K 87 121 dX5_writer_34 (by decide) (by decide) (by decide) (by decide) ?_
      refine r_aln K hl 3 dX5_writer_121 rfl rfl ?_
      refine r_get K h ffX5_126 30 rfl rfl dX5_writer_122 ?_
      refine r_iln K hl 2 dX5_writer_125 rfl rfl ?_
      refine r_ic K (nI 4) dX5_writer_126 k_4 ?_
      refine r_subN K (by omega) dX5_writer_127 ?_
      refine r_ial K h 32 rfl (by omega) (by decide) dX5_writer_128 ?_
      exact hr.1 _ _ _ _ _ dX5_writer_129 h (congrArg (fun q => some (Value.int q)) ((k7 1 (by omega)).2.1.symm))
    · refine r_tsI K 87 121 dX5_writer_34 (by decide) (by decide) (by decide) (by decide) ?_
      refine r_aln K hl 3 dX5_writer_121 rfl rfl ?_
      refine r_get K h ffX5_126 30 rfl rfl dX5_writer_122 ?_
      refine r_iln K hl 2 dX5_writer_125 rfl rfl ?_
      refine r_ic K (nI 4) dX5_writer_126 k_4 ?_
      refine r_subN K (by omega) dX5_writer_127 ?_
      refine r_ial K h 32 rfl (by omega) (by decide) dX5_writer_128 ?_
      exact hr.1 _ _ _ _ _ dX5_writer_129 h (congrArg (fun q => some (Value.int q)) ((k7 2 (by omega)).2.1.symm))
    · refine r_tsI K 87 121 dX5_writer_34 (by decide) (by decide) (by decide) (by decide) ?_
      refine r_aln K hl 3 dX5_writer_121 rfl rfl ?_
      refine r_get K h ffX5_126 30 rfl rfl dX5_writer_122 ?_
      refine r_iln K hl 2 dX5_writer_125 rfl rfl ?_
      refine r_ic K (nI 4) dX5_writer_126 k_4 ?_
      refine r_subN K (by omega) dX5_writer_127 ?_
      refine r_ial K h 32 rfl (by omega) (by decide) dX5_writer_128 ?_
      exact hr.1 _ _ _ _ _ dX5_writer_129 h (congrArg (fun q => some (Value.int q)) ((k7 3 (by omega)).2.1.symm))
    · refine r_tsI K 82 116 dX5_writer_34 (by decide) (by decide) (by decide) (by decide) ?_
      refine r_aln K hl 3 dX5_writer_116 rfl rfl ?_
      refine r_get K h ffX5_123 30 rfl rfl dX5_writer_117 ?_
      exact hr.1 _ _ _ _ _ dX5_writer_120 h (congrArg (fun q => some (Value.int q)) (k1.symm))
  · obtain ⟨k0, k1, k2, k3, k4, k5, k6, k7⟩ := hR.2.2.2.2.1 3 (by omega)
    have hrb := rel_rdB hR (p := 3) (by omega)
    have hnc := rel_nc hR (p := 3) (by omega)
    refine r_aln K hl 0 dX5_writer_23 rfl rfl ?_
    refine r_get K h ffX5_10 0 rfl rfl dX5_writer_24 ?_
    refine r_get K h ffX5_101 8 rfl rfl dX5_writer_27 ?_
    refine r_iln K hl 1 dX5_writer_30 rfl rfl ?_
    refine r_aal2 K h 13 rfl (by omega) (by decide) rfl dX5_writer_31 ?_
    refine r_asn K hl 3 [_, _, _, _] dX5_writer_32 rfl (by decide) rfl (fun ls hl => ?_)
    refine r_iln K hl 2 dX5_writer_33 rfl rfl ?_
    rcases (by omega : k = 0 ∨ k = 1 ∨ k = 2 ∨ k = 3 ∨ k = 4 ∨ k = 5 ∨ k = 6 ∨ k = 7 ∨ k = 8) with rfl | rfl | rfl | rfl | rfl | rfl | rfl | rfl | rfl
    · refine r_tsI K 50 84 dX5_writer_34 (by decide) (by decide) (by decide) (by decide) ?_
      refine r_aln K hl 3 dX5_writer_84 rfl rfl ?_
      refine r_get K h ffX5_105 38 rfl rfl dX5_writer_85 ?_
      exact hr.1 _ _ _ _ _ dX5_writer_88 h (congrArg (fun q => some (Value.int q)) (k0.symm))
    · refine r_tsI K 55 89 dX5_writer_34 (by decide) (by decide) (by decide) (by decide) ?_
      refine r_aln K hl 3 dX5_writer_89 rfl rfl ?_
      refine r_get K h ffX5_110 38 rfl rfl dX5_writer_90 ?_
      exact hr.1 _ _ _ _ _ dX5_writer_93 h (congrArg (fun q => some (Value.int q)) (k3.symm))
    · refine r_tsI K 60 94 dX5_writer_34 (by decide) (by decide) (by decide) (by decide) ?_
      refine r_aln K hl 3 dX5_writer_94 rfl rfl ?_
      refine r_callVW K h hl (wd0 0 (by omega) rfl (c_W_isReading l g (wa 0) (V 0) 3 (by omega)) (lvB g b wa (pn) (pk) (sc) (fk) (sa) (sb) (sr) (rb))) mc_X0_isReading vm_X0_isReading mlX5_113 38 rfl rfl rfl rfl _ rfl (by decide) (by decide) rfl rfl (Nat.le_of_ble_eq_true rfl) ⟨Nat.zero_le _, Nat.zero_le _⟩ dX5_writer_95 (fun H locs h => ?_)
      refine W.eq (g2 := F0 m 98 ls [_]) rfl ?_
      refine r_zeqB K 108 dX5_writer_98 (by decide) (fun c98 => ?_) (fun c98 => ?_)
      · refine r_bp K (-9) dX5_writer_108 kb_m9 ?_
        exact hr.1 _ _ _ _ _ dX5_writer_110 h (congrArg (fun q => some (Value.int q)) (show (if rdB f 3 then nI (rSt f 3 % n) else -9) = -9 by rw [← hrb, show _ = false from c98]; rfl))
      · refine r_aln K hl 3 dX5_writer_101 rfl rfl ?_
        refine r_get K h ffX5_117 38 rfl rfl dX5_writer_102 ?_
        refine r_go K 110 dX5_writer_105 (by decide) ?_
        exact hr.1 _ _ _ _ _ dX5_writer_110 h (congrArg (fun q => some (Value.int q)) (show (if rdB f 3 then nI (rSt f 3 % n) else -9) = V 0 30 4 by rw [if_pos (hrb.symm.trans c98)]; exact (hnc (hrb.symm.trans c98)).symm))
    · refine r_tsI K 77 111 dX5_writer_34 (by decide) (by decide) (by decide) (by decide) ?_
      refine r_aln K hl 3 dX5_writer_111 rfl rfl ?_
      refine r_get K h ffX5_120 38 rfl rfl dX5_writer_112 ?_
      exact hr.1 _ _ _ _ _ dX5_writer_115 h (congrArg (fun q => some (Value.int q)) (k5.symm))
    · refine r_tsI K 87 121 dX5_writer_34 (by decide) (by decide) (by decide) (by decide) ?_
      refine r_aln K hl 3 dX5_writer_121 rfl rfl ?_
      refine r_get K h ffX5_126 38 rfl rfl dX5_writer_122 ?_
      refine r_iln K hl 2 dX5_writer_125 rfl rfl ?_
      refine r_ic K (nI 4) dX5_writer_126 k_4 ?_
      refine r_subN K (by omega) dX5_writer_127 ?_
      refine r_ial K h 40 rfl (by omega) (by decide) dX5_writer_128 ?_
      exact hr.1 _ _ _ _ _ dX5_writer_129 h (congrArg (fun q => some (Value.int q)) ((k7 0 (by omega)).2.1.symm))
    · refine r_tsI K 87 121 dX5_writer_34 (by decide) (by decide) (by decide) (by decide) ?_
      refine r_aln K hl 3 dX5_writer_121 rfl rfl ?_
      refine r_get K h ffX5_126 38 rfl rfl dX5_writer_122 ?_
      refine r_iln K hl 2 dX5_writer_125 rfl rfl ?_
      refine r_ic K (nI 4) dX5_writer_126 k_4 ?_
      refine r_subN K (by omega) dX5_writer_127 ?_
      refine r_ial K h 40 rfl (by omega) (by decide) dX5_writer_128 ?_
      exact hr.1 _ _ _ _ _ dX5_writer_129 h (congrArg (fun q => some (Value.int q)) ((k7 1 (by omega)).2.1.symm))
    · refine r_tsI K 87 121 dX5_writer_34 (by decide) (by decide) (by decide) (by decide) ?_
      refine r_aln K hl 3 dX5_writer_121 rfl rfl ?_
      refine r_get K h ffX5_126 38 rfl rfl dX5_writer_122 ?_
      refine r_iln K hl 2 dX5_writer_125 rfl rfl ?_
      refine r_ic K (nI 4) dX5_writer_126 k_4 ?_
      refine r_subN K (by omega) dX5_writer_127 ?_
      refine r_ial K h 40 rfl (by omega) (by decide) dX5_writer_128 ?_
      exact hr.1 _ _ _ _ _ dX5_writer_129 h (congrArg (fun q => some (Value.int q)) ((k7 2 (by omega)).2.1.symm))
    · refine r_tsI K 87 121 dX5_writer_34 (by decide) (by decide) (by decide) (by decide) ?_
      refine r_aln K hl 3 dX5_writer_121 rfl rfl ?_
      refine r_get K h ffX5_126 38 rfl rfl dX5_writer_122 ?_
      refine r_iln K hl 2 dX5_writer_125 rfl rfl ?_
      refine r_ic K (nI 4) dX5_writer_126 k_4 ?_
      refine r_subN K (by omega) dX5_writer_127 ?_
      refine r_ial K h 40 rfl (by omega) (by decide) dX5_writer_128 ?_
      exact hr.1 _ _ _ _ _ dX5_writer_129 h (congrArg (fun q => some (Value.int q)) ((k7 3 (by omega)).2.1.symm))
    · refine r_tsI K 82 116 dX5_writer_34 (by decide) (by decide) (by decide) (by decide) ?_
      refine r_aln K hl 3 dX5_writer_116 rfl rfl ?_
      refine r_get K h ffX5_123 38 rfl rfl dX5_writer_117 ?_
      exact hr.1 _ _ _ _ _ dX5_writer_120 h (congrArg (fun q => some (Value.int q)) (k1.symm))

set_option maxHeartbeats 4000000 in
set_option maxRecDepth 100000 in
theorem c_X5_read_bad (l : Launch) (g : GG) (b : Nat → Nat) (wa : Nat → Nat → Nat) (fk sa sb sr rb : Row) (V : Nat → Nat → Row) (f : Row) (n mv ph wr t : Nat) (hR : Rel (V 0) f n mv ph wr t) (pn pk sc : Int32) (x y v : Int32) (hb : (inB x (nI 0) (nI (n - 1)) && (inB y (nI 0) (nI (n - 1)) && inB v (nI 0) (nI 1))) = false) : Ct l g yX5_read cX5_read 5 (some .int) 7 [.ref (b 0), .int x, .int y, .int v] (lvB g b wa (pn) (pk) (sc) (fk) (sa) (sb) (sr) (rb) ++ WS g wa (V)) (some (.int (-1))) (lvB g b wa (pn) (pk) (sc) (fk) (sa) (sb) (sr) (rb) ++ WS g wa (V)) := by
  obtain ⟨hn2, hn, hm1, hm, hph, hwr⟩ := hR.1.1
  refine Ct.start (by decide +kernel) (Nat.le_of_ble_eq_true rfl) (by simp [Value.category]) (Or.inr ⟨.int, _, rfl, rfl, rfl⟩) ?_
  intro p0 e R s m args below meth c A Q K hr h ls hl
  have hl : Lq ls 5 [some (.ref (b 0)), some (.int x), some (.int y), some (.int v), none] := hl
  refine r_aln K hl 0 dX5_read_0 rfl rfl ?_
  refine r_get K h ffX5_10 0 rfl rfl dX5_read_1 ?_
  refine r_iln K hl 1 dX5_read_4 rfl rfl ?_
  refine r_callVW K h hl (wd0 0 (by omega) rfl (c_X4_has l g (wa 0) (V 0) x n (by omega) (by omega) hR.2.2.1.1) (lvB g b wa (pn) (pk) (sc) (fk) (sa) (sb) (sr) (rb))) mc_X4_has vm_X4_has mlX5_62 8 rfl rfl rfl rfl _ rfl (by decide) (by decide) rfl rfl (Nat.le_of_ble_eq_true rfl) ⟨Nat.zero_le _, Nat.zero_le _⟩ dX5_read_5 (fun H locs h => ?_)
  refine W.eq (g2 := F0 m 8 ls [_]) rfl ?_
  refine r_zeqB K 31 dX5_read_8 (by decide) (fun c8 => ?_) (fun c8 => ?_)
  · refine r_ic K (-1) dX5_read_31 k_m1 ?_
    exact hr.1 _ _ _ _ _ dX5_read_32 h rfl
  · refine r_aln K hl 0 dX5_read_11 rfl rfl ?_
    refine r_get K h ffX5_10 0 rfl rfl dX5_read_12 ?_
    refine r_iln K hl 2 dX5_read_15 rfl rfl ?_
    refine r_callVW K h hl (wd0 0 (by omega) rfl (c_X4_has l g (wa 0) (V 0) y n (by omega) (by omega) hR.2.2.1.1) (lvB g b wa (pn) (pk) (sc) (fk) (sa) (sb) (sr) (rb))) mc_X4_has vm_X4_has mlX5_62 8 rfl rfl rfl rfl _ rfl (by decide) (by decide) rfl rfl (Nat.le_of_ble_eq_true rfl) ⟨Nat.zero_le _, Nat.zero_le _⟩ dX5_read_16 (fun H locs h => ?_)
    refine W.eq (g2 := F0 m 19 ls [_]) rfl ?_
    refine r_zeqB K 31 dX5_read_19 (by decide) (fun c19 => ?_) (fun c19 => ?_)
    · refine r_ic K (-1) dX5_read_31 k_m1 ?_
      exact hr.1 _ _ _ _ _ dX5_read_32 h rfl
    · refine r_iln K hl 3 dX5_read_22 rfl rfl ?_
      refine r_ic K (nI 0) dX5_read_23 k_0 ?_
      refine r_ic K (nI 1) dX5_read_24 k_1 ?_
      refine r_callS K h hl (c_X5_isWithin l g v (nI 0) (nI 1)) mc_X5_isWithin st_X5_isWithin mlX5_47 [] (by decide +kernel) rfl rfl (_ :: _ :: _ :: _ :: _ :: _ :: _ :: _ :: _) rfl (by decide) (by decide) rfl rfl (Nat.le_of_ble_eq_true rfl) ⟨Nat.zero_le _, Nat.zero_le _⟩ dX5_read_25 (fun H locs h => ?_)
      refine W.eq (g2 := F0 m 28 ls [_]) rfl ?_
      refine r_zneB K 33 dX5_read_28 (by decide) (fun c => absurd (((show inB v (nI 0) (nI 1) = false by rw [c8, c19, Bool.true_and, Bool.true_and] at hb; exact hb)).symm.trans c) (by decide)) (fun _ => ?_)
      refine r_ic K (-1) dX5_read_31 k_m1 ?_
      exact hr.1 _ _ _ _ _ dX5_read_32 h rfl

set_option maxHeartbeats 4000000 in
set_option maxRecDepth 100000 in
theorem c_X5_read_ok (l : Launch) (g : GG) (b : Nat → Nat) (wa : Nat → Nat → Nat) (fk sa sb sr rb : Row) (V : Nat → Nat → Row) (f : Row) (n mv ph wr t : Nat) (hR : Rel (V 0) f n mv ph wr t) (pn pk sc : Int32) (p q k : Nat) (hp : p < n) (hq : q < n) (hk : k ≤ 1) : Ct l g yX5_read cX5_read 5 (some .int) 7 [.ref (b 0), .int (nI p), .int (nI q), .int (nI k)] (lvB g b wa (pn) (pk) (sc) (fk) (sa) (sb) (sr) (rb) ++ WS g wa (V)) (some (.int (mRA f n p q k))) (lvB g b wa (pn) (pk) (sc) (fk) (sa) (sb) (sr) (rb) ++ WS g wa (V)) := by
  obtain ⟨hn2, hn, hm1, hm, hph, hwr⟩ := hR.1.1
  refine Ct.start (by decide +kernel) (Nat.le_of_ble_eq_true rfl) (by simp [Value.category]) (Or.inr ⟨.int, _, rfl, rfl, rfl⟩) ?_
  intro p0 e R s m args below meth c A Q K hr h ls hl
  have hl : Lq ls 5 [some (.ref (b 0)), some (.int (nI p)), some (.int (nI q)), some (.int (nI k)), none] := hl
  have hmod : rSt f p % n < n := Nat.mod_lt _ (by omega)
  refine r_aln K hl 0 dX5_read_0 rfl rfl ?_
  refine r_get K h ffX5_10 0 rfl rfl dX5_read_1 ?_
  refine r_iln K hl 1 dX5_read_4 rfl rfl ?_
  refine r_callVW K h hl (wd0 0 (by omega) rfl (c_X4_has l g (wa 0) (V 0) (nI p) n (by omega) (by omega) hR.2.2.1.1) (lvB g b wa (pn) (pk) (sc) (fk) (sa) (sb) (sr) (rb))) mc_X4_has vm_X4_has mlX5_62 8 rfl rfl rfl rfl _ rfl (by decide) (by decide) rfl rfl (Nat.le_of_ble_eq_true rfl) ⟨Nat.zero_le _, Nat.zero_le _⟩ dX5_read_5 (fun H locs h => ?_)
  refine W.eq (g2 := F0 m 8 ls [_]) rfl ?_
  refine r_zeqB K 31 dX5_read_8 (by decide) (fun c => absurd (((inB_of (Nat.zero_le _) (by omega) (by omega))).symm.trans c) (by decide)) (fun _ => ?_)
  refine r_aln K hl 0 dX5_read_11 rfl rfl ?_
  refine r_get K h ffX5_10 0 rfl rfl dX5_read_12 ?_
  refine r_iln K hl 2 dX5_read_15 rfl rfl ?_
  refine r_callVW K h hl (wd0 0 (by omega) rfl (c_X4_has l g (wa 0) (V 0) (nI q) n (by omega) (by omega) hR.2.2.1.1) (lvB g b wa (pn) (pk) (sc) (fk) (sa) (sb) (sr) (rb))) mc_X4_has vm_X4_has mlX5_62 8 rfl rfl rfl rfl _ rfl (by decide) (by decide) rfl rfl (Nat.le_of_ble_eq_true rfl) ⟨Nat.zero_le _, Nat.zero_le _⟩ dX5_read_16 (fun H locs h => ?_)
  refine W.eq (g2 := F0 m 19 ls [_]) rfl ?_
  refine r_zeqB K 31 dX5_read_19 (by decide) (fun c => absurd (((inB_of (Nat.zero_le _) (by omega) (by omega))).symm.trans c) (by decide)) (fun _ => ?_)
  refine r_iln K hl 3 dX5_read_22 rfl rfl ?_
  refine r_ic K (nI 0) dX5_read_23 k_0 ?_
  refine r_ic K (nI 1) dX5_read_24 k_1 ?_
  refine r_callS K h hl (c_X5_isWithin l g (nI k) (nI 0) (nI 1)) mc_X5_isWithin st_X5_isWithin mlX5_47 [] (by decide +kernel) rfl rfl (_ :: _ :: _ :: _ :: _ :: _ :: _ :: _ :: _) rfl (by decide) (by decide) rfl rfl (Nat.le_of_ble_eq_true rfl) ⟨Nat.zero_le _, Nat.zero_le _⟩ dX5_read_25 (fun H locs h => ?_)
  refine W.eq (g2 := F0 m 28 ls [_]) rfl ?_
  refine r_zneB K 33 dX5_read_28 (by decide) (fun _ => ?_) (fun c => absurd (((inB_of (Nat.zero_le _) hk (by omega))).symm.trans c) (by decide))
  rcases (by omega : p = 0 ∨ p = 1 ∨ p = 2 ∨ p = 3) with rfl | rfl | rfl | rfl
  · obtain ⟨k0, k1, k2, k3, k4, k5, k6, k7⟩ := hR.2.2.2.2.1 0 (by omega)
    have hrb := rel_rdB hR (p := 0) (by omega)
    have hnc := rel_nc hR (p := 0) (by omega)
    obtain ⟨-, -, -, j1, j2, -⟩ := k7 q (by omega)
    refine r_aln K hl 0 dX5_read_33 rfl rfl ?_
    refine r_get K h ffX5_10 0 rfl rfl dX5_read_34 ?_
    refine r_get K h ffX5_101 8 rfl rfl dX5_read_37 ?_
    refine r_iln K hl 1 dX5_read_40 rfl rfl ?_
    refine r_aal2 K h 13 rfl (by omega) (by decide) rfl dX5_read_41 ?_
    refine r_as K hl 4 [_, _, _, _, _] dX5_read_42 (by decide) rfl (fun ls hl => ?_)
    refine r_al K hl 4 dX5_read_44 rfl ?_
    refine r_callVW K h hl (wd0 0 (by omega) rfl (c_W_isReading l g (wa 0) (V 0) 0 (by omega)) (lvB g b wa (pn) (pk) (sc) (fk) (sa) (sb) (sr) (rb))) mc_X0_isReading vm_X0_isReading mlX5_113 14 rfl rfl rfl rfl _ rfl (by decide) (by decide) rfl rfl (Nat.le_of_ble_eq_true rfl) ⟨Nat.zero_le _, Nat.zero_le _⟩ dX5_read_46 (fun H locs h => ?_)
    refine W.eq (g2 := F0 m 49 ls [_]) rfl ?_
    refine r_zeqB K 61 dX5_read_49 (by decide) (fun c49 => ?_) (fun c49 => ?_)
    · refine r_bp K (-9) dX5_read_61 kb_m9 ?_
      exact hr.1 _ _ _ _ _ dX5_read_63 h (congrArg (fun q => some (Value.int q)) (show mRA f n 0 q k = -9 by unfold mRA; rw [if_neg (fun z => absurd ((hrb.trans z.1).symm.trans c49) (by decide))]))
    · refine r_iln K hl 2 dX5_read_52 rfl rfl ?_
      refine r_al K hl 4 dX5_read_53 rfl ?_
      refine r_getE K h ffX5_117 14 rfl rfl (congrArg Value.int (hnc (hrb.symm.trans c49))) dX5_read_55 ?_
      refine r_cltN K 64 dX5_read_58 (by decide) (by omega) (by omega) (fun c58 => ?_) (fun c58 => ?_)
      · have hc : rdB f 0 = true ∧ q < rSt f 0 % n := ⟨hrb.symm.trans c49, c58⟩
        rcases (by omega : k = 0 ∨ k = 1) with rfl | rfl
        · refine r_iln K hl 3 dX5_read_64 rfl rfl ?_
          refine r_zne K 81 dX5_read_65 (by decide) (fun c => absurd c (fun q => q rfl)) (fun c65 => ?_)
          refine r_al K hl 4 dX5_read_68 rfl ?_
          refine r_get K h ffX5_129 14 rfl rfl dX5_read_70 ?_
          refine r_get K h ffX5_90 18 rfl rfl dX5_read_73 ?_
          refine r_iln K hl 2 dX5_read_76 rfl rfl ?_
          refine r_ial K h 19 rfl (by omega) (by decide) dX5_read_77 ?_
          refine r_go K 91 dX5_read_78 (by decide) ?_
          exact hr.1 _ _ _ _ _ dX5_read_91 h (congrArg (fun q => some (Value.int q)) (show mRA f n 0 q 0 = _ by unfold mRA; rw [if_pos hc]; exact j1.symm))
        · refine r_iln K hl 3 dX5_read_64 rfl rfl ?_
          refine r_zne K 81 dX5_read_65 (by decide) (fun c65 => ?_) (fun c => absurd c (by decide))
          refine r_al K hl 4 dX5_read_81 rfl ?_
          refine r_get K h ffX5_129 14 rfl rfl dX5_read_83 ?_
          refine r_get K h ffX5_95 18 rfl rfl dX5_read_86 ?_
          refine r_iln K hl 2 dX5_read_89 rfl rfl ?_
          refine r_ial K h 20 rfl (by omega) (by decide) dX5_read_90 ?_
          exact hr.1 _ _ _ _ _ dX5_read_91 h (congrArg (fun q => some (Value.int q)) (show mRA f n 0 q 1 = _ by unfold mRA; rw [if_pos hc]; exact j2.symm))
      · refine r_bp K (-9) dX5_read_61 kb_m9 ?_
        exact hr.1 _ _ _ _ _ dX5_read_63 h (congrArg (fun q => some (Value.int q)) (show mRA f n 0 q k = -9 by unfold mRA; rw [if_neg (fun z => by omega)]))
  · obtain ⟨k0, k1, k2, k3, k4, k5, k6, k7⟩ := hR.2.2.2.2.1 1 (by omega)
    have hrb := rel_rdB hR (p := 1) (by omega)
    have hnc := rel_nc hR (p := 1) (by omega)
    obtain ⟨-, -, -, j1, j2, -⟩ := k7 q (by omega)
    refine r_aln K hl 0 dX5_read_33 rfl rfl ?_
    refine r_get K h ffX5_10 0 rfl rfl dX5_read_34 ?_
    refine r_get K h ffX5_101 8 rfl rfl dX5_read_37 ?_
    refine r_iln K hl 1 dX5_read_40 rfl rfl ?_
    refine r_aal2 K h 13 rfl (by omega) (by decide) rfl dX5_read_41 ?_
    refine r_as K hl 4 [_, _, _, _, _] dX5_read_42 (by decide) rfl (fun ls hl => ?_)
    refine r_al K hl 4 dX5_read_44 rfl ?_
    refine r_callVW K h hl (wd0 0 (by omega) rfl (c_W_isReading l g (wa 0) (V 0) 1 (by omega)) (lvB g b wa (pn) (pk) (sc) (fk) (sa) (sb) (sr) (rb))) mc_X0_isReading vm_X0_isReading mlX5_113 22 rfl rfl rfl rfl _ rfl (by decide) (by decide) rfl rfl (Nat.le_of_ble_eq_true rfl) ⟨Nat.zero_le _, Nat.zero_le _⟩ dX5_read_46 (fun H locs h => ?_)
    refine W.eq (g2 := F0 m 49 ls [_]) rfl ?_
    refine r_zeqB K 61 dX5_read_49 (by decide) (fun c49 => ?_) (fun c49 => ?_)
    · refine r_bp K (-9) dX5_read_61 kb_m9 ?_
      exact hr.1 _ _ _ _ _ dX5_read_63 h (congrArg (fun q => some (Value.int q)) (show mRA f n 1 q k = -9 by unfold mRA; rw [if_neg (fun z => absurd ((hrb.trans z.1).symm.trans c49) (by decide))]))
    · refine r_iln K hl 2 dX5_read_52 rfl rfl ?_
      refine r_al K hl 4 dX5_read_53 rfl ?_
      refine r_getE K h ffX5_117 22 rfl rfl (congrArg Value.int (hnc (hrb.symm.trans c49))) dX5_read_55 ?_
      refine r_cltN K 64 dX5_read_58 (by decide) (by omega) (by omega) (fun c58 => ?_) (fun c58 => ?_)
      · have hc : rdB f 1 = true ∧ q < rSt f 1 % n := ⟨hrb.symm.trans c49, c58⟩
        rcases (by omega : k = 0 ∨ k = 1) with rfl | rfl
        · refine r_iln K hl 3 dX5_read_64 rfl rfl ?_
          refine r_zne K 81 dX5_read_65 (by decide) (fun c => absurd c (fun q => q rfl)) (fun c65 => ?_)
          refine r_al K hl 4 dX5_read_68 rfl ?_
          refine r_get K h ffX5_129 22 rfl rfl dX5_read_70 ?_
          refine r_get K h ffX5_90 26 rfl rfl dX5_read_73 ?_
          refine r_iln K hl 2 dX5_read_76 rfl rfl ?_
          refine r_ial K h 27 rfl (by omega) (by decide) dX5_read_77 ?_
          refine r_go K 91 dX5_read_78 (by decide) ?_
          exact hr.1 _ _ _ _ _ dX5_read_91 h (congrArg (fun q => some (Value.int q)) (show mRA f n 1 q 0 = _ by unfold mRA; rw [if_pos hc]; exact j1.symm))
        · refine r_iln K hl 3 dX5_read_64 rfl rfl ?_
          refine r_zne K 81 dX5_read_65 (by decide) (fun c65 => ?_) (fun c => absurd c (by decide))
          refine r_al K hl 4 dX5_read_81 rfl ?_
          refine r_get K h ffX5_129 22 rfl rfl dX5_read_83 ?_
          refine r_get K h ffX5_95 26 rfl rfl dX5_read_86 ?_
          refine r_iln K hl 2 dX5_read_89 rfl rfl ?_
          refine r_ial K h 28 rfl (by omega) (by decide) dX5_read_90 ?_
          exact hr.1 _ _ _ _ _ dX5_read_91 h (congrArg (fun q => some (Value.int q)) (show mRA f n 1 q 1 = _ by unfold mRA; rw [if_pos hc]; exact j2.symm))
      · refine r_bp K (-9) dX5_read_61 kb_m9 ?_
        exact hr.1 _ _ _ _ _ dX5_read_63 h (congrArg (fun q => some (Value.int q)) (show mRA f n 1 q k = -9 by unfold mRA; rw [if_neg (fun z => by omega)]))
  · obtain ⟨k0, k1, k2, k3, k4, k5, k6, k7⟩ := hR.2.2.2.2.1 2 (by omega)
    have hrb := rel_rdB hR (p := 2) (by omega)
    have hnc := rel_nc hR (p := 2) (by omega)
    obtain ⟨-, -, -, j1, j2, -⟩ := k7 q (by omega)
    refine r_aln K hl 0 dX5_read_33 rfl rfl ?_
    refine r_get K h ffX5_10 0 rfl rfl dX5_read_34 ?_
    refine r_get K h ffX5_101 8 rfl rfl dX5_read_37 ?_
    refine r_iln K hl 1 dX5_read_40 rfl rfl ?_
    refine r_aal2 K h 13 rfl (by omega) (by decide) rfl dX5_read_41 ?_
    refine r_as K hl 4 [_, _, _, _, _] dX5_read_42 (by decide) rfl (fun ls hl => ?_)
    refine r_al K hl 4 dX5_read_44 rfl ?_
    refine r_callVW K h hl (wd0 0 (by omega) rfl (c_W_isReading l g (wa 0) (V 0) 2 (by omega)) (lvB g b wa (pn) (pk) (sc) (fk) (sa) (sb) (sr) (rb))) mc_X0_isReading vm_X0_isReading mlX5_113 30 rfl rfl rfl rfl _ rfl (by decide) (by decide) rfl rfl (Nat.le_of_ble_eq_true rfl) ⟨Nat.zero_le _, Nat.zero_le _⟩ dX5_read_46 (fun H locs h => ?_)
    refine W.eq (g2 := F0 m 49 ls [_]) rfl ?_
    refine r_zeqB K 61 dX5_read_49 (by decide) (fun c49 => ?_) (fun c49 => ?_)
    · refine r_bp K (-9) dX5_read_61 kb_m9 ?_
      exact hr.1 _ _ _ _ _ dX5_read_63 h (congrArg (fun q => some (Value.int q)) (show mRA f n 2 q k = -9 by unfold mRA; rw [if_neg (fun z => absurd ((hrb.trans z.1).symm.trans c49) (by decide))]))
    · refine r_iln K hl 2 dX5_read_52 rfl rfl ?_
      refine r_al K hl 4 dX5_read_53 rfl ?_
      refine r_getE K h ffX5_117 30 rfl rfl (congrArg Value.int (hnc (hrb.symm.trans c49))) dX5_read_55 ?_
      refine r_cltN K 64 dX5_read_58 (by decide) (by omega) (by omega) (fun c58 => ?_) (fun c58 => ?_)
      · have hc : rdB f 2 = true ∧ q < rSt f 2 % n := ⟨hrb.symm.trans c49, c58⟩
        rcases (by omega : k = 0 ∨ k = 1) with rfl | rfl
        · refine r_iln K hl 3 dX5_read_64 rfl rfl ?_
          refine r_zne K 81 dX5_read_65 (by decide) (fun c => absurd c (fun q => q rfl)) (fun c65 => ?_)
          refine r_al K hl 4 dX5_read_68 rfl ?_
          refine r_get K h ffX5_129 30 rfl rfl dX5_read_70 ?_
          refine r_get K h ffX5_90 34 rfl rfl dX5_read_73 ?_
          refine r_iln K hl 2 dX5_read_76 rfl rfl ?_
          refine r_ial K h 35 rfl (by omega) (by decide) dX5_read_77 ?_
          refine r_go K 91 dX5_read_78 (by decide) ?_
          exact hr.1 _ _ _ _ _ dX5_read_91 h (congrArg (fun q => some (Value.int q)) (show mRA f n 2 q 0 = _ by unfold mRA; rw [if_pos hc]; exact j1.symm))
        · refine r_iln K hl 3 dX5_read_64 rfl rfl ?_
          refine r_zne K 81 dX5_read_65 (by decide) (fun c65 => ?_) (fun c => absurd c (by decide))
          refine r_al K hl 4 dX5_read_81 rfl ?_
          refine r_get K h ffX5_129 30 rfl rfl dX5_read_83 ?_
          refine r_get K h ffX5_95 34 rfl rfl dX5_read_86 ?_
          refine r_iln K hl 2 dX5_read_89 rfl rfl ?_
          refine r_ial K h 36 rfl (by omega) (by decide) dX5_read_90 ?_
          exact hr.1 _ _ _ _ _ dX5_read_91 h (congrArg (fun q => some (Value.int q)) (show mRA f n 2 q 1 = _ by unfold mRA; rw [if_pos hc]; exact j2.symm))
      · refine r_bp K (-9) dX5_read_61 kb_m9 ?_
        exact hr.1 _ _ _ _ _ dX5_read_63 h (congrArg (fun q => some (Value.int q)) (show mRA f n 2 q k = -9 by unfold mRA; rw [if_neg (fun z => by omega)]))
  · obtain ⟨k0, k1, k2, k3, k4, k5, k6, k7⟩ := hR.2.2.2.2.1 3 (by omega)
    have hrb := rel_rdB hR (p := 3) (by omega)
    have hnc := rel_nc hR (p := 3) (by omega)
    obtain ⟨-, -, -, j1, j2, -⟩ := k7 q (by omega)
    refine r_aln K hl 0 dX5_read_33 rfl rfl ?_
    refine r_get K h ffX5_10 0 rfl rfl dX5_read_34 ?_
    refine r_get K h ffX5_101 8 rfl rfl dX5_read_37 ?_
    refine r_iln K hl 1 dX5_read_40 rfl rfl ?_
    refine r_aal2 K h 13 rfl (by omega) (by decide) rfl dX5_read_41 ?_
    refine r_as K hl 4 [_, _, _, _, _] dX5_read_42 (by decide) rfl (fun ls hl => ?_)
    refine r_al K hl 4 dX5_read_44 rfl ?_
    refine r_callVW K h hl (wd0 0 (by omega) rfl (c_W_isReading l g (wa 0) (V 0) 3 (by omega)) (lvB g b wa (pn) (pk) (sc) (fk) (sa) (sb) (sr) (rb))) mc_X0_isReading vm_X0_isReading mlX5_113 38 rfl rfl rfl rfl _ rfl (by decide) (by decide) rfl rfl (Nat.le_of_ble_eq_true rfl) ⟨Nat.zero_le _, Nat.zero_le _⟩ dX5_read_46 (fun H locs h => ?_)
    refine W.eq (g2 := F0 m 49 ls [_]) rfl ?_
    refine r_zeqB K 61 dX5_read_49 (by decide) (fun c49 => ?_) (fun c49 => ?_)
    · refine r_bp K (-9) dX5_read_61 kb_m9 ?_
      exact hr.1 _ _ _ _ _ dX5_read_63 h (congrArg (fun q => some (Value.int q)) (show mRA f n 3 q k = -9 by unfold mRA; rw [if_neg (fun z => absurd ((hrb.trans z.1).symm.trans c49) (by decide))]))
    · refine r_iln K hl 2 dX5_read_52 rfl rfl ?_
      refine r_al K hl 4 dX5_read_53 rfl ?_
      refine r_getE K h ffX5_117 38 rfl rfl (congrArg Value.int (hnc (hrb.symm.trans c49))) dX5_read_55 ?_
      refine r_cltN K 64 dX5_read_58 (by decide) (by omega) (by omega) (fun c58 => ?_) (fun c58 => ?_)
      · have hc : rdB f 3 = true ∧ q < rSt f 3 % n := ⟨hrb.symm.trans c49, c58⟩
        rcases (by omega : k = 0 ∨ k = 1) with rfl | rfl
        · refine r_iln K hl 3 dX5_read_64 rfl rfl ?_
          refine r_zne K 81 dX5_read_65 (by decide) (fun c => absurd c (fun q => q rfl)) (fun c65 => ?_)
          refine r_al K hl 4 dX5_read_68 rfl ?_
          refine r_get K h ffX5_129 38 rfl rfl dX5_read_70 ?_
          refine r_get K h ffX5_90 42 rfl rfl dX5_read_73 ?_
          refine r_iln K hl 2 dX5_read_76 rfl rfl ?_
          refine r_ial K h 43 rfl (by omega) (by decide) dX5_read_77 ?_
          refine r_go K 91 dX5_read_78 (by decide) ?_
          exact hr.1 _ _ _ _ _ dX5_read_91 h (congrArg (fun q => some (Value.int q)) (show mRA f n 3 q 0 = _ by unfold mRA; rw [if_pos hc]; exact j1.symm))
        · refine r_iln K hl 3 dX5_read_64 rfl rfl ?_
          refine r_zne K 81 dX5_read_65 (by decide) (fun c65 => ?_) (fun c => absurd c (by decide))
          refine r_al K hl 4 dX5_read_81 rfl ?_
          refine r_get K h ffX5_129 38 rfl rfl dX5_read_83 ?_
          refine r_get K h ffX5_95 42 rfl rfl dX5_read_86 ?_
          refine r_iln K hl 2 dX5_read_89 rfl rfl ?_
          refine r_ial K h 44 rfl (by omega) (by decide) dX5_read_90 ?_
          exact hr.1 _ _ _ _ _ dX5_read_91 h (congrArg (fun q => some (Value.int q)) (show mRA f n 3 q 1 = _ by unfold mRA; rw [if_pos hc]; exact j2.symm))
      · refine r_bp K (-9) dX5_read_61 kb_m9 ?_
        exact hr.1 _ _ _ _ _ dX5_read_63 h (congrArg (fun q => some (Value.int q)) (show mRA f n 3 q k = -9 by unfold mRA; rw [if_neg (fun z => by omega)]))

