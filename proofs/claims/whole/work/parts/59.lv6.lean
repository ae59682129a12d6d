set_option maxHeartbeats 4000000 in
set_option maxRecDepth 100000 in
theorem c_X5_photo_bad (l : Launch) (g : GG) (b : Nat → Nat) (wa : Nat → Nat → Nat) (fk sa sb sr rb : Row) (V : Nat → Nat → Row) (f : Row) (n mv ph wr t : Nat) (hR : Rel (V 0) f n mv ph wr t) (pn pk sc : Int32) (x v : Int32) (hb : (inB x (nI 0) (nI ph - nI 1) && inB v (nI 0) (nI 10)) = false) : Ct l g yX5_photo cX5_photo 3 (some .int) 7 [.ref (b 0), .int x, .int v] (lvB g b wa (pn) (pk) (sc) (fk) (sa) (sb) (sr) (rb) ++ WS g wa (V)) (some (.int (-1))) (lvB g b wa (pn) (pk) (sc) (fk) (sa) (sb) (sr) (rb) ++ WS g wa (V)) := by
  obtain ⟨hn2, hn, hm1, hm, hph, hwr⟩ := hR.1.1
  refine Ct.start (by decide +kernel) (Nat.le_of_ble_eq_true rfl) (by simp [Value.category]) (Or.inr ⟨.int, _, rfl, rfl, rfl⟩) ?_
  intro p0 e R s m args below meth c A Q K hr h ls hl
  have hl : Lq ls 3 [some (.ref (b 0)), some (.int x), some (.int v)] := hl
  refine r_iln K hl 1 dX5_photo_0 rfl rfl ?_
  refine r_ic K (nI 0) dX5_photo_1 k_0 ?_
  refine r_aln K hl 0 dX5_photo_2 rfl rfl ?_
  refine r_get K h ffX5_10 0 rfl rfl dX5_photo_3 ?_
  refine r_get K h ffX5_132 8 rfl rfl dX5_photo_6 ?_
  refine r_getE K h ffX5_136 46 rfl rfl (congrArg Value.int hR.2.2.1.2.2.2.2.2.1) dX5_photo_9 ?_
  refine r_ic K (nI 1) dX5_photo_12 k_1 ?_
  refine r_sub K dX5_photo_13 ?_
  refine r_callS K h hl (c_X5_isWithin l g x (nI 0) (nI ph - nI 1)) mc_X5_isWithin st_X5_isWithin mlX5_47 [] (by decide +kernel) rfl rfl (_ :: _ :: _ :: _ :: _ :: _ :: _ :: _ :: _) rfl (by decide) (by decide) rfl rfl (Nat.le_of_ble_eq_true rfl) ⟨Nat.zero_le _, Nat.zero_le _⟩ dX5_photo_14 (fun H locs h => ?_)
  refine W.eq (g2 := F0 m 17 ls [_]) rfl ?_
  refine r_zeqB K 30 dX5_photo_17 (by decide) (fun c17 => ?_) (fun c17 => ?_)
  · refine r_ic K (-1) dX5_photo_30 k_m1 ?_
    exact hr.1 _ _ _ _ _ dX5_photo_31 h rfl
  · refine r_iln K hl 2 dX5_photo_20 rfl rfl ?_
    refine r_ic K (nI 0) dX5_photo_21 k_0 ?_
    refine r_bp K (nI 10) dX5_photo_22 kb_10 ?_
    refine r_callS K h hl (c_X5_isWithin l g v (nI 0) (nI 10)) mc_X5_isWithin st_X5_isWithin mlX5_47 [] (by decide +kernel) rfl rfl (_ :: _ :: _ :: _ :: _ :: _ :: _ :: _ :: _) rfl (by decide) (by decide) rfl rfl (Nat.le_of_ble_eq_true rfl) ⟨Nat.zero_le _, Nat.zero_le _⟩ dX5_photo_24 (fun H locs h => ?_)
    refine W.eq (g2 := F0 m 27 ls [_]) rfl ?_
    refine r_zneB K 32 dX5_photo_27 (by decide) (fun c => absurd (((show inB v (nI 0) (nI 10) = false by rw [c17, Bool.true_and] at hb; exact hb)).symm.trans c) (by decide)) (fun _ => ?_)
    refine r_ic K (-1) dX5_photo_30 k_m1 ?_
    exact hr.1 _ _ _ _ _ dX5_photo_31 h rfl

set_option maxHeartbeats 4000000 in
set_option maxRecDepth 100000 in
theorem c_X5_photo_ok (l : Launch) (g : GG) (b : Nat → Nat) (wa : Nat → Nat → Nat) (fk sa sb sr rb : Row) (V : Nat → Nat → Row) (f : Row) (n mv ph wr t : Nat) (hR : Rel (V 0) f n mv ph wr t) (pn pk sc : Int32) (i k : Nat) (hi : i < ph) (hk : k < 10) : Ct l g yX5_photo cX5_photo 3 (some .int) 7 [.ref (b 0), .int (nI i), .int (nI k)] (lvB g b wa (pn) (pk) (sc) (fk) (sa) (sb) (sr) (rb) ++ WS g wa (V)) (some (.int (f (200 + 10 * i + k)))) (lvB g b wa (pn) (pk) (sc) (fk) (sa) (sb) (sr) (rb) ++ WS g wa (V)) := by
  obtain ⟨hn2, hn, hm1, hm, hph, hwr⟩ := hR.1.1
  refine Ct.start (by decide +kernel) (Nat.le_of_ble_eq_true rfl) (by simp [Value.category]) (Or.inr ⟨.int, _, rfl, rfl, rfl⟩) ?_
  intro p0 e R s m args below meth c A Q K hr h ls hl
  have hl : Lq ls 3 [some (.ref (b 0)), some (.int (nI i)), some (.int (nI k))] := hl
  refine r_iln K hl 1 dX5_photo_0 rfl rfl ?_
  refine r_ic K (nI 0) dX5_photo_1 k_0 ?_
  refine r_aln K hl 0 dX5_photo_2 rfl rfl ?_
  refine r_get K h ffX5_10 0 rfl rfl dX5_photo_3 ?_
  refine r_get K h ffX5_132 8 rfl rfl dX5_photo_6 ?_
  refine r_getE K h ffX5_136 46 rfl rfl (congrArg Value.int hR.2.2.1.2.2.2.2.2.1) dX5_photo_9 ?_
  refine r_ic K (nI 1) dX5_photo_12 k_1 ?_
  refine r_sub K dX5_photo_13 ?_
  refine r_callS K h hl (c_X5_isWithin l g (nI i) (nI 0) (nI ph - nI 1)) mc_X5_isWithin st_X5_isWithin mlX5_47 [] (by decide +kernel) rfl rfl (_ :: _ :: _ :: _ :: _ :: _ :: _ :: _ :: _) rfl (by decide) (by decide) rfl rfl (Nat.le_of_ble_eq_true rfl) ⟨Nat.zero_le _, Nat.zero_le _⟩ dX5_photo_14 (fun H locs h => ?_)
  refine W.eq (g2 := F0 m 17 ls [_]) rfl ?_
  refine r_zeqB K 30 dX5_photo_17 (by decide) (fun c => absurd (((show inB (nI i) (nI 0) (nI ph - nI 1) = true by rw [pk_sub (by omega)]; exact inB_of (Nat.zero_le _) (by omega) (by omega))).symm.trans c) (by decide)) (fun _ => ?_)
  refine r_iln K hl 2 dX5_photo_20 rfl rfl ?_
  refine r_ic K (nI 0) dX5_photo_21 k_0 ?_
  refine r_bp K (nI 10) dX5_photo_22 kb_10 ?_
  refine r_callS K h hl (c_X5_isWithin l g (nI k) (nI 0) (nI 10)) mc_X5_isWithin st_X5_isWithin mlX5_47 [] (by decide +kernel) rfl rfl (_ :: _ :: _ :: _ :: _ :: _ :: _ :: _ :: _) rfl (by decide) (by decide) rfl rfl (Nat.le_of_ble_eq_true rfl) ⟨Nat.zero_le _, Nat.zero_le _⟩ dX5_photo_24 (fun H locs h => ?_)
  refine W.eq (g2 := F0 m 27 ls [_]) rfl ?_
  refine r_zneB K 32 dX5_photo_27 (by decide) (fun _ => ?_) (fun c => absurd (((inB_of (Nat.zero_le _) (by omega) (by omega))).symm.trans c) (by decide))
  refine r_aln K hl 0 dX5_photo_32 rfl rfl ?_
  refine r_get K h ffX5_10 0 rfl rfl dX5_photo_33 ?_
  refine r_get K h ffX5_132 8 rfl rfl dX5_photo_36 ?_
  refine r_iln K hl 1 dX5_photo_39 rfl rfl ?_
  refine r_iln K hl 2 dX5_photo_40 rfl rfl ?_
  refine r_callVW K h hl (wd0 0 (by omega) rfl (c_W_fact l g (wa 0) (V 0) i k (by omega) (by omega)) (lvB g b wa (pn) (pk) (sc) (fk) (sa) (sb) (sr) (rb))) mc_X1_fact vm_X1_fact mlX5_141 46 rfl rfl rfl rfl _ rfl (by decide) (by decide) rfl rfl (Nat.le_of_ble_eq_true rfl) ⟨Nat.zero_le _, Nat.zero_le _⟩ dX5_photo_41 (fun H locs h => ?_)
  refine W.eq (g2 := F0 m 44 ls [_]) rfl ?_
  exact hr.1 _ _ _ _ _ dX5_photo_44 h (congrArg (fun q => some (Value.int q)) (((hR.2.2.2.2.2.1 i hi).1 k hk).symm))

set_option maxHeartbeats 4000000 in
set_option maxRecDepth 100000 in
theorem c_X5_photo_mom (l : Launch) (g : GG) (b : Nat → Nat) (wa : Nat → Nat → Nat) (fk sa sb sr rb : Row) (V : Nat → Nat → Row) (f : Row) (n mv ph wr t : Nat) (hR : Rel (V 0) f n mv ph wr t) (pn pk sc : Int32) (i k : Nat) (hi : i < ph) (hk : k = 10) : Ct l g yX5_photo cX5_photo 3 (some .int) 7 [.ref (b 0), .int (nI i), .int (nI k)] (lvB g b wa (pn) (pk) (sc) (fk) (sa) (sb) (sr) (rb) ++ WS g wa (V)) (some (.int (mMom f i))) (lvB g b wa (pn) (pk) (sc) (fk) (sa) (sb) (sr) (rb) ++ WS g wa (V)) := by
  obtain ⟨hn2, hn, hm1, hm, hph, hwr⟩ := hR.1.1
  refine Ct.start (by decide +kernel) (Nat.le_of_ble_eq_true rfl) (by simp [Value.category]) (Or.inr ⟨.int, _, rfl, rfl, rfl⟩) ?_
  intro p0 e R s m args below meth c A Q K hr h ls hl
  have hl : Lq ls 3 [some (.ref (b 0)), some (.int (nI i)), some (.int (nI k))] := hl
  refine r_iln K hl 1 dX5_photo_0 rfl rfl ?_
  refine r_ic K (nI 0) dX5_photo_1 k_0 ?_
  refine r_aln K hl 0 dX5_photo_2 rfl rfl ?_
  refine r_get K h ffX5_10 0 rfl rfl dX5_photo_3 ?_
  refine r_get K h ffX5_132 8 rfl rfl dX5_photo_6 ?_
  refine r_getE K h ffX5_136 46 rfl rfl (congrArg Value.int hR.2.2.1.2.2.2.2.2.1) dX5_photo_9 ?_
  refine r_ic K (nI 1) dX5_photo_12 k_1 ?_
  refine r_sub K dX5_photo_13 ?_
  refine r_callS K h hl (c_X5_isWithin l g (nI i) (nI 0) (nI ph - nI 1)) mc_X5_isWithin st_X5_isWithin mlX5_47 [] (by decide +kernel) rfl rfl (_ :: _ :: _ :: _ :: _ :: _ :: _ :: _ :: _) rfl (by decide) (by decide) rfl rfl (Nat.le_of_ble_eq_true rfl) ⟨Nat.zero_le _, Nat.zero_le _⟩ dX5_photo_14 (fun H locs h => ?_)
  refine W.eq (g2 := F0 m 17 ls [_]) rfl ?_
  refine r_zeqB K 30 dX5_photo_17 (by decide) (fun c => absurd (((show inB (nI i) (nI 0) (nI ph - nI 1) = true by rw [pk_sub (by omega)]; exact inB_of (Nat.zero_le _) (by omega) (by omega))).symm.trans c) (by decide)) (fun _ => ?_)
  refine r_iln K hl 2 dX5_photo_20 rfl rfl ?_
  refine r_ic K (nI 0) dX5_photo_21 k_0 ?_
  refine r_bp K (nI 10) dX5_photo_22 kb_10 ?_
  refine r_callS K h hl (c_X5_isWithin l g (nI k) (nI 0) (nI 10)) mc_X5_isWithin st_X5_isWithin mlX5_47 [] (by decide +kernel) rfl rfl (_ :: _ :: _ :: _ :: _ :: _ :: _ :: _ :: _) rfl (by decide) (by decide) rfl rfl (Nat.le_of_ble_eq_true rfl) ⟨Nat.zero_le _, Nat.zero_le _⟩ dX5_photo_24 (fun H locs h => ?_)
  refine W.eq (g2 := F0 m 27 ls [_]) rfl ?_
  refine r_zneB K 32 dX5_photo_27 (by decide) (fun _ => ?_) (fun c => absurd (((inB_of (Nat.zero_le _) (by omega) (by omega))).symm.trans c) (by decide))
  refine r_aln K hl 0 dX5_photo_32 rfl rfl ?_
  refine r_get K h ffX5_10 0 rfl rfl dX5_photo_33 ?_
  refine r_get K h ffX5_132 8 rfl rfl dX5_photo_36 ?_
  refine r_iln K hl 1 dX5_photo_39 rfl rfl ?_
  refine r_iln K hl 2 dX5_photo_40 rfl rfl ?_
  refine r_callVW K h hl (wd0 0 (by omega) rfl (c_W_fact l g (wa 0) (V 0) i k (by omega) (by omega)) (lvB g b wa (pn) (pk) (sc) (fk) (sa) (sb) (sr) (rb))) mc_X1_fact vm_X1_fact mlX5_141 46 rfl rfl rfl rfl _ rfl (by decide) (by decide) rfl rfl (Nat.le_of_ble_eq_true rfl) ⟨Nat.zero_le _, Nat.zero_le _⟩ dX5_photo_41 (fun H locs h => ?_)
  refine W.eq (g2 := F0 m 44 ls [_]) rfl ?_
  exact hr.1 _ _ _ _ _ dX5_photo_44 h (congrArg (fun q => some (Value.int q)) ((by rw [hk]; exact (hR.2.2.2.2.2.1 i hi).2.symm)))

set_option maxHeartbeats 4000000 in
set_option maxRecDepth 100000 in
theorem c_X5_reads_bad (l : Launch) (g : GG) (b : Nat → Nat) (wa : Nat → Nat → Nat) (fk sa sb sr rb : Row) (V : Nat → Nat → Row) (pn pk sc : Int32) (x v : Int32) (hb : (inB x (nI 0) (nI 99) && inB v (nI 0) (nI 2)) = false) : Ct l g yX5_reads cX5_reads 3 (some .int) 7 [.ref (b 0), .int x, .int v] (lvB g b wa (pn) (pk) (sc) (fk) (sa) (sb) (sr) (rb) ++ WS g wa (V)) (some (.int (-1))) (lvB g b wa (pn) (pk) (sc) (fk) (sa) (sb) (sr) (rb) ++ WS g wa (V)) := by
  refine Ct.start (by decide +kernel) (Nat.le_of_ble_eq_true rfl) (by simp [Value.category]) (Or.inr ⟨.int, _, rfl, rfl, rfl⟩) ?_
  intro p0 e R s m args below meth c A Q K hr h ls hl
  have hl : Lq ls 3 [some (.ref (b 0)), some (.int x), some (.int v)] := hl
  refine r_iln K hl 1 dX5_reads_0 rfl rfl ?_
  refine r_ic K (nI 0) dX5_reads_1 k_0 ?_
  refine r_bp K (nI 99) dX5_reads_2 kb_99 ?_
  refine r_callS K h hl (c_X5_isWithin l g x (nI 0) (nI 99)) mc_X5_isWithin st_X5_isWithin mlX5_47 [] (by decide +kernel) rfl rfl (_ :: _ :: _ :: _ :: _ :: _ :: _ :: _ :: _) rfl (by decide) (by decide) rfl rfl (Nat.le_of_ble_eq_true rfl) ⟨Nat.zero_le _, Nat.zero_le _⟩ dX5_reads_4 (fun H locs h => ?_)
  refine W.eq (g2 := F0 m 7 ls [_]) rfl ?_
  refine r_zeqB K 19 dX5_reads_7 (by decide) (fun c7 => ?_) (fun c7 => ?_)
  · refine r_ic K (-1) dX5_reads_19 k_m1 ?_
    exact hr.1 _ _ _ _ _ dX5_reads_20 h rfl
  · refine r_iln K hl 2 dX5_reads_10 rfl rfl ?_
    refine r_ic K (nI 0) dX5_reads_11 k_0 ?_
    refine r_ic K (nI 2) dX5_reads_12 k_2 ?_
    refine r_callS K h hl (c_X5_isWithin l g v (nI 0) (nI 2)) mc_X5_isWithin st_X5_isWithin mlX5_47 [] (by decide +kernel) rfl rfl (_ :: _ :: _ :: _ :: _ :: _ :: _ :: _ :: _) rfl (by decide) (by decide) rfl rfl (Nat.le_of_ble_eq_true rfl) ⟨Nat.zero_le _, Nat.zero_le _⟩ dX5_reads_13 (fun H locs h => ?_)
    refine W.eq (g2 := F0 m 16 ls [_]) rfl ?_
    refine r_zneB K 21 dX5_reads_16 (by decide) (fun c => absurd (((show inB v (nI 0) (nI 2) = false by rw [c7, Bool.true_and] at hb; exact hb)).symm.trans c) (by decide)) (fun _ => ?_)
    refine r_ic K (-1) dX5_reads_19 k_m1 ?_
    exact hr.1 _ _ _ _ _ dX5_reads_20 h rfl

set_option maxHeartbeats 4000000 in
set_option maxRecDepth 100000 in
theorem c_X5_reads_ok (l : Launch) (g : GG) (b : Nat → Nat) (wa : Nat → Nat → Nat) (fk sa sb sr rb : Row) (V : Nat → Nat → Row) (f : Row) (n mv ph wr t : Nat) (hR : Rel (V 0) f n mv ph wr t) (pn pk sc : Int32) (x : Int32) (k : Nat) (hx0 : inB x (nI 0) (nI 99) = true) (hk : k ≤ 2) : Ct l g yX5_reads cX5_reads 3 (some .int) 7 [.ref (b 0), .int x, .int (nI k)] (lvB g b wa (pn) (pk) (sc) (fk) (sa) (sb) (sr) (rb) ++ WS g wa (V)) (some (.int (mRds f x ph k))) (lvB g b wa (pn) (pk) (sc) (fk) (sa) (sb) (sr) (rb) ++ WS g wa (V)) := by
  obtain ⟨hn2, hn, hm1, hm, hph, hwr⟩ := hR.1.1
  refine Ct.start (by decide +kernel) (Nat.le_of_ble_eq_true rfl) (by simp [Value.category]) (Or.inr ⟨.int, _, rfl, rfl, rfl⟩) ?_
  intro p0 e R s m args below meth c A Q K hr h ls hl
  have hl : Lq ls 3 [some (.ref (b 0)), some (.int x), some (.int (nI k))] := hl
  have h3 : ∀ i, i < ph → V 0 39 (i * 11 + 3) = f (200 + 10 * i + 3) := fun i hi => (hR.2.2.2.2.2.1 i hi).1 3 (by omega)
  refine r_iln K hl 1 dX5_reads_0 rfl rfl ?_
  refine r_ic K (nI 0) dX5_reads_1 k_0 ?_
  refine r_bp K (nI 99) dX5_reads_2 kb_99 ?_
  refine r_callS K h hl (c_X5_isWithin l g x (nI 0) (nI 99)) mc_X5_isWithin st_X5_isWithin mlX5_47 [] (by decide +kernel) rfl rfl (_ :: _ :: _ :: _ :: _ :: _ :: _ :: _ :: _) rfl (by decide) (by decide) rfl rfl (Nat.le_of_ble_eq_true rfl) ⟨Nat.zero_le _, Nat.zero_le _⟩ dX5_reads_4 (fun H locs h => ?_)
  refine W.eq (g2 := F0 m 7 ls [_]) rfl ?_
  refine r_zeqB K 19 dX5_reads_7 (by decide) (fun c => absurd ((hx0).symm.trans c) (by decide)) (fun _ => ?_)
  refine r_iln K hl 2 dX5_reads_10 rfl rfl ?_
  refine r_ic K (nI 0) dX5_reads_11 k_0 ?_
  refine r_ic K (nI 2) dX5_reads_12 k_2 ?_
  refine r_callS K h hl (c_X5_isWithin l g (nI k) (nI 0) (nI 2)) mc_X5_isWithin st_X5_isWithin mlX5_47 [] (by decide +kernel) rfl rfl (_ :: _ :: _ :: _ :: _ :: _ :: _ :: _ :: _) rfl (by decide) (by decide) rfl rfl (Nat.le_of_ble_eq_true rfl) ⟨Nat.zero_le _, Nat.zero_le _⟩ dX5_reads_13 (fun H locs h => ?_)
  refine W.eq (g2 := F0 m 16 ls [_]) rfl ?_
  refine r_zneB K 21 dX5_reads_16 (by decide) (fun _ => ?_) (fun c => absurd (((inB_of (Nat.zero_le _) hk (by omega))).symm.trans c) (by decide))
  refine r_iln K hl 2 dX5_reads_21 rfl rfl ?_
  rcases (by omega : k = 0 ∨ k = 1 ∨ k = 2) with rfl | rfl | rfl
  · refine r_lsw K 26 48 dX5_reads_22 (by decide) (by decide) (by decide) ?_
    refine r_aln K hl 0 dX5_reads_48 rfl rfl ?_
    refine r_get K h ffX5_10 0 rfl rfl dX5_reads_49 ?_
    refine r_get K h ffX5_132 8 rfl rfl dX5_reads_52 ?_
    refine r_ic K (nI 3) dX5_reads_55 k_3 ?_
    refine r_iln K hl 1 dX5_reads_56 rfl rfl ?_
    refine r_callVW K h hl (wd0 0 (by omega) rfl (c_W_countWith l g (wa 0) (V 0) ph 3 x hph (by omega) hR.2.2.1.2.2.2.2.2.1) (lvB g b wa (pn) (pk) (sc) (fk) (sa) (sb) (sr) (rb))) mc_X1_countWith vm_X1_countWith mlX5_150 46 rfl rfl rfl rfl _ rfl (by decide) (by decide) rfl rfl (Nat.le_of_ble_eq_true rfl) ⟨Nat.zero_le _, Nat.zero_le _⟩ dX5_reads_57 (fun H locs h => ?_)
    refine W.eq (g2 := F0 m 60 ls [_]) rfl ?_
    exact hr.1 _ _ _ _ _ dX5_reads_60 h (congrArg (fun q => some (Value.int q)) ((congrArg nI (cw_t ph h3)).symm))
  · refine r_lsw K 39 61 dX5_reads_22 (by decide) (by decide) (by decide) ?_
    refine r_aln K hl 0 dX5_reads_61 rfl rfl ?_
    refine r_get K h ffX5_10 0 rfl rfl dX5_reads_62 ?_
    refine r_get K h ffX5_132 8 rfl rfl dX5_reads_65 ?_
    refine r_iln K hl 1 dX5_reads_68 rfl rfl ?_
    refine r_callVW K h hl (wd0 0 (by omega) rfl (c_W_least l g (wa 0) (V 0) ph x hph hR.2.2.1.2.2.2.2.2.1) (lvB g b wa (pn) (pk) (sc) (fk) (sa) (sb) (sr) (rb))) mc_X1_leastReadsAbove vm_X1_leastReadsAbove mlX5_153 46 rfl rfl rfl rfl _ rfl (by decide) (by decide) rfl rfl (Nat.le_of_ble_eq_true rfl) ⟨Nat.zero_le _, Nat.zero_le _⟩ dX5_reads_69 (fun H locs h => ?_)
    refine W.eq (g2 := F0 m 72 ls [_]) rfl ?_
    exact hr.1 _ _ _ _ _ dX5_reads_72 h (congrArg (fun q => some (Value.int q)) ((la_t ph h3).symm))
  · refine r_lsw K 51 73 dX5_reads_22 (by decide) (by decide) (by decide) ?_
    refine r_aln K hl 0 dX5_reads_73 rfl rfl ?_
    refine r_get K h ffX5_10 0 rfl rfl dX5_reads_74 ?_
    refine r_get K h ffX5_132 8 rfl rfl dX5_reads_77 ?_
    refine r_iln K hl 1 dX5_reads_80 rfl rfl ?_
    refine r_callVW K h hl (wd0 0 (by omega) rfl (c_W_great l g (wa 0) (V 0) ph x hph hR.2.2.1.2.2.2.2.2.1) (lvB g b wa (pn) (pk) (sc) (fk) (sa) (sb) (sr) (rb))) mc_X1_greatestReadsBelow vm_X1_greatestReadsBelow mlX5_157 46 rfl rfl rfl rfl _ rfl (by decide) (by decide) rfl rfl (Nat.le_of_ble_eq_true rfl) ⟨Nat.zero_le _, Nat.zero_le _⟩ dX5_reads_81 (fun H locs h => ?_)
    refine W.eq (g2 := F0 m 84 ls [_]) rfl ?_
    exact hr.1 _ _ _ _ _ dX5_reads_84 h (congrArg (fun q => some (Value.int q)) ((gb_t ph h3 (fun i hi => by obtain ⟨_, _, r, _, _, _, _, a, b, _⟩ := hR.2.1.2.2.2.1 i hi; exact ⟨r, b, a⟩)).symm))

set_option maxHeartbeats 4000000 in
set_option maxRecDepth 100000 in
theorem c_X5_count_0 (l : Launch) (g : GG) (b : Nat → Nat) (wa : Nat → Nat → Nat) (fk sa sb sr rb : Row) (V : Nat → Nat → Row) (f : Row) (n mv ph wr t : Nat) (hR : Rel (V 0) f n mv ph wr t) (pn pk sc : Int32) : Ct l g yX5_count cX5_count 2 (some .int) 7 [.ref (b 0), .int (nI 0)] (lvB g b wa (pn) (pk) (sc) (fk) (sa) (sb) (sr) (rb) ++ WS g wa (V)) (some (.int (f 0))) (lvB g b wa (pn) (pk) (sc) (fk) (sa) (sb) (sr) (rb) ++ WS g wa (V)) := by
  obtain ⟨hn2, hn, hm1, hm, hph, hwr⟩ := hR.1.1
  refine Ct.start (by decide +kernel) (Nat.le_of_ble_eq_true rfl) (by simp [Value.category]) (Or.inr ⟨.int, _, rfl, rfl, rfl⟩) ?_
  intro p0 e R s m args below meth c A Q K hr h ls hl
  have hl : Lq ls 2 [some (.ref (b 0)), some (.int (nI 0))] := hl
  refine r_iln K hl 1 dX5_count_0 rfl rfl ?_
  refine r_tsI K 59 60 dX5_count_1 (by decide) (by decide) (by decide) (by decide) ?_
  refine r_aln K hl 0 dX5_count_60 rfl rfl ?_
  refine r_get K h ffX5_10 0 rfl rfl dX5_count_61 ?_
  refine r_get K h ffX5_147 8 rfl rfl dX5_count_64 ?_
  exact hr.1 _ _ _ _ _ dX5_count_67 h (congrArg (fun q => some (Value.int q)) (hR.1.2.1.trans hR.2.2.1.1.symm))

set_option maxHeartbeats 4000000 in
set_option maxRecDepth 100000 in
theorem c_X5_count_1 (l : Launch) (g : GG) (b : Nat → Nat) (wa : Nat → Nat → Nat) (fk sa sb sr rb : Row) (V : Nat → Nat → Row) (f : Row) (n mv ph wr t : Nat) (hR : Rel (V 0) f n mv ph wr t) (pn pk sc : Int32) : Ct l g yX5_count cX5_count 2 (some .int) 7 [.ref (b 0), .int (nI 1)] (lvB g b wa (pn) (pk) (sc) (fk) (sa) (sb) (sr) (rb) ++ WS g wa (V)) (some (.int (f 1))) (lvB g b wa (pn) (pk) (sc) (fk) (sa) (sb) (sr) (rb) ++ WS g wa (V)) := by
  obtain ⟨hn2, hn, hm1, hm, hph, hwr⟩ := hR.1.1
  refine Ct.start (by decide +kernel) (Nat.le_of_ble_eq_true rfl) (by simp [Value.category]) (Or.inr ⟨.int, _, rfl, rfl, rfl⟩) ?_
  intro p0 e R s m args below meth c A Q K hr h ls hl
  have hl : Lq ls 2 [some (.ref (b 0)), some (.int (nI 1))] := hl
  refine r_iln K hl 1 dX5_count_0 rfl rfl ?_
  refine r_tsI K 67 68 dX5_count_1 (by decide) (by decide) (by decide) (by decide) ?_
  refine r_aln K hl 0 dX5_count_68 rfl rfl ?_
  refine r_get K h ffX5_10 0 rfl rfl dX5_count_69 ?_
  refine r_get K h ffX5_181 8 rfl rfl dX5_count_72 ?_
  exact hr.1 _ _ _ _ _ dX5_count_75 h (congrArg (fun q => some (Value.int q)) (hR.1.2.2.1.trans hR.2.2.1.2.1.symm))

set_option maxHeartbeats 4000000 in
set_option maxRecDepth 100000 in
theorem c_X5_count_2 (l : Launch) (g : GG) (b : Nat → Nat) (wa : Nat → Nat → Nat) (fk sa sb sr rb : Row) (V : Nat → Nat → Row) (f : Row) (n mv ph wr t : Nat) (hR : Rel (V 0) f n mv ph wr t) (pn pk sc : Int32) : Ct l g yX5_count cX5_count 2 (some .int) 7 [.ref (b 0), .int (nI 2)] (lvB g b wa (pn) (pk) (sc) (fk) (sa) (sb) (sr) (rb) ++ WS g wa (V)) (some (.int (f 2))) (lvB g b wa (pn) (pk) (sc) (fk) (sa) (sb) (sr) (rb) ++ WS g wa (V)) := by
  obtain ⟨hn2, hn, hm1, hm, hph, hwr⟩ := hR.1.1
  refine Ct.start (by decide +kernel) (Nat.le_of_ble_eq_true rfl) (by simp [Value.category]) (Or.inr ⟨.int, _, rfl, rfl, rfl⟩) ?_
  intro p0 e R s m args below meth c A Q K hr h ls hl
  have hl : Lq ls 2 [some (.ref (b 0)), some (.int (nI 2))] := hl
  refine r_iln K hl 1 dX5_count_0 rfl rfl ?_
  refine r_tsI K 75 76 dX5_count_1 (by decide) (by decide) (by decide) (by decide) ?_
  refine r_aln K hl 0 dX5_count_76 rfl rfl ?_
  refine r_get K h ffX5_10 0 rfl rfl dX5_count_77 ?_
  refine r_get K h ffX5_184 8 rfl rfl dX5_count_80 ?_
  exact hr.1 _ _ _ _ _ dX5_count_83 h (congrArg (fun q => some (Value.int q)) (hR.2.2.1.2.2.1.symm))

set_option maxHeartbeats 4000000 in
set_option maxRecDepth 100000 in
theorem c_X5_count_3 (l : Launch) (g : GG) (b : Nat → Nat) (wa : Nat → Nat → Nat) (fk sa sb sr rb : Row) (V : Nat → Nat → Row) (f : Row) (n mv ph wr t : Nat) (hR : Rel (V 0) f n mv ph wr t) (pn pk sc : Int32) : Ct l g yX5_count cX5_count 2 (some .int) 7 [.ref (b 0), .int (nI 3)] (lvB g b wa (pn) (pk) (sc) (fk) (sa) (sb) (sr) (rb) ++ WS g wa (V)) (some (.int (f 3))) (lvB g b wa (pn) (pk) (sc) (fk) (sa) (sb) (sr) (rb) ++ WS g wa (V)) := by
  obtain ⟨hn2, hn, hm1, hm, hph, hwr⟩ := hR.1.1
  refine Ct.start (by decide +kernel) (Nat.le_of_ble_eq_true rfl) (by simp [Value.category]) (Or.inr ⟨.int, _, rfl, rfl, rfl⟩) ?_
  intro p0 e R s m args below meth c A Q K hr h ls hl
  have hl : Lq ls 2 [some (.ref (b 0)), some (.int (nI 3))] := hl
  refine r_iln K hl 1 dX5_count_0 rfl rfl ?_
  refine r_tsI K 83 84 dX5_count_1 (by decide) (by decide) (by decide) (by decide) ?_
  refine r_aln K hl 0 dX5_count_84 rfl rfl ?_
  refine r_get K h ffX5_10 0 rfl rfl dX5_count_85 ?_
  refine r_get K h ffX5_178 8 rfl rfl dX5_count_88 ?_
  exact hr.1 _ _ _ _ _ dX5_count_91 h (congrArg (fun q => some (Value.int q)) ((rel_tm hR).symm))

set_option maxHeartbeats 4000000 in
set_option maxRecDepth 100000 in
theorem c_X5_count_4 (l : Launch) (g : GG) (b : Nat → Nat) (wa : Nat → Nat → Nat) (fk sa sb sr rb : Row) (V : Nat → Nat → Row) (f : Row) (n mv ph wr t : Nat) (hR : Rel (V 0) f n mv ph wr t) (pn pk sc : Int32) : Ct l g yX5_count cX5_count 2 (some .int) 7 [.ref (b 0), .int (nI 4)] (lvB g b wa (pn) (pk) (sc) (fk) (sa) (sb) (sr) (rb) ++ WS g wa (V)) (some (.int (f 5))) (lvB g b wa (pn) (pk) (sc) (fk) (sa) (sb) (sr) (rb) ++ WS g wa (V)) := by
  obtain ⟨hn2, hn, hm1, hm, hph, hwr⟩ := hR.1.1
  refine Ct.start (by decide +kernel) (Nat.le_of_ble_eq_true rfl) (by simp [Value.category]) (Or.inr ⟨.int, _, rfl, rfl, rfl⟩) ?_
  intro p0 e R s m args below meth c A Q K hr h ls hl
  have hl : Lq ls 2 [some (.ref (b 0)), some (.int (nI 4))] := hl
  refine r_iln K hl 1 dX5_count_0 rfl rfl ?_
  refine r_tsI K 91 92 dX5_count_1 (by decide) (by decide) (by decide) (by decide) ?_
  refine r_aln K hl 0 dX5_count_92 rfl rfl ?_
  refine r_get K h ffX5_10 0 rfl rfl dX5_count_93 ?_
  refine r_get K h ffX5_132 8 rfl rfl dX5_count_96 ?_
  refine r_get K h ffX5_136 46 rfl rfl dX5_count_99 ?_
  exact hr.1 _ _ _ _ _ dX5_count_102 h (congrArg (fun q => some (Value.int q)) (hR.1.2.2.2.1.trans hR.2.2.1.2.2.2.2.2.1.symm))

set_option maxHeartbeats 4000000 in
set_option maxRecDepth 100000 in
theorem c_X5_count_5 (l : Launch) (g : GG) (b : Nat → Nat) (wa : Nat → Nat → Nat) (fk sa sb sr rb : Row) (V : Nat → Nat → Row) (f : Row) (n mv ph wr t : Nat) (hR : Rel (V 0) f n mv ph wr t) (pn pk sc : Int32) : Ct l g yX5_count cX5_count 2 (some .int) 7 [.ref (b 0), .int (nI 5)] (lvB g b wa (pn) (pk) (sc) (fk) (sa) (sb) (sr) (rb) ++ WS g wa (V)) (some (.int (nI (phL f ph)))) (lvB g b wa (pn) (pk) (sc) (fk) (sa) (sb) (sr) (rb) ++ WS g wa (V)) := by
  obtain ⟨hn2, hn, hm1, hm, hph, hwr⟩ := hR.1.1
  refine Ct.start (by decide +kernel) (Nat.le_of_ble_eq_true rfl) (by simp [Value.category]) (Or.inr ⟨.int, _, rfl, rfl, rfl⟩) ?_
  intro p0 e R s m args below meth c A Q K hr h ls hl
  have hl : Lq ls 2 [some (.ref (b 0)), some (.int (nI 5))] := hl
  have hcl := cl_t (fa := V 0 39) (f := f) ph (fun i hi => (hR.2.2.2.2.2.1 i hi).1 4 (by omega))
  refine r_iln K hl 1 dX5_count_0 rfl rfl ?_
  refine r_tsI K 102 103 dX5_count_1 (by decide) (by decide) (by decide) (by decide) ?_
  refine r_aln K hl 0 dX5_count_103 rfl rfl ?_
  refine r_get K h ffX5_10 0 rfl rfl dX5_count_104 ?_
  refine r_get K h ffX5_132 8 rfl rfl dX5_count_107 ?_
  refine r_getE K h ffX5_136 46 rfl rfl (congrArg Value.int hR.2.2.1.2.2.2.2.2.1) dX5_count_110 ?_
  refine r_aln K hl 0 dX5_count_113 rfl rfl ?_
  refine r_get K h ffX5_10 0 rfl rfl dX5_count_114 ?_
  refine r_get K h ffX5_132 8 rfl rfl dX5_count_117 ?_
  refine r_ic K (nI 4) dX5_count_120 k_4 ?_
  refine r_bp K (-9) dX5_count_121 kb_m9 ?_
  refine r_callVW K h hl (wd0 0 (by omega) rfl (c_W_countWith l g (wa 0) (V 0) ph 4 (-9) hph (by omega) hR.2.2.1.2.2.2.2.2.1) (lvB g b wa (pn) (pk) (sc) (fk) (sa) (sb) (sr) (rb))) mc_X1_countWith vm_X1_countWith mlX5_150 46 rfl rfl rfl rfl _ rfl (by decide) (by decide) rfl rfl (Nat.le_of_ble_eq_true rfl) ⟨Nat.zero_le _, Nat.zero_le _⟩ dX5_count_123 (fun H locs h => ?_)
  refine W.eq (g2 := F0 m 126 ls [_, _]) rfl ?_
  refine r_subN K (by omega) dX5_count_126 ?_
  exact hr.1 _ _ _ _ _ dX5_count_127 h (congrArg (fun q => some (Value.int q)) (congrArg nI (by omega)))

set_option maxHeartbeats 4000000 in
set_option maxRecDepth 100000 in
theorem c_X5_count_6 (l : Launch) (g : GG) (b : Nat → Nat) (wa : Nat → Nat → Nat) (fk sa sb sr rb : Row) (V : Nat → Nat → Row) (f : Row) (n mv ph wr t : Nat) (hR : Rel (V 0) f n mv ph wr t) (pn pk sc : Int32) : Ct l g yX5_count cX5_count 2 (some .int) 7 [.ref (b 0), .int (nI 6)] (lvB g b wa (pn) (pk) (sc) (fk) (sa) (sb) (sr) (rb) ++ WS g wa (V)) (some (.int (nI (phF f ph)))) (lvB g b wa (pn) (pk) (sc) (fk) (sa) (sb) (sr) (rb) ++ WS g wa (V)) := by
  obtain ⟨hn2, hn, hm1, hm, hph, hwr⟩ := hR.1.1
  refine Ct.start (by decide +kernel) (Nat.le_of_ble_eq_true rfl) (by simp [Value.category]) (Or.inr ⟨.int, _, rfl, rfl, rfl⟩) ?_
  intro p0 e R s m args below meth c A Q K hr h ls hl
  have hl : Lq ls 2 [some (.ref (b 0)), some (.int (nI 6))] := hl
  have hcf := cf_t (fa := V 0 39) (f := f) ph (fun i hi => (hR.2.2.2.2.2.1 i hi).2)
  refine r_iln K hl 1 dX5_count_0 rfl rfl ?_
  refine r_tsI K 127 128 dX5_count_1 (by decide) (by decide) (by decide) (by decide) ?_
  refine r_aln K hl 0 dX5_count_128 rfl rfl ?_
  refine r_get K h ffX5_10 0 rfl rfl dX5_count_129 ?_
  refine r_get K h ffX5_132 8 rfl rfl dX5_count_132 ?_
  refine r_bp K (nI 10) dX5_count_135 kb_10 ?_
  refine r_bp K (-9) dX5_count_137 kb_m9 ?_
  refine r_callVW K h hl (wd0 0 (by omega) rfl (c_W_countWith l g (wa 0) (V 0) ph 10 (-9) hph (by omega) hR.2.2.1.2.2.2.2.2.1) (lvB g b wa (pn) (pk) (sc) (fk) (sa) (sb) (sr) (rb))) mc_X1_countWith vm_X1_countWith mlX5_150 46 rfl rfl rfl rfl _ rfl (by decide) (by decide) rfl rfl (Nat.le_of_ble_eq_true rfl) ⟨Nat.zero_le _, Nat.zero_le _⟩ dX5_count_139 (fun H locs h => ?_)
  refine W.eq (g2 := F0 m 142 ls [_]) rfl ?_
  exact hr.1 _ _ _ _ _ dX5_count_142 h (congrArg (fun q => some (Value.int q)) ((congrArg nI hcf).symm))

set_option maxHeartbeats 4000000 in
set_option maxRecDepth 100000 in
theorem c_X5_count_7 (l : Launch) (g : GG) (b : Nat → Nat) (wa : Nat → Nat → Nat) (fk sa sb sr rb : Row) (V : Nat → Nat → Row) (f : Row) (n mv ph wr t : Nat) (hR : Rel (V 0) f n mv ph wr t) (pn pk sc : Int32) : Ct l g yX5_count cX5_count 2 (some .int) 7 [.ref (b 0), .int (nI 7)] (lvB g b wa (pn) (pk) (sc) (fk) (sa) (sb) (sr) (rb) ++ WS g wa (V)) (some (.int (nI (mskK (idB f) n)))) (lvB g b wa (pn) (pk) (sc) (fk) (sa) (sb) (sr) (rb) ++ WS g wa (V)) := by
  obtain ⟨hn2, hn, hm1, hm, hph, hwr⟩ := hR.1.1
  refine Ct.start (by decide +kernel) (Nat.le_of_ble_eq_true rfl) (by simp [Value.category]) (Or.inr ⟨.int, _, rfl, rfl, rfl⟩) ?_
  intro p0 e R s m args below meth c A Q K hr h ls hl
  have hl : Lq ls 2 [some (.ref (b 0)), some (.int (nI 7))] := hl
  have hms : mskK (idV (V 0)) n = mskK (idB f) n := msk_eq n (fun j hj => by unfold idV idB; rw [show j + 1 - 1 = j by omega]; exact rel_id hR (by omega))
  refine r_iln K hl 1 dX5_count_0 rfl rfl ?_
  refine r_tsI K 142 143 dX5_count_1 (by decide) (by decide) (by decide) (by decide) ?_
  refine r_aln K hl 0 dX5_count_143 rfl rfl ?_
  refine r_get K h ffX5_10 0 rfl rfl dX5_count_144 ?_
  refine r_callVW K h hl (wd0 0 (by omega) rfl (c_X4_idleBits l g (wa 0) (V 0) n hn hR.2.2.1.1) (lvB g b wa (pn) (pk) (sc) (fk) (sa) (sb) (sr) (rb))) mc_X4_idleBits vm_X4_idleBits mlX5_187 8 rfl rfl rfl rfl _ rfl (by decide) (by decide) rfl rfl (Nat.le_of_ble_eq_true rfl) ⟨Nat.zero_le _, Nat.zero_le _⟩ dX5_count_147 (fun H locs h => ?_)
  refine W.eq (g2 := F0 m 150 ls [_]) rfl ?_
  exact hr.1 _ _ _ _ _ dX5_count_150 h (congrArg (fun q => some (Value.int q)) ((congrArg nI hms).symm))

set_option maxHeartbeats 4000000 in
set_option maxRecDepth 100000 in
theorem c_X5_count_8 (l : Launch) (g : GG) (b : Nat → Nat) (wa : Nat → Nat → Nat) (fk sa sb sr rb : Row) (V : Nat → Nat → Row) (f : Row) (n mv ph wr t : Nat) (hR : Rel (V 0) f n mv ph wr t) (pn pk sc : Int32) : Ct l g yX5_count cX5_count 2 (some .int) 7 [.ref (b 0), .int (nI 8)] (lvB g b wa (pn) (pk) (sc) (fk) (sa) (sb) (sr) (rb) ++ WS g wa (V)) (some (.int (f 4))) (lvB g b wa (pn) (pk) (sc) (fk) (sa) (sb) (sr) (rb) ++ WS g wa (V)) := by
  obtain ⟨hn2, hn, hm1, hm, hph, hwr⟩ := hR.1.1
  refine Ct.start (by decide +kernel) (Nat.le_of_ble_eq_true rfl) (by simp [Value.category]) (Or.inr ⟨.int, _, rfl, rfl, rfl⟩) ?_
  intro p0 e R s m args below meth c A Q K hr h ls hl
  have hl : Lq ls 2 [some (.ref (b 0)), some (.int (nI 8))] := hl
  refine r_iln K hl 1 dX5_count_0 rfl rfl ?_
  refine r_tsI K 150 151 dX5_count_1 (by decide) (by decide) (by decide) (by decide) ?_
  refine r_aln K hl 0 dX5_count_151 rfl rfl ?_
  refine r_get K h ffX5_10 0 rfl rfl dX5_count_152 ?_
  refine r_get K h ffX5_190 8 rfl rfl dX5_count_155 ?_
  exact hr.1 _ _ _ _ _ dX5_count_158 h (congrArg (fun q => some (Value.int q)) (hR.2.2.1.2.2.2.2.1.symm))

set_option maxHeartbeats 4000000 in
set_option maxRecDepth 100000 in
theorem c_X5_count_9 (l : Launch) (g : GG) (b : Nat → Nat) (wa : Nat → Nat → Nat) (fk sa sb sr rb : Row) (V : Nat → Nat → Row) (f : Row) (n mv ph wr t : Nat) (hR : Rel (V 0) f n mv ph wr t) (pn pk sc : Int32) : Ct l g yX5_count cX5_count 2 (some .int) 7 [.ref (b 0), .int (nI 9)] (lvB g b wa (pn) (pk) (sc) (fk) (sa) (sb) (sr) (rb) ++ WS g wa (V)) (some (.int (sc))) (lvB g b wa (pn) (pk) (sc) (fk) (sa) (sb) (sr) (rb) ++ WS g wa (V)) := by
  obtain ⟨hn2, hn, hm1, hm, hph, hwr⟩ := hR.1.1
  refine Ct.start (by decide +kernel) (Nat.le_of_ble_eq_true rfl) (by simp [Value.category]) (Or.inr ⟨.int, _, rfl, rfl, rfl⟩) ?_
  intro p0 e R s m args below meth c A Q K hr h ls hl
  have hl : Lq ls 2 [some (.ref (b 0)), some (.int (nI 9))] := hl
  refine r_iln K hl 1 dX5_count_0 rfl rfl ?_
  refine r_tsI K 158 159 dX5_count_1 (by decide) (by decide) (by decide) (by decide) ?_
  refine r_aln K hl 0 dX5_count_159 rfl rfl ?_
  refine r_get K h ffX5_58 0 rfl rfl dX5_count_160 ?_
  exact hr.1 _ _ _ _ _ dX5_count_163 h (congrArg (fun q => some (Value.int q)) (rfl))

set_option maxHeartbeats 4000000 in
set_option maxRecDepth 100000 in
theorem c_X5_count_10 (l : Launch) (g : GG) (b : Nat → Nat) (wa : Nat → Nat → Nat) (fk sa sb sr rb : Row) (V : Nat → Nat → Row) (f : Row) (n mv ph wr t : Nat) (hR : Rel (V 0) f n mv ph wr t) (pn pk sc : Int32) : Ct l g yX5_count cX5_count 2 (some .int) 7 [.ref (b 0), .int (nI 10)] (lvB g b wa (pn) (pk) (sc) (fk) (sa) (sb) (sr) (rb) ++ WS g wa (V)) (some (.int (pk))) (lvB g b wa (pn) (pk) (sc) (fk) (sa) (sb) (sr) (rb) ++ WS g wa (V)) := by
  obtain ⟨hn2, hn, hm1, hm, hph, hwr⟩ := hR.1.1
  refine Ct.start (by decide +kernel) (Nat.le_of_ble_eq_true rfl) (by simp [Value.category]) (Or.inr ⟨.int, _, rfl, rfl, rfl⟩) ?_
  intro p0 e R s m args below meth c A Q K hr h ls hl
  have hl : Lq ls 2 [some (.ref (b 0)), some (.int (nI 10))] := hl
  refine r_iln K hl 1 dX5_count_0 rfl rfl ?_
  refine r_tsI K 163 164 dX5_count_1 (by decide) (by decide) (by decide) (by decide) ?_
  refine r_aln K hl 0 dX5_count_164 rfl rfl ?_
  refine r_get K h ffX5_76 0 rfl rfl dX5_count_165 ?_
  exact hr.1 _ _ _ _ _ dX5_count_168 h (congrArg (fun q => some (Value.int q)) (rfl))

theorem cnt_bad3 {x : Int32} (hb : inB x (nI 0) (nI 10) = false) : x.toInt < 0 ∨ 10 < x.toInt := by
  have h := of_decide_eq_false hb
  by_cases h1 : x.toInt < 0
  · exact Or.inl h1
  · by_cases h2 : 10 < x.toInt
    · exact Or.inr h2
    · refine absurd ⟨?_, ?_⟩ h
      · rw [Int32.le_iff_toInt_le]; have : (nI 0).toInt = 0 := by decide
        omega
      · rw [Int32.le_iff_toInt_le]; have : (nI 10).toInt = 10 := by decide
        omega
set_option maxHeartbeats 4000000 in
set_option maxRecDepth 100000 in
theorem c_X5_count_bad (l : Launch) (g : GG) (b : Nat → Nat) (wa : Nat → Nat → Nat) (fk sa sb sr rb : Row) (V : Nat → Nat → Row) (pn pk sc : Int32) (x : Int32) (hb : inB x (nI 0) (nI 10) = false) : Ct l g yX5_count cX5_count 2 (some .int) 7 [.ref (b 0), .int x] (lvB g b wa (pn) (pk) (sc) (fk) (sa) (sb) (sr) (rb) ++ WS g wa (V)) (some (.int (-1))) (lvB g b wa (pn) (pk) (sc) (fk) (sa) (sb) (sr) (rb) ++ WS g wa (V)) := by
  refine Ct.start (by decide +kernel) (Nat.le_of_ble_eq_true rfl) (by simp [Value.category]) (Or.inr ⟨.int, _, rfl, rfl, rfl⟩) ?_
  intro p0 e R s m args below meth c A Q K hr h ls hl
  have hl : Lq ls 2 [some (.ref (b 0)), some (.int x)] := hl
  refine r_iln K hl 1 dX5_count_0 rfl rfl ?_
  refine r_tsO K 169 dX5_count_1 (cnt_bad3 hb) (by decide) ?_
  refine r_ic K (-1) dX5_count_169 k_m1 ?_
  exact hr.1 _ _ _ _ _ dX5_count_170 h rfl

set_option maxHeartbeats 4000000 in
set_option maxRecDepth 100000 in
theorem c_X5_lone_bad (l : Launch) (g : GG) (b : Nat → Nat) (wa : Nat → Nat → Nat) (fk sa sb sr rb : Row) (V : Nat → Nat → Row) (f : Row) (n mv ph wr t : Nat) (hR : Rel (V 0) f n mv ph wr t) (pn pk sc : Int32) (x : Int32) (hb : inB x (nI 0) (nI (n - 1)) = false) : Ct l g yX5_lone cX5_lone 2 (some .int) 7 [.ref (b 0), .int x] (lvB g b wa (pn) (pk) (sc) (fk) (sa) (sb) (sr) (rb) ++ WS g wa (V)) (some (.int (-1))) (lvB g b wa (pn) (pk) (sc) (fk) (sa) (sb) (sr) (rb) ++ WS g wa (V)) := by
  obtain ⟨hn2, hn, hm1, hm, hph, hwr⟩ := hR.1.1
  refine Ct.start (by decide +kernel) (Nat.le_of_ble_eq_true rfl) (by simp [Value.category]) (Or.inr ⟨.int, _, rfl, rfl, rfl⟩) ?_
  intro p0 e R s m args below meth c A Q K hr h ls hl
  have hl : Lq ls 2 [some (.ref (b 0)), some (.int x)] := hl
  refine r_aln K hl 0 dX5_lone_0 rfl rfl ?_
  refine r_get K h ffX5_10 0 rfl rfl dX5_lone_1 ?_
  refine r_iln K hl 1 dX5_lone_4 rfl rfl ?_
  refine r_callVW K h hl (wd0 0 (by omega) rfl (c_X4_has l g (wa 0) (V 0) x n (by omega) (by omega) hR.2.2.1.1) (lvB g b wa (pn) (pk) (sc) (fk) (sa) (sb) (sr) (rb))) mc_X4_has vm_X4_has mlX5_62 8 rfl rfl rfl rfl _ rfl (by decide) (by decide) rfl rfl (Nat.le_of_ble_eq_true rfl) ⟨Nat.zero_le _, Nat.zero_le _⟩ dX5_lone_5 (fun H locs h => ?_)
  refine W.eq (g2 := F0 m 8 ls [_]) rfl ?_
  refine r_zneB K 13 dX5_lone_8 (by decide) (fun c => absurd ((hb).symm.trans c) (by decide)) (fun _ => ?_)
  refine r_ic K (-1) dX5_lone_11 k_m1 ?_
  exact hr.1 _ _ _ _ _ dX5_lone_12 h rfl

set_option maxHeartbeats 4000000 in
set_option maxRecDepth 100000 in
theorem c_X5_lone_ok (l : Launch) (g : GG) (b : Nat → Nat) (wa : Nat → Nat → Nat) (fk sa sb sr rb : Row) (V : Nat → Nat → Row) (f : Row) (n mv ph wr t : Nat) (hR : Rel (V 0) f n mv ph wr t) (pn pk sc : Int32) (p : Nat) (hp : p < n) (ht : t < 800000) : CtE l g yX5_lone cX5_lone 2 (some .int) 7 [.ref (b 0), .int (nI p)] (lvB g b wa (pn) (pk) (sc) (fk) (sa) (sb) (sr) (rb) ++ WS g wa (V)) (some (.int (nI (stC f p 1000)))) (fun u : Nat → Row => (lvB g b wa (pn) (pk) (sc) (fk) (sa) (sb) (sr) (rb) ++ WS g wa (setV V 1 u))) := by
  obtain ⟨hn2, hn, hm1, hm, hph, hwr⟩ := hR.1.1
  refine CtE.start (by decide +kernel) (Nat.le_of_ble_eq_true rfl) (by simp [Value.category]) (Or.inr ⟨.int, _, rfl, rfl, rfl⟩) ?_
  intro p0 e R s m args below meth c A Q K hr h ls hl
  have hl : Lq ls 2 [some (.ref (b 0)), some (.int (nI p))] := hl
  refine r_aln K hl 0 dX5_lone_0 rfl rfl ?_
  refine r_get K h ffX5_10 0 rfl rfl dX5_lone_1 ?_
  refine r_iln K hl 1 dX5_lone_4 rfl rfl ?_
  refine r_callVW K h hl (wd0 0 (by omega) rfl (c_X4_has l g (wa 0) (V 0) (nI p) n (by omega) (by omega) hR.2.2.1.1) (lvB g b wa (pn) (pk) (sc) (fk) (sa) (sb) (sr) (rb))) mc_X4_has vm_X4_has mlX5_62 8 rfl rfl rfl rfl _ rfl (by decide) (by decide) rfl rfl (Nat.le_of_ble_eq_true rfl) ⟨Nat.zero_le _, Nat.zero_le _⟩ dX5_lone_5 (fun H locs h => ?_)
  refine W.eq (g2 := F0 m 8 ls [_]) rfl ?_
  refine r_zneB K 13 dX5_lone_8 (by decide) (fun _ => ?_) (fun c => absurd (((inB_of (Nat.zero_le _) (by omega) (by omega))).symm.trans c) (by decide))
  refine r_aln K hl 0 dX5_lone_13 rfl rfl ?_
  refine r_get K h ffX5_16 0 rfl rfl dX5_lone_14 ?_
  refine r_aln K hl 0 dX5_lone_17 rfl rfl ?_
  refine r_get K h ffX5_10 0 rfl rfl dX5_lone_18 ?_
  refine r_callVW K h hl (wd2 1 0 (by omega) (by omega) (by omega) rfl rfl (c_X4_copyFrom l g (wa (1)) (wa (0)) (V 1) (V 0) ph wr hph hwr hR.2.2.1.2.2.2.2.2.1 hR.2.2.1.2.2.2.2.2.2 hR.hz) (lvB g b wa (pn) (pk) (sc) (fk) (sa) (sb) (sr) (rb))) mc_X4_copyFrom vm_X4_copyFrom mlX5_82 53 rfl rfl rfl (lv_fst rfl) _ rfl (by decide) (by decide) rfl rfl (Nat.le_of_ble_eq_true rfl) ⟨Nat.zero_le _, Nat.zero_le _⟩ dX5_lone_21 (fun H locs h => ?_)
  refine W.eq (g2 := F0 m 24 ls []) rfl ?_
  refine r_aln K hl 0 dX5_lone_24 rfl rfl ?_
  refine r_get K h ffX5_16 0 rfl rfl dX5_lone_25 ?_
  refine r_iln K hl 1 dX5_lone_28 rfl rfl ?_
  refine r_sp K (nI 1000) dX5_lone_29 ks_1000 ?_
  refine r_callVWE K h hl (wd1E 1 (by omega) setV_eq (c_X4_stepUpTo l g (wa 1) (cCop (V 1) (V 0) ph wr) f n mv ph wr t p 1000 (rel_cop hR) (by omega) hp) (lvB g b wa (pn) (pk) (sc) (fk) (sa) (sb) (sr) (rb))) mc_X4_stepUpTo vm_X4_stepUpTo mlX5_72 53 rfl rfl rfl (fun _ => lv_fst rfl) (by decide) (by decide) rfl rfl (Nat.le_of_ble_eq_true rfl) ⟨Nat.zero_le _, Nat.zero_le _⟩ dX5_lone_32 (fun u H locs h => ?_)
  refine W.eq (g2 := F0 m 35 ls [_]) rfl ?_
  exact hr.1 u.1 _ _ _ _ _ dX5_lone_35 (h.to (by rw [setV_setV])) rfl

