set_option maxHeartbeats 4000000 in
set_option maxRecDepth 100000 in
theorem c_X6_begins_bad (l : Launch) (g : GG) (a : Nat → Nat) (th um sm : Int32) (f fw fp fi fk fs ft : Row) (x y z : Int32) (hb : begB x y z = false) : Ct l g yX6_begins cX6_begins 4 (some .int) 1 [.ref (a 0), .int x, .int y, .int z] (mW g a (th) (um) (sm) (f) (fw) (fp) (fi) (fk) (fs) (ft)) (some (.int (-1))) (mW g a (nI 0) (um) (sm) (f) (fw) (fp) (fi) (fk) (fs) (ft)) := by
  refine Ct.start (by decide +kernel) (Nat.le_of_ble_eq_true rfl) (by simp [Value.category]) (Or.inr ⟨.int, _, rfl, rfl, rfl⟩) ?_
  intro p0 e R s m args below meth c A Q K hr h ls hl
  have hl : Lq ls 4 [some (.ref (a 0)), some (.int x), some (.int y), some (.int z)] := hl
  refine r_aln K hl 0 dX6_begins_0 rfl rfl ?_
  refine r_ic K (nI 0) dX6_begins_1 k_0 ?_
  refine r_put K h ffX6_36 pfX6_0 0 [_, _, _, _, _, _, _, _, _, _] [_, _, _, _, _, _, _, _] rfl rfl rfl (Nat.le_of_ble_eq_true rfl) rfl rfl dX6_begins_2 (fun H locs h => ?_)
  refine r_iln K hl 1 dX6_begins_5 rfl rfl ?_
  refine r_ic K (nI 2) dX6_begins_6 k_2 ?_
  refine r_ic K (nI 4) dX6_begins_7 k_4 ?_
  refine r_callS K h hl (c_X6_in l g x (nI 2) (nI 4)) mc_X6_in st_X6_in mlX6_69 [] rfl rfl rfl [_, _, _, _, _, _, _, _] rfl (by decide) (by decide) rfl rfl (Nat.le_of_ble_eq_true rfl) ⟨Nat.zero_le _, Nat.zero_le _⟩ dX6_begins_8 (fun H locs h => ?_)
  refine W.eq (g2 := F0 m 11 ls [_]) rfl ?_
  refine r_zeqB K 37 dX6_begins_11 (by decide) (fun c11 => ?_) (fun c11 => ?_)
  · refine r_ic K (-1) dX6_begins_37 k_m1 ?_
    exact hr.1 _ _ _ _ _ dX6_begins_38 h rfl
  · refine r_iln K hl 2 dX6_begins_14 rfl rfl ?_
    refine r_ic K (nI 1) dX6_begins_15 k_1 ?_
    refine r_ic K (nI 4) dX6_begins_16 k_4 ?_
    refine r_callS K h hl (c_X6_in l g y (nI 1) (nI 4)) mc_X6_in st_X6_in mlX6_69 [] rfl rfl rfl [_, _, _, _, _, _, _, _] rfl (by decide) (by decide) rfl rfl (Nat.le_of_ble_eq_true rfl) ⟨Nat.zero_le _, Nat.zero_le _⟩ dX6_begins_17 (fun H locs h => ?_)
    refine W.eq (g2 := F0 m 20 ls [_]) rfl ?_
    refine r_zeqB K 37 dX6_begins_20 (by decide) (fun c20 => ?_) (fun c20 => ?_)
    · refine r_ic K (-1) dX6_begins_37 k_m1 ?_
      exact hr.1 _ _ _ _ _ dX6_begins_38 h rfl
    · refine r_iln K hl 3 dX6_begins_23 rfl rfl ?_
      refine r_zeq K 39 dX6_begins_24 (by decide) (fun c24 => ?_) (fun c24 => ?_)
      · exact absurd hb (by unfold begB; rw [c11, c20, decide_eq_true c24, Bool.true_or]; decide)
      · refine r_iln K hl 3 dX6_begins_27 rfl rfl ?_
        refine r_ic K (nI 2) dX6_begins_28 k_2 ?_
        refine r_bp K (nI 8) dX6_begins_29 kb_8 ?_
        refine r_callS K h hl (c_X6_in l g z (nI 2) (nI 8)) mc_X6_in st_X6_in mlX6_69 [] rfl rfl rfl [_, _, _, _, _, _, _, _] rfl (by decide) (by decide) rfl rfl (Nat.le_of_ble_eq_true rfl) ⟨Nat.zero_le _, Nat.zero_le _⟩ dX6_begins_31 (fun H locs h => ?_)
        refine W.eq (g2 := F0 m 34 ls [_]) rfl ?_
        refine r_zneB K 39 dX6_begins_34 (by decide) (fun c34 => ?_) (fun c34 => ?_)
        · exact absurd hb (by unfold begB; rw [c11, c20, c34, Bool.or_true]; decide)
        · refine r_ic K (-1) dX6_begins_37 k_m1 ?_
          exact hr.1 _ _ _ _ _ dX6_begins_38 h rfl

set_option maxHeartbeats 4000000 in
set_option maxRecDepth 100000 in
theorem c_X6_begins_ok (l : Launch) (g : GG) (a : Nat → Nat) (th sm : Int32) (u : Nat) (f fw fp fi fk fs ft : Row) (x y z : Int32) (hu : u ≤ 5) (hb : begB x y z = true) : Ct l g yX6_begins cX6_begins 4 (some .int) 1 [.ref (a 0), .int x, .int y, .int z] (mW g a (th) (nI u) (sm) (f) (fw) (fp) (fi) (fk) (fs) (ft)) (some (.int x)) (mW g a (nI 0) (nI (nU u)) (nI 0) (mBares x y z) (fw) (nP u f fp) (fi) (upd (upd fk 0 (nI 0)) 1 (nI 0)) (fs) (ft)) := by
  refine Ct.start (by decide +kernel) (Nat.le_of_ble_eq_true rfl) (by simp [Value.category]) (Or.inr ⟨.int, _, rfl, rfl, rfl⟩) ?_
  intro p0 e R s m args below meth c A Q K hr h ls hl
  have hl : Lq ls 4 [some (.ref (a 0)), some (.int x), some (.int y), some (.int z)] := hl
  have hb1 := hb
  unfold begB at hb1
  rw [Bool.and_eq_true, Bool.and_eq_true, Bool.or_eq_true] at hb1
  obtain ⟨b1, b2, b3⟩ := hb1
  refine r_aln K hl 0 dX6_begins_0 rfl rfl ?_
  refine r_ic K (nI 0) dX6_begins_1 k_0 ?_
  refine r_put K h ffX6_36 pfX6_0 0 [_, _, _, _, _, _, _, _, _, _] [_, _, _, _, _, _, _, _] rfl rfl rfl (Nat.le_of_ble_eq_true rfl) rfl rfl dX6_begins_2 (fun H locs h => ?_)
  refine r_iln K hl 1 dX6_begins_5 rfl rfl ?_
  refine r_ic K (nI 2) dX6_begins_6 k_2 ?_
  refine r_ic K (nI 4) dX6_begins_7 k_4 ?_
  refine r_callS K h hl (c_X6_in l g x (nI 2) (nI 4)) mc_X6_in st_X6_in mlX6_69 [] rfl rfl rfl [_, _, _, _, _, _, _, _] rfl (by decide) (by decide) rfl rfl (Nat.le_of_ble_eq_true rfl) ⟨Nat.zero_le _, Nat.zero_le _⟩ dX6_begins_8 (fun H locs h => ?_)
  refine W.eq (g2 := F0 m 11 ls [_]) rfl ?_
  refine r_zeqB K 37 dX6_begins_11 (by decide) (fun c => absurd ((b1).symm.trans c) (by decide)) (fun _ => ?_)
  refine r_iln K hl 2 dX6_begins_14 rfl rfl ?_
  refine r_ic K (nI 1) dX6_begins_15 k_1 ?_
  refine r_ic K (nI 4) dX6_begins_16 k_4 ?_
  refine r_callS K h hl (c_X6_in l g y (nI 1) (nI 4)) mc_X6_in st_X6_in mlX6_69 [] rfl rfl rfl [_, _, _, _, _, _, _, _] rfl (by decide) (by decide) rfl rfl (Nat.le_of_ble_eq_true rfl) ⟨Nat.zero_le _, Nat.zero_le _⟩ dX6_begins_17 (fun H locs h => ?_)
  refine W.eq (g2 := F0 m 20 ls [_]) rfl ?_
  refine r_zeqB K 37 dX6_begins_20 (by decide) (fun c => absurd ((b2).symm.trans c) (by decide)) (fun _ => ?_)
  refine r_iln K hl 3 dX6_begins_23 rfl rfl ?_
  refine r_zeq K 39 dX6_begins_24 (by decide) (fun c24 => ?_) (fun c24 => ?_)
  · refine r_aln K hl 0 dX6_begins_39 rfl rfl ?_
    refine r_callV K h hl (c_X6_notes l g a _ sm f fp u hu) mc_X6_notes vm_X6_notes mlX6_73 0 rfl rfl rfl [0, 1, 3] rfl rfl rfl [_, _, _, _, _, _, _, _] rfl (by decide) (by decide) rfl rfl (Nat.le_of_ble_eq_true rfl) ⟨Nat.zero_le _, Nat.zero_le _⟩ dX6_begins_40 (fun H locs h => ?_)
    refine W.eq (g2 := F0 m 43 ls []) rfl ?_
    refine r_aln K hl 0 dX6_begins_43 rfl rfl ?_
    refine r_get K h ffX6_7 0 rfl rfl dX6_begins_44 ?_
    refine r_iln K hl 1 dX6_begins_47 rfl rfl ?_
    refine r_iln K hl 2 dX6_begins_48 rfl rfl ?_
    refine r_iln K hl 3 dX6_begins_49 rfl rfl ?_
    refine r_callS K h hl (c_X6_bares l g (a 1) f x y z) mc_X6_bares st_X6_bares mlX6_32 [1] rfl rfl rfl [_, _, _, _, _, _, _, _] rfl (by decide) (by decide) rfl rfl (Nat.le_of_ble_eq_true rfl) ⟨Nat.zero_le _, Nat.zero_le _⟩ dX6_begins_50 (fun H locs h => ?_)
    refine W.eq (g2 := F0 m 53 ls []) rfl ?_
    refine r_aln K hl 0 dX6_begins_53 rfl rfl ?_
    refine r_ic K (nI 0) dX6_begins_54 k_0 ?_
    refine r_put K h ffX6_76 pfX6_8 0 [_, _, _, _, _, _, _, _, _, _] [_, _, _, _, _, _, _, _] rfl rfl rfl (Nat.le_of_ble_eq_true rfl) rfl rfl dX6_begins_55 (fun H locs h => ?_)
    refine r_aln K hl 0 dX6_begins_58 rfl rfl ?_
    refine r_get K h ffX6_22 0 rfl rfl dX6_begins_59 ?_
    refine r_ic K (nI 0) dX6_begins_62 k_0 ?_
    refine r_ic K (nI 0) dX6_begins_63 k_0 ?_
    refine r_zas K h 5 [_, _, _, _, _, _, _, _] rfl (by omega) (by decide) (by decide) rfl dX6_begins_64 (fun H locs h => ?_)
    refine r_aln K hl 0 dX6_begins_65 rfl rfl ?_
    refine r_get K h ffX6_22 0 rfl rfl dX6_begins_66 ?_
    refine r_ic K (nI 1) dX6_begins_69 k_1 ?_
    refine r_ic K (nI 0) dX6_begins_70 k_0 ?_
    refine r_zas K h 5 [_, _, _, _, _, _, _, _] rfl (by omega) (by decide) (by decide) rfl dX6_begins_71 (fun H locs h => ?_)
    refine r_iln K hl 1 dX6_begins_72 rfl rfl ?_
    exact hr.1 _ _ _ _ _ dX6_begins_73 h rfl
  · refine r_iln K hl 3 dX6_begins_27 rfl rfl ?_
    refine r_ic K (nI 2) dX6_begins_28 k_2 ?_
    refine r_bp K (nI 8) dX6_begins_29 kb_8 ?_
    refine r_callS K h hl (c_X6_in l g z (nI 2) (nI 8)) mc_X6_in st_X6_in mlX6_69 [] rfl rfl rfl [_, _, _, _, _, _, _, _] rfl (by decide) (by decide) rfl rfl (Nat.le_of_ble_eq_true rfl) ⟨Nat.zero_le _, Nat.zero_le _⟩ dX6_begins_31 (fun H locs h => ?_)
    refine W.eq (g2 := F0 m 34 ls [_]) rfl ?_
    refine r_zneB K 39 dX6_begins_34 (by decide) (fun _ => ?_) (fun c => absurd ((b3.resolve_left (fun q => c24 (of_decide_eq_true q))).symm.trans c) (by decide))
    refine r_aln K hl 0 dX6_begins_39 rfl rfl ?_
    refine r_callV K h hl (c_X6_notes l g a _ sm f fp u hu) mc_X6_notes vm_X6_notes mlX6_73 0 rfl rfl rfl [0, 1, 3] rfl rfl rfl [_, _, _, _, _, _, _, _] rfl (by decide) (by decide) rfl rfl (Nat.le_of_ble_eq_true rfl) ⟨Nat.zero_le _, Nat.zero_le _⟩ dX6_begins_40 (fun H locs h => ?_)
    refine W.eq (g2 := F0 m 43 ls []) rfl ?_
    refine r_aln K hl 0 dX6_begins_43 rfl rfl ?_
    refine r_get K h ffX6_7 0 rfl rfl dX6_begins_44 ?_
    refine r_iln K hl 1 dX6_begins_47 rfl rfl ?_
    refine r_iln K hl 2 dX6_begins_48 rfl rfl ?_
    refine r_iln K hl 3 dX6_begins_49 rfl rfl ?_
    refine r_callS K h hl (c_X6_bares l g (a 1) f x y z) mc_X6_bares st_X6_bares mlX6_32 [1] rfl rfl rfl [_, _, _, _, _, _, _, _] rfl (by decide) (by decide) rfl rfl (Nat.le_of_ble_eq_true rfl) ⟨Nat.zero_le _, Nat.zero_le _⟩ dX6_begins_50 (fun H locs h => ?_)
    refine W.eq (g2 := F0 m 53 ls []) rfl ?_
    refine r_aln K hl 0 dX6_begins_53 rfl rfl ?_
    refine r_ic K (nI 0) dX6_begins_54 k_0 ?_
    refine r_put K h ffX6_76 pfX6_8 0 [_, _, _, _, _, _, _, _, _, _] [_, _, _, _, _, _, _, _] rfl rfl rfl (Nat.le_of_ble_eq_true rfl) rfl rfl dX6_begins_55 (fun H locs h => ?_)
    refine r_aln K hl 0 dX6_begins_58 rfl rfl ?_
    refine r_get K h ffX6_22 0 rfl rfl dX6_begins_59 ?_
    refine r_ic K (nI 0) dX6_begins_62 k_0 ?_
    refine r_ic K (nI 0) dX6_begins_63 k_0 ?_
    refine r_zas K h 5 [_, _, _, _, _, _, _, _] rfl (by omega) (by decide) (by decide) rfl dX6_begins_64 (fun H locs h => ?_)
    refine r_aln K hl 0 dX6_begins_65 rfl rfl ?_
    refine r_get K h ffX6_22 0 rfl rfl dX6_begins_66 ?_
    refine r_ic K (nI 1) dX6_begins_69 k_1 ?_
    refine r_ic K (nI 0) dX6_begins_70 k_0 ?_
    refine r_zas K h 5 [_, _, _, _, _, _, _, _] rfl (by omega) (by decide) (by decide) rfl dX6_begins_71 (fun H locs h => ?_)
    refine r_iln K hl 1 dX6_begins_72 rfl rfl ?_
    exact hr.1 _ _ _ _ _ dX6_begins_73 h rfl

set_option maxHeartbeats 4000000 in
set_option maxRecDepth 100000 in
theorem c_X6_begun_state (l : Launch) (g : GG) (a : Nat → Nat) (th um sm : Int32) (f fw fp fi fk fs ft : Row) (p : Nat) (act v : Int32) (hp : p < 4) (ha : ¬ f (32 + 42 * p + 0) = 0) : Ct l g yX6_begun cX6_begun 4 (some .int) 2 [.ref (a 0), .int (nI p), .int act, .int v] (mW g a (th) (um) (sm) (f) (fw) (fp) (fi) (fk) (fs) (ft)) (some (.int (-2))) (mW g a (th) (um) (sm) (f) (fw) (fp) (fi) (fk) (fs) (ft)) := by
  refine Ct.start (by decide +kernel) (Nat.le_of_ble_eq_true rfl) (by simp [Value.category]) (Or.inr ⟨.int, _, rfl, rfl, rfl⟩) ?_
  intro p0 e R s m args below meth c A Q K hr h ls hl
  have hl : Lq ls 4 [some (.ref (a 0)), some (.int (nI p)), some (.int act), some (.int v)] := hl
  refine r_aln K hl 0 dX6_begun_0 rfl rfl ?_
  refine r_iln K hl 1 dX6_begun_1 rfl rfl ?_
  refine r_callV K h hl (c_X6_isIdle l g a _ _ _ f p (by omega)) mc_X6_isIdle vm_X6_isIdle mlX6_79 0 rfl rfl rfl [0, 1] rfl rfl rfl [_, _, _, _, _, _, _, _] rfl (by decide) (by decide) rfl rfl (Nat.le_of_ble_eq_true rfl) ⟨Nat.zero_le _, Nat.zero_le _⟩ dX6_begun_2 (fun H locs h => ?_)
  refine W.eq (g2 := F0 m 5 ls [_]) rfl ?_
  refine r_zneB K 11 dX6_begun_5 (by decide) (fun c => absurd ((decide_eq_false ha).symm.trans c) (by decide)) (fun _ => ?_)
  refine r_bp K (-2) dX6_begun_8 kb_m2 ?_
  exact hr.1 _ _ _ _ _ dX6_begun_10 h rfl

set_option maxHeartbeats 4000000 in
set_option maxRecDepth 100000 in
theorem c_X6_begun_full (l : Launch) (g : GG) (a : Nat → Nat) (th um sm : Int32) (f fw fp fi fk fs ft : Row) (p : Nat) (act v : Int32) (hp : p < 4) (ha : f (32 + 42 * p + 0) = 0) (h4 : f 4 = nI 24) : Ct l g yX6_begun cX6_begun 4 (some .int) 2 [.ref (a 0), .int (nI p), .int act, .int v] (mW g a (th) (um) (sm) (f) (fw) (fp) (fi) (fk) (fs) (ft)) (some (.int (-3))) (mW g a (th) (um) (sm) (f) (fw) (fp) (fi) (fk) (fs) (ft)) := by
  refine Ct.start (by decide +kernel) (Nat.le_of_ble_eq_true rfl) (by simp [Value.category]) (Or.inr ⟨.int, _, rfl, rfl, rfl⟩) ?_
  intro p0 e R s m args below meth c A Q K hr h ls hl
  have hl : Lq ls 4 [some (.ref (a 0)), some (.int (nI p)), some (.int act), some (.int v)] := hl
  refine r_aln K hl 0 dX6_begun_0 rfl rfl ?_
  refine r_iln K hl 1 dX6_begun_1 rfl rfl ?_
  refine r_callV K h hl (c_X6_isIdle l g a _ _ _ f p (by omega)) mc_X6_isIdle vm_X6_isIdle mlX6_79 0 rfl rfl rfl [0, 1] rfl rfl rfl [_, _, _, _, _, _, _, _] rfl (by decide) (by decide) rfl rfl (Nat.le_of_ble_eq_true rfl) ⟨Nat.zero_le _, Nat.zero_le _⟩ dX6_begun_2 (fun H locs h => ?_)
  refine W.eq (g2 := F0 m 5 ls [_]) rfl ?_
  refine r_zneB K 11 dX6_begun_5 (by decide) (fun _ => ?_) (fun c => absurd ((decide_eq_true ha).symm.trans c) (by decide))
  refine r_aln K hl 0 dX6_begun_11 rfl rfl ?_
  refine r_get K h ffX6_7 0 rfl rfl dX6_begun_12 ?_
  refine r_ic K (nI 4) dX6_begun_15 k_4 ?_
  refine r_ialE K h 1 rfl (by omega) (by decide) h4 dX6_begun_16 ?_
  refine r_bp K (nI 24) dX6_begun_17 kb_24 ?_
  refine r_cneN K 25 dX6_begun_19 (by decide) (by omega) (by omega) (fun c => absurd rfl c) (fun c19 => ?_)
  refine r_bp K (-3) dX6_begun_22 kb_m3 ?_
  exact hr.1 _ _ _ _ _ dX6_begun_24 h rfl

set_option maxHeartbeats 4000000 in
set_option maxRecDepth 100000 in
theorem c_X6_begun_ok (l : Launch) (g : GG) (a : Nat → Nat) (th sm : Int32) (u : Nat) (f fw fp fi fk fs ft : Row) (p : Nat) (act v : Int32) (hu : u ≤ 5) (hp : p < 4) (ha : f (32 + 42 * p + 0) = 0) (h4 : ¬ f 4 = nI 24) : Ct l g yX6_begun cX6_begun 4 (some .int) 3 [.ref (a 0), .int (nI p), .int act, .int v] (mW g a (th) (nI u) (sm) (f) (fw) (fp) (fi) (fk) (fs) (ft)) (some (.int (f 3))) (mW g a (th) (nI (nU u)) (sm) (mActs f p act v) (fw) (nP u f fp) (fi) (fk) (fs) (ft)) := by
  refine Ct.start (by decide +kernel) (Nat.le_of_ble_eq_true rfl) (by simp [Value.category]) (Or.inr ⟨.int, _, rfl, rfl, rfl⟩) ?_
  intro p0 e R s m args below meth c A Q K hr h ls hl
  have hl : Lq ls 4 [some (.ref (a 0)), some (.int (nI p)), some (.int act), some (.int v)] := hl
  refine r_aln K hl 0 dX6_begun_0 rfl rfl ?_
  refine r_iln K hl 1 dX6_begun_1 rfl rfl ?_
  refine r_callV K h hl (c_X6_isIdle l g a _ _ _ f p (by omega)) mc_X6_isIdle vm_X6_isIdle mlX6_79 0 rfl rfl rfl [0, 1] rfl rfl rfl [_, _, _, _, _, _, _, _] rfl (by decide) (by decide) rfl rfl (Nat.le_of_ble_eq_true rfl) ⟨Nat.zero_le _, Nat.zero_le _⟩ dX6_begun_2 (fun H locs h => ?_)
  refine W.eq (g2 := F0 m 5 ls [_]) rfl ?_
  refine r_zneB K 11 dX6_begun_5 (by decide) (fun _ => ?_) (fun c => absurd ((decide_eq_true ha).symm.trans c) (by decide))
  refine r_aln K hl 0 dX6_begun_11 rfl rfl ?_
  refine r_get K h ffX6_7 0 rfl rfl dX6_begun_12 ?_
  refine r_ic K (nI 4) dX6_begun_15 k_4 ?_
  refine r_ial K h 1 rfl (by omega) (by decide) dX6_begun_16 ?_
  refine r_bp K (nI 24) dX6_begun_17 kb_24 ?_
  refine r_cne K 25 dX6_begun_19 (by decide) (fun c19 => ?_) (fun c => absurd c h4)
  refine r_aln K hl 0 dX6_begun_25 rfl rfl ?_
  refine r_callV K h hl (c_X6_notes l g a _ sm f fp u hu) mc_X6_notes vm_X6_notes mlX6_73 0 rfl rfl rfl [0, 1, 3] rfl rfl rfl [_, _, _, _, _, _, _, _] rfl (by decide) (by decide) rfl rfl (Nat.le_of_ble_eq_true rfl) ⟨Nat.zero_le _, Nat.zero_le _⟩ dX6_begun_26 (fun H locs h => ?_)
  refine W.eq (g2 := F0 m 29 ls []) rfl ?_
  refine r_aln K hl 0 dX6_begun_29 rfl rfl ?_
  refine r_get K h ffX6_7 0 rfl rfl dX6_begun_30 ?_
  refine r_iln K hl 1 dX6_begun_33 rfl rfl ?_
  refine r_iln K hl 2 dX6_begun_34 rfl rfl ?_
  refine r_iln K hl 3 dX6_begun_35 rfl rfl ?_
  refine r_callS K h hl (c_X6_acts l g (a 1) f p act v hp) mc_X6_acts st_X6_acts mlX6_83 [1] rfl rfl rfl [_, _, _, _, _, _, _, _] rfl (by decide) (by decide) rfl rfl (Nat.le_of_ble_eq_true rfl) ⟨Nat.zero_le _, Nat.zero_le _⟩ dX6_begun_36 (fun H locs h => ?_)
  refine W.eq (g2 := F0 m 39 ls []) rfl ?_
  refine r_aln K hl 0 dX6_begun_39 rfl rfl ?_
  refine r_get K h ffX6_7 0 rfl rfl dX6_begun_40 ?_
  refine r_ic K (nI 3) dX6_begun_43 k_3 ?_
  refine r_ialE K h 1 rfl (by omega) (by decide) (show mActs f p act v 3 = f 3 by dsimp only [mActs]; rw [upd_ne (by omega), upd_ne (by omega), upd_ne (by omega), upd_ne (by omega), idl_o (by omega)]) dX6_begun_44 ?_
  exact hr.1 _ _ _ _ _ dX6_begun_45 h rfl

set_option maxHeartbeats 4000000 in
set_option maxRecDepth 100000 in
theorem c_X6_scans_state (l : Launch) (g : GG) (a : Nat → Nat) (th um sm : Int32) (f fw fp fi fk fs ft : Row) (n : Nat) (hn1 : 1 ≤ n) (hn : n ≤ 4) (h0 : f 0 = nI n) (p : Nat) (hp : p < n) (ha : ¬ f (32 + 42 * p + 0) = 0) : Ct l g yX6_scans cX6_scans 2 (some .int) 3 [.ref (a 0), .int (nI p)] (mW g a (th) (um) (sm) (f) (fw) (fp) (fi) (fk) (fs) (ft)) (some (.int (-2))) (mW g a (nI 0) (um) (sm) (f) (fw) (fp) (fi) (fk) (fs) (ft)) := by
  refine Ct.start (by decide +kernel) (Nat.le_of_ble_eq_true rfl) (by simp [Value.category]) (Or.inr ⟨.int, _, rfl, rfl, rfl⟩) ?_
  intro p0 e R s m args below meth c A Q K hr h ls hl
  have hl : Lq ls 2 [some (.ref (a 0)), some (.int (nI p))] := hl
  refine r_aln K hl 0 dX6_scans_0 rfl rfl ?_
  refine r_ic K (nI 0) dX6_scans_1 k_0 ?_
  refine r_put K h ffX6_36 pfX6_0 0 [_, _, _, _, _, _, _, _, _, _] [_, _, _, _, _, _, _, _] rfl rfl rfl (Nat.le_of_ble_eq_true rfl) rfl rfl dX6_scans_2 (fun H locs h => ?_)
  refine r_aln K hl 0 dX6_scans_5 rfl rfl ?_
  refine r_iln K hl 1 dX6_scans_6 rfl rfl ?_
  refine r_callV K h hl (c_X6_isWriter l g a _ _ _ f n (nI p) hn1 h0) mc_X6_isWriter vm_X6_isWriter mlX6_86 0 rfl rfl rfl [0, 1] rfl rfl rfl [_, _, _, _, _, _, _, _] rfl (by decide) (by decide) rfl rfl (Nat.le_of_ble_eq_true rfl) ⟨Nat.zero_le _, Nat.zero_le _⟩ dX6_scans_7 (fun H locs h => ?_)
  refine W.eq (g2 := F0 m 10 ls [_]) rfl ?_
  refine r_zeqB K 23 dX6_scans_10 (by decide) (fun c => absurd (((inB_of (Nat.zero_le p) (by omega) (by omega))).symm.trans c) (by decide)) (fun _ => ?_)
  refine r_aln K hl 0 dX6_scans_13 rfl rfl ?_
  refine r_iln K hl 1 dX6_scans_14 rfl rfl ?_
  refine r_ic K (nI 1) dX6_scans_15 k_1 ?_
  refine r_ic K (nI 0) dX6_scans_16 k_0 ?_
  refine r_callV K h hl (c_X6_begun_state l g a _ um sm f fw fp fi fk fs ft p (nI 1) (nI 0) (by omega) ha) mc_X6_begun vm_X6_begun mlX6_89 0 rfl rfl rfl [0, 1, 2, 3, 4, 5, 6, 7] rfl rfl rfl [_, _, _, _, _, _, _, _] rfl (by decide) (by decide) rfl rfl (Nat.le_of_ble_eq_true rfl) ⟨Nat.zero_le _, Nat.zero_le _⟩ dX6_scans_17 (fun H locs h => ?_)
  refine W.eq (g2 := F0 m 20 ls [_]) rfl ?_
  refine r_go K 24 dX6_scans_20 (by decide) ?_
  exact hr.1 _ _ _ _ _ dX6_scans_24 h rfl

set_option maxHeartbeats 4000000 in
set_option maxRecDepth 100000 in
theorem c_X6_scans_full (l : Launch) (g : GG) (a : Nat → Nat) (th um sm : Int32) (f fw fp fi fk fs ft : Row) (n : Nat) (hn1 : 1 ≤ n) (hn : n ≤ 4) (h0 : f 0 = nI n) (p : Nat) (hp : p < n) (ha : f (32 + 42 * p + 0) = 0) (h4 : f 4 = nI 24) : Ct l g yX6_scans cX6_scans 2 (some .int) 3 [.ref (a 0), .int (nI p)] (mW g a (th) (um) (sm) (f) (fw) (fp) (fi) (fk) (fs) (ft)) (some (.int (-3))) (mW g a (nI 0) (um) (sm) (f) (fw) (fp) (fi) (fk) (fs) (ft)) := by
  refine Ct.start (by decide +kernel) (Nat.le_of_ble_eq_true rfl) (by simp [Value.category]) (Or.inr ⟨.int, _, rfl, rfl, rfl⟩) ?_
  intro p0 e R s m args below meth c A Q K hr h ls hl
  have hl : Lq ls 2 [some (.ref (a 0)), some (.int (nI p))] := hl
  refine r_aln K hl 0 dX6_scans_0 rfl rfl ?_
  refine r_ic K (nI 0) dX6_scans_1 k_0 ?_
  refine r_put K h ffX6_36 pfX6_0 0 [_, _, _, _, _, _, _, _, _, _] [_, _, _, _, _, _, _, _] rfl rfl rfl (Nat.le_of_ble_eq_true rfl) rfl rfl dX6_scans_2 (fun H locs h => ?_)
  refine r_aln K hl 0 dX6_scans_5 rfl rfl ?_
  refine r_iln K hl 1 dX6_scans_6 rfl rfl ?_
  refine r_callV K h hl (c_X6_isWriter l g a _ _ _ f n (nI p) hn1 h0) mc_X6_isWriter vm_X6_isWriter mlX6_86 0 rfl rfl rfl [0, 1] rfl rfl rfl [_, _, _, _, _, _, _, _] rfl (by decide) (by decide) rfl rfl (Nat.le_of_ble_eq_true rfl) ⟨Nat.zero_le _, Nat.zero_le _⟩ dX6_scans_7 (fun H locs h => ?_)
  refine W.eq (g2 := F0 m 10 ls [_]) rfl ?_
  refine r_zeqB K 23 dX6_scans_10 (by decide) (fun c => absurd (((inB_of (Nat.zero_le p) (by omega) (by omega))).symm.trans c) (by decide)) (fun _ => ?_)
  refine r_aln K hl 0 dX6_scans_13 rfl rfl ?_
  refine r_iln K hl 1 dX6_scans_14 rfl rfl ?_
  refine r_ic K (nI 1) dX6_scans_15 k_1 ?_
  refine r_ic K (nI 0) dX6_scans_16 k_0 ?_
  refine r_callV K h hl (c_X6_begun_full l g a _ um sm f fw fp fi fk fs ft p (nI 1) (nI 0) (by omega) ha h4) mc_X6_begun vm_X6_begun mlX6_89 0 rfl rfl rfl [0, 1, 2, 3, 4, 5, 6, 7] rfl rfl rfl [_, _, _, _, _, _, _, _] rfl (by decide) (by decide) rfl rfl (Nat.le_of_ble_eq_true rfl) ⟨Nat.zero_le _, Nat.zero_le _⟩ dX6_scans_17 (fun H locs h => ?_)
  refine W.eq (g2 := F0 m 20 ls [_]) rfl ?_
  refine r_go K 24 dX6_scans_20 (by decide) ?_
  exact hr.1 _ _ _ _ _ dX6_scans_24 h rfl

set_option maxHeartbeats 4000000 in
set_option maxRecDepth 100000 in
theorem c_X6_scans_ok (l : Launch) (g : GG) (a : Nat → Nat) (th sm : Int32) (u : Nat) (f fw fp fi fk fs ft : Row) (n : Nat) (hn1 : 1 ≤ n) (hn : n ≤ 4) (h0 : f 0 = nI n) (p : Nat) (hp : p < n) (hu : u ≤ 5) (ha : f (32 + 42 * p + 0) = 0) (h4 : ¬ f 4 = nI 24) : Ct l g yX6_scans cX6_scans 2 (some .int) 4 [.ref (a 0), .int (nI p)] (mW g a (th) (nI u) (sm) (f) (fw) (fp) (fi) (fk) (fs) (ft)) (some (.int (f 3))) (mW g a (nI 0) (nI (nU u)) (sm) (mActs f p (nI 1) (nI 0)) (fw) (nP u f fp) (fi) (fk) (fs) (ft)) := by
  refine Ct.start (by decide +kernel) (Nat.le_of_ble_eq_true rfl) (by simp [Value.category]) (Or.inr ⟨.int, _, rfl, rfl, rfl⟩) ?_
  intro p0 e R s m args below meth c A Q K hr h ls hl
  have hl : Lq ls 2 [some (.ref (a 0)), some (.int (nI p))] := hl
  refine r_aln K hl 0 dX6_scans_0 rfl rfl ?_
  refine r_ic K (nI 0) dX6_scans_1 k_0 ?_
  refine r_put K h ffX6_36 pfX6_0 0 [_, _, _, _, _, _, _, _, _, _] [_, _, _, _, _, _, _, _] rfl rfl rfl (Nat.le_of_ble_eq_true rfl) rfl rfl dX6_scans_2 (fun H locs h => ?_)
  refine r_aln K hl 0 dX6_scans_5 rfl rfl ?_
  refine r_iln K hl 1 dX6_scans_6 rfl rfl ?_
  refine r_callV K h hl (c_X6_isWriter l g a _ _ _ f n (nI p) hn1 h0) mc_X6_isWriter vm_X6_isWriter mlX6_86 0 rfl rfl rfl [0, 1] rfl rfl rfl [_, _, _, _, _, _, _, _] rfl (by decide) (by decide) rfl rfl (Nat.le_of_ble_eq_true rfl) ⟨Nat.zero_le _, Nat.zero_le _⟩ dX6_scans_7 (fun H locs h => ?_)
  refine W.eq (g2 := F0 m 10 ls [_]) rfl ?_
  refine r_zeqB K 23 dX6_scans_10 (by decide) (fun c => absurd (((inB_of (Nat.zero_le p) (by omega) (by omega))).symm.trans c) (by decide)) (fun _ => ?_)
  refine r_aln K hl 0 dX6_scans_13 rfl rfl ?_
  refine r_iln K hl 1 dX6_scans_14 rfl rfl ?_
  refine r_ic K (nI 1) dX6_scans_15 k_1 ?_
  refine r_ic K (nI 0) dX6_scans_16 k_0 ?_
  refine r_callV K h hl (c_X6_begun_ok l g a _ sm u f fw fp fi fk fs ft p (nI 1) (nI 0) hu (by omega) ha h4) mc_X6_begun vm_X6_begun mlX6_89 0 rfl rfl rfl [0, 1, 2, 3, 4, 5, 6, 7] rfl rfl rfl [_, _, _, _, _, _, _, _] rfl (by decide) (by decide) rfl rfl (Nat.le_of_ble_eq_true rfl) ⟨Nat.zero_le _, Nat.zero_le _⟩ dX6_scans_17 (fun H locs h => ?_)
  refine W.eq (g2 := F0 m 20 ls [_]) rfl ?_
  refine r_go K 24 dX6_scans_20 (by decide) ?_
  exact hr.1 _ _ _ _ _ dX6_scans_24 h rfl

set_option maxHeartbeats 4000000 in
set_option maxRecDepth 100000 in
theorem c_X6_writes_state (l : Launch) (g : GG) (a : Nat → Nat) (th um sm : Int32) (f fw fp fi fk fs ft : Row) (n : Nat) (hn1 : 1 ≤ n) (hn : n ≤ 4) (h0 : f 0 = nI n) (p : Nat) (v : Int32) (hp : p < n) (hv : inB v (nI 0) (nI 99) = true) (ha : ¬ f (32 + 42 * p + 0) = 0) : Ct l g yX6_writes cX6_writes 3 (some .int) 3 [.ref (a 0), .int (nI p), .int v] (mW g a (th) (um) (sm) (f) (fw) (fp) (fi) (fk) (fs) (ft)) (some (.int (-2))) (mW g a (nI 0) (um) (sm) (f) (fw) (fp) (fi) (fk) (fs) (ft)) := by
  refine Ct.start (by decide +kernel) (Nat.le_of_ble_eq_true rfl) (by simp [Value.category]) (Or.inr ⟨.int, _, rfl, rfl, rfl⟩) ?_
  intro p0 e R s m args below meth c A Q K hr h ls hl
  have hl : Lq ls 3 [some (.ref (a 0)), some (.int (nI p)), some (.int v)] := hl
  refine r_aln K hl 0 dX6_writes_0 rfl rfl ?_
  refine r_ic K (nI 0) dX6_writes_1 k_0 ?_
  refine r_put K h ffX6_36 pfX6_0 0 [_, _, _, _, _, _, _, _, _, _] [_, _, _, _, _, _, _, _] rfl rfl rfl (Nat.le_of_ble_eq_true rfl) rfl rfl dX6_writes_2 (fun H locs h => ?_)
  refine r_aln K hl 0 dX6_writes_5 rfl rfl ?_
  refine r_iln K hl 1 dX6_writes_6 rfl rfl ?_
  refine r_callV K h hl (c_X6_isWriter l g a _ _ _ f n (nI p) hn1 h0) mc_X6_isWriter vm_X6_isWriter mlX6_86 0 rfl rfl rfl [0, 1] rfl rfl rfl [_, _, _, _, _, _, _, _] rfl (by decide) (by decide) rfl rfl (Nat.le_of_ble_eq_true rfl) ⟨Nat.zero_le _, Nat.zero_le _⟩ dX6_writes_7 (fun H locs h => ?_)
  refine W.eq (g2 := F0 m 10 ls [_]) rfl ?_
  refine r_zeqB K 33 dX6_writes_10 (by decide) (fun c => absurd (((inB_of (Nat.zero_le p) (by omega) (by omega))).symm.trans c) (by decide)) (fun _ => ?_)
  refine r_iln K hl 2 dX6_writes_13 rfl rfl ?_
  refine r_ic K (nI 0) dX6_writes_14 k_0 ?_
  refine r_bp K (nI 99) dX6_writes_15 kb_99 ?_
  refine r_callS K h hl (c_X6_in l g v (nI 0) (nI 99)) mc_X6_in st_X6_in mlX6_69 [] rfl rfl rfl [_, _, _, _, _, _, _, _] rfl (by decide) (by decide) rfl rfl (Nat.le_of_ble_eq_true rfl) ⟨Nat.zero_le _, Nat.zero_le _⟩ dX6_writes_17 (fun H locs h => ?_)
  refine W.eq (g2 := F0 m 20 ls [_]) rfl ?_
  refine r_zeqB K 33 dX6_writes_20 (by decide) (fun c => absurd ((hv).symm.trans c) (by decide)) (fun _ => ?_)
  refine r_aln K hl 0 dX6_writes_23 rfl rfl ?_
  refine r_iln K hl 1 dX6_writes_24 rfl rfl ?_
  refine r_ic K (nI 2) dX6_writes_25 k_2 ?_
  refine r_iln K hl 2 dX6_writes_26 rfl rfl ?_
  refine r_callV K h hl (c_X6_begun_state l g a _ um sm f fw fp fi fk fs ft p (nI 2) v (by omega) ha) mc_X6_begun vm_X6_begun mlX6_89 0 rfl rfl rfl [0, 1, 2, 3, 4, 5, 6, 7] rfl rfl rfl [_, _, _, _, _, _, _, _] rfl (by decide) (by decide) rfl rfl (Nat.le_of_ble_eq_true rfl) ⟨Nat.zero_le _, Nat.zero_le _⟩ dX6_writes_27 (fun H locs h => ?_)
  refine W.eq (g2 := F0 m 30 ls [_]) rfl ?_
  refine r_go K 34 dX6_writes_30 (by decide) ?_
  exact hr.1 _ _ _ _ _ dX6_writes_34 h rfl

set_option maxHeartbeats 4000000 in
set_option maxRecDepth 100000 in
theorem c_X6_writes_full (l : Launch) (g : GG) (a : Nat → Nat) (th um sm : Int32) (f fw fp fi fk fs ft : Row) (n : Nat) (hn1 : 1 ≤ n) (hn : n ≤ 4) (h0 : f 0 = nI n) (p : Nat) (v : Int32) (hp : p < n) (hv : inB v (nI 0) (nI 99) = true) (ha : f (32 + 42 * p + 0) = 0) (h4 : f 4 = nI 24) : Ct l g yX6_writes cX6_writes 3 (some .int) 3 [.ref (a 0), .int (nI p), .int v] (mW g a (th) (um) (sm) (f) (fw) (fp) (fi) (fk) (fs) (ft)) (some (.int (-3))) (mW g a (nI 0) (um) (sm) (f) (fw) (fp) (fi) (fk) (fs) (ft)) := by
  refine Ct.start (by decide +kernel) (Nat.le_of_ble_eq_true rfl) (by simp [Value.category]) (Or.inr ⟨.int, _, rfl, rfl, rfl⟩) ?_
  intro p0 e R s m args below meth c A Q K hr h ls hl
  have hl : Lq ls 3 [some (.ref (a 0)), some (.int (nI p)), some (.int v)] := hl
  refine r_aln K hl 0 dX6_writes_0 rfl rfl ?_
  refine r_ic K (nI 0) dX6_writes_1 k_0 ?_
  refine r_put K h ffX6_36 pfX6_0 0 [_, _, _, _, _, _, _, _, _, _] [_, _, _, _, _, _, _, _] rfl rfl rfl (Nat.le_of_ble_eq_true rfl) rfl rfl dX6_writes_2 (fun H locs h => ?_)
  refine r_aln K hl 0 dX6_writes_5 rfl rfl ?_
  refine r_iln K hl 1 dX6_writes_6 rfl rfl ?_
  refine r_callV K h hl (c_X6_isWriter l g a _ _ _ f n (nI p) hn1 h0) mc_X6_isWriter vm_X6_isWriter mlX6_86 0 rfl rfl rfl [0, 1] rfl rfl rfl [_, _, _, _, _, _, _, _] rfl (by decide) (by decide) rfl rfl (Nat.le_of_ble_eq_true rfl) ⟨Nat.zero_le _, Nat.zero_le _⟩ dX6_writes_7 (fun H locs h => ?_)
  refine W.eq (g2 := F0 m 10 ls [_]) rfl ?_
  refine r_zeqB K 33 dX6_writes_10 (by decide) (fun c => absurd (((inB_of (Nat.zero_le p) (by omega) (by omega))).symm.trans c) (by decide)) (fun _ => ?_)
  refine r_iln K hl 2 dX6_writes_13 rfl rfl ?_
  refine r_ic K (nI 0) dX6_writes_14 k_0 ?_
  refine r_bp K (nI 99) dX6_writes_15 kb_99 ?_
  refine r_callS K h hl (c_X6_in l g v (nI 0) (nI 99)) mc_X6_in st_X6_in mlX6_69 [] rfl rfl rfl [_, _, _, _, _, _, _, _] rfl (by decide) (by decide) rfl rfl (Nat.le_of_ble_eq_true rfl) ⟨Nat.zero_le _, Nat.zero_le _⟩ dX6_writes_17 (fun H locs h => ?_)
  refine W.eq (g2 := F0 m 20 ls [_]) rfl ?_
  refine r_zeqB K 33 dX6_writes_20 (by decide) (fun c => absurd ((hv).symm.trans c) (by decide)) (fun _ => ?_)
  refine r_aln K hl 0 dX6_writes_23 rfl rfl ?_
  refine r_iln K hl 1 dX6_writes_24 rfl rfl ?_
  refine r_ic K (nI 2) dX6_writes_25 k_2 ?_
  refine r_iln K hl 2 dX6_writes_26 rfl rfl ?_
  refine r_callV K h hl (c_X6_begun_full l g a _ um sm f fw fp fi fk fs ft p (nI 2) v (by omega) ha h4) mc_X6_begun vm_X6_begun mlX6_89 0 rfl rfl rfl [0, 1, 2, 3, 4, 5, 6, 7] rfl rfl rfl [_, _, _, _, _, _, _, _] rfl (by decide) (by decide) rfl rfl (Nat.le_of_ble_eq_true rfl) ⟨Nat.zero_le _, Nat.zero_le _⟩ dX6_writes_27 (fun H locs h => ?_)
  refine W.eq (g2 := F0 m 30 ls [_]) rfl ?_
  refine r_go K 34 dX6_writes_30 (by decide) ?_
  exact hr.1 _ _ _ _ _ dX6_writes_34 h rfl

set_option maxHeartbeats 4000000 in
set_option maxRecDepth 100000 in
theorem c_X6_writes_ok (l : Launch) (g : GG) (a : Nat → Nat) (th sm : Int32) (u : Nat) (f fw fp fi fk fs ft : Row) (n : Nat) (hn1 : 1 ≤ n) (hn : n ≤ 4) (h0 : f 0 = nI n) (p : Nat) (v : Int32) (hp : p < n) (hv : inB v (nI 0) (nI 99) = true) (hu : u ≤ 5) (ha : f (32 + 42 * p + 0) = 0) (h4 : ¬ f 4 = nI 24) : Ct l g yX6_writes cX6_writes 3 (some .int) 4 [.ref (a 0), .int (nI p), .int v] (mW g a (th) (nI u) (sm) (f) (fw) (fp) (fi) (fk) (fs) (ft)) (some (.int (f 3))) (mW g a (nI 0) (nI (nU u)) (sm) (mActs f p (nI 2) v) (fw) (nP u f fp) (fi) (fk) (fs) (ft)) := by
  refine Ct.start (by decide +kernel) (Nat.le_of_ble_eq_true rfl) (by simp [Value.category]) (Or.inr ⟨.int, _, rfl, rfl, rfl⟩) ?_
  intro p0 e R s m args below meth c A Q K hr h ls hl
  have hl : Lq ls 3 [some (.ref (a 0)), some (.int (nI p)), some (.int v)] := hl
  refine r_aln K hl 0 dX6_writes_0 rfl rfl ?_
  refine r_ic K (nI 0) dX6_writes_1 k_0 ?_
  refine r_put K h ffX6_36 pfX6_0 0 [_, _, _, _, _, _, _, _, _, _] [_, _, _, _, _, _, _, _] rfl rfl rfl (Nat.le_of_ble_eq_true rfl) rfl rfl dX6_writes_2 (fun H locs h => ?_)
  refine r_aln K hl 0 dX6_writes_5 rfl rfl ?_
  refine r_iln K hl 1 dX6_writes_6 rfl rfl ?_
  refine r_callV K h hl (c_X6_isWriter l g a _ _ _ f n (nI p) hn1 h0) mc_X6_isWriter vm_X6_isWriter mlX6_86 0 rfl rfl rfl [0, 1] rfl rfl rfl [_, _, _, _, _, _, _, _] rfl (by decide) (by decide) rfl rfl (Nat.le_of_ble_eq_true rfl) ⟨Nat.zero_le _, Nat.zero_le _⟩ dX6_writes_7 (fun H locs h => ?_)
  refine W.eq (g2 := F0 m 10 ls [_]) rfl ?_
  refine r_zeqB K 33 dX6_writes_10 (by decide) (fun c => absurd (((inB_of (Nat.zero_le p) (by omega) (by omega))).symm.trans c) (by decide)) (fun _ => ?_)
  refine r_iln K hl 2 dX6_writes_13 rfl rfl ?_
  refine r_ic K (nI 0) dX6_writes_14 k_0 ?_
  refine r_bp K (nI 99) dX6_writes_15 kb_99 ?_
  refine r_callS K h hl (c_X6_in l g v (nI 0) (nI 99)) mc_X6_in st_X6_in mlX6_69 [] rfl rfl rfl [_, _, _, _, _, _, _, _] rfl (by decide) (by decide) rfl rfl (Nat.le_of_ble_eq_true rfl) ⟨Nat.zero_le _, Nat.zero_le _⟩ dX6_writes_17 (fun H locs h => ?_)
  refine W.eq (g2 := F0 m 20 ls [_]) rfl ?_
  refine r_zeqB K 33 dX6_writes_20 (by decide) (fun c => absurd ((hv).symm.trans c) (by decide)) (fun _ => ?_)
  refine r_aln K hl 0 dX6_writes_23 rfl rfl ?_
  refine r_iln K hl 1 dX6_writes_24 rfl rfl ?_
  refine r_ic K (nI 2) dX6_writes_25 k_2 ?_
  refine r_iln K hl 2 dX6_writes_26 rfl rfl ?_
  refine r_callV K h hl (c_X6_begun_ok l g a _ sm u f fw fp fi fk fs ft p (nI 2) v hu (by omega) ha h4) mc_X6_begun vm_X6_begun mlX6_89 0 rfl rfl rfl [0, 1, 2, 3, 4, 5, 6, 7] rfl rfl rfl [_, _, _, _, _, _, _, _] rfl (by decide) (by decide) rfl rfl (Nat.le_of_ble_eq_true rfl) ⟨Nat.zero_le _, Nat.zero_le _⟩ dX6_writes_27 (fun H locs h => ?_)
  refine W.eq (g2 := F0 m 30 ls [_]) rfl ?_
  refine r_go K 34 dX6_writes_30 (by decide) ?_
  exact hr.1 _ _ _ _ _ dX6_writes_34 h rfl

set_option maxHeartbeats 4000000 in
set_option maxRecDepth 100000 in
theorem c_X6_scans_bad (l : Launch) (g : GG) (a : Nat → Nat) (th um sm : Int32) (f fw fp fi fk fs ft : Row) (n : Nat) (hn1 : 1 ≤ n) (hn : n ≤ 4) (h0 : f 0 = nI n) (x : Int32) (hb : inB x (nI 0) (nI (n - 1)) = false) : Ct l g yX6_scans cX6_scans 2 (some .int) 2 [.ref (a 0), .int x] (mW g a (th) (um) (sm) (f) (fw) (fp) (fi) (fk) (fs) (ft)) (some (.int (-1))) (mW g a (nI 0) (um) (sm) (f) (fw) (fp) (fi) (fk) (fs) (ft)) := by
  refine Ct.start (by decide +kernel) (Nat.le_of_ble_eq_true rfl) (by simp [Value.category]) (Or.inr ⟨.int, _, rfl, rfl, rfl⟩) ?_
  intro p0 e R s m args below meth c A Q K hr h ls hl
  have hl : Lq ls 2 [some (.ref (a 0)), some (.int x)] := hl
  refine r_aln K hl 0 dX6_scans_0 rfl rfl ?_
  refine r_ic K (nI 0) dX6_scans_1 k_0 ?_
  refine r_put K h ffX6_36 pfX6_0 0 [_, _, _, _, _, _, _, _, _, _] [_, _, _, _, _, _, _, _] rfl rfl rfl (Nat.le_of_ble_eq_true rfl) rfl rfl dX6_scans_2 (fun H locs h => ?_)
  refine r_aln K hl 0 dX6_scans_5 rfl rfl ?_
  refine r_iln K hl 1 dX6_scans_6 rfl rfl ?_
  refine r_callV K h hl (c_X6_isWriter l g a _ _ _ f n x hn1 h0) mc_X6_isWriter vm_X6_isWriter mlX6_86 0 rfl rfl rfl [0, 1] rfl rfl rfl [_, _, _, _, _, _, _, _] rfl (by decide) (by decide) rfl rfl (Nat.le_of_ble_eq_true rfl) ⟨Nat.zero_le _, Nat.zero_le _⟩ dX6_scans_7 (fun H locs h => ?_)
  refine W.eq (g2 := F0 m 10 ls [_]) rfl ?_
  refine r_zeqB K 23 dX6_scans_10 (by decide) (fun _ => ?_) (fun c => absurd ((hb).symm.trans c) (by decide))
  refine r_ic K (-1) dX6_scans_23 k_m1 ?_
  exact hr.1 _ _ _ _ _ dX6_scans_24 h rfl

set_option maxHeartbeats 4000000 in
set_option maxRecDepth 100000 in
theorem c_X6_writes_bad (l : Launch) (g : GG) (a : Nat → Nat) (th um sm : Int32) (f fw fp fi fk fs ft : Row) (n : Nat) (hn1 : 1 ≤ n) (hn : n ≤ 4) (h0 : f 0 = nI n) (x v : Int32) (hb : (inB x (nI 0) (nI (n - 1)) && inB v (nI 0) (nI 99)) = false) : Ct l g yX6_writes cX6_writes 3 (some .int) 2 [.ref (a 0), .int x, .int v] (mW g a (th) (um) (sm) (f) (fw) (fp) (fi) (fk) (fs) (ft)) (some (.int (-1))) (mW g a (nI 0) (um) (sm) (f) (fw) (fp) (fi) (fk) (fs) (ft)) := by
  refine Ct.start (by decide +kernel) (Nat.le_of_ble_eq_true rfl) (by simp [Value.category]) (Or.inr ⟨.int, _, rfl, rfl, rfl⟩) ?_
  intro p0 e R s m args below meth c A Q K hr h ls hl
  have hl : Lq ls 3 [some (.ref (a 0)), some (.int x), some (.int v)] := hl
  refine r_aln K hl 0 dX6_writes_0 rfl rfl ?_
  refine r_ic K (nI 0) dX6_writes_1 k_0 ?_
  refine r_put K h ffX6_36 pfX6_0 0 [_, _, _, _, _, _, _, _, _, _] [_, _, _, _, _, _, _, _] rfl rfl rfl (Nat.le_of_ble_eq_true rfl) rfl rfl dX6_writes_2 (fun H locs h => ?_)
  refine r_aln K hl 0 dX6_writes_5 rfl rfl ?_
  refine r_iln K hl 1 dX6_writes_6 rfl rfl ?_
  refine r_callV K h hl (c_X6_isWriter l g a _ _ _ f n x hn1 h0) mc_X6_isWriter vm_X6_isWriter mlX6_86 0 rfl rfl rfl [0, 1] rfl rfl rfl [_, _, _, _, _, _, _, _] rfl (by decide) (by decide) rfl rfl (Nat.le_of_ble_eq_true rfl) ⟨Nat.zero_le _, Nat.zero_le _⟩ dX6_writes_7 (fun H locs h => ?_)
  refine W.eq (g2 := F0 m 10 ls [_]) rfl ?_
  refine r_zeqB K 33 dX6_writes_10 (by decide) (fun c10 => ?_) (fun c10 => ?_)
  · refine r_ic K (-1) dX6_writes_33 k_m1 ?_
    exact hr.1 _ _ _ _ _ dX6_writes_34 h rfl
  · refine r_iln K hl 2 dX6_writes_13 rfl rfl ?_
    refine r_ic K (nI 0) dX6_writes_14 k_0 ?_
    refine r_bp K (nI 99) dX6_writes_15 kb_99 ?_
    refine r_callS K h hl (c_X6_in l g v (nI 0) (nI 99)) mc_X6_in st_X6_in mlX6_69 [] rfl rfl rfl [_, _, _, _, _, _, _, _] rfl (by decide) (by decide) rfl rfl (Nat.le_of_ble_eq_true rfl) ⟨Nat.zero_le _, Nat.zero_le _⟩ dX6_writes_17 (fun H locs h => ?_)
    refine W.eq (g2 := F0 m 20 ls [_]) rfl ?_
    refine r_zeqB K 33 dX6_writes_20 (by decide) (fun c20 => ?_) (fun c20 => ?_)
    · refine r_ic K (-1) dX6_writes_33 k_m1 ?_
      exact hr.1 _ _ _ _ _ dX6_writes_34 h rfl
    · exact absurd hb (by rw [c10, c20]; decide)

set_option maxHeartbeats 4000000 in
set_option maxRecDepth 100000 in
theorem c_X6_steps_bad (l : Launch) (g : GG) (a : Nat → Nat) (th um sm : Int32) (f fw fp fi fk fs ft : Row) (n : Nat) (hn1 : 1 ≤ n) (hn : n ≤ 4) (h0 : f 0 = nI n) (x v : Int32) (hb : (inB x (nI 0) (nI (n - 1)) && inB v (nI 1) (nI 20)) = false) : Ct l g yX6_steps cX6_steps 4 (some .int) 2 [.ref (a 0), .int x, .int v] (mW g a (th) (um) (sm) (f) (fw) (fp) (fi) (fk) (fs) (ft)) (some (.int (-1))) (mW g a (nI 0) (um) (sm) (f) (fw) (fp) (fi) (fk) (fs) (ft)) := by
  refine Ct.start (by decide +kernel) (Nat.le_of_ble_eq_true rfl) (by simp [Value.category]) (Or.inr ⟨.int, _, rfl, rfl, rfl⟩) ?_
  intro p0 e R s m args below meth c A Q K hr h ls hl
  have hl : Lq ls 4 [some (.ref (a 0)), some (.int x), some (.int v), none] := hl
  refine r_aln K hl 0 dX6_steps_0 rfl rfl ?_
  refine r_ic K (nI 0) dX6_steps_1 k_0 ?_
  refine r_put K h ffX6_36 pfX6_0 0 [_, _, _, _, _, _, _, _, _, _] [_, _, _, _, _, _, _, _] rfl rfl rfl (Nat.le_of_ble_eq_true rfl) rfl rfl dX6_steps_2 (fun H locs h => ?_)
  refine r_aln K hl 0 dX6_steps_5 rfl rfl ?_
  refine r_iln K hl 1 dX6_steps_6 rfl rfl ?_
  refine r_callV K h hl (c_X6_isWriter l g a _ _ _ f n x hn1 h0) mc_X6_isWriter vm_X6_isWriter mlX6_86 0 rfl rfl rfl [0, 1] rfl rfl rfl [_, _, _, _, _, _, _, _] rfl (by decide) (by decide) rfl rfl (Nat.le_of_ble_eq_true rfl) ⟨Nat.zero_le _, Nat.zero_le _⟩ dX6_steps_7 (fun H locs h => ?_)
  refine W.eq (g2 := F0 m 10 ls [_]) rfl ?_
  refine r_zeqB K 23 dX6_steps_10 (by decide) (fun c10 => ?_) (fun c10 => ?_)
  · refine r_ic K (-1) dX6_steps_23 k_m1 ?_
    exact hr.1 _ _ _ _ _ dX6_steps_24 h rfl
  · refine r_iln K hl 2 dX6_steps_13 rfl rfl ?_
    refine r_ic K (nI 1) dX6_steps_14 k_1 ?_
    refine r_bp K (nI 20) dX6_steps_15 kb_20 ?_
    refine r_callS K h hl (c_X6_in l g v (nI 1) (nI 20)) mc_X6_in st_X6_in mlX6_69 [] rfl rfl rfl [_, _, _, _, _, _, _, _] rfl (by decide) (by decide) rfl rfl (Nat.le_of_ble_eq_true rfl) ⟨Nat.zero_le _, Nat.zero_le _⟩ dX6_steps_17 (fun H locs h => ?_)
    refine W.eq (g2 := F0 m 20 ls [_]) rfl ?_
    refine r_zneB K 25 dX6_steps_20 (by decide) (fun c20 => ?_) (fun c20 => ?_)
    · exact absurd hb (by rw [c10, c20]; decide)
    · refine r_ic K (-1) dX6_steps_23 k_m1 ?_
      exact hr.1 _ _ _ _ _ dX6_steps_24 h rfl

set_option maxHeartbeats 4000000 in
set_option maxRecDepth 100000 in
theorem c_X6_steps_state (l : Launch) (g : GG) (a : Nat → Nat) (th um sm : Int32) (f fw fp fi fk fs ft : Row) (n : Nat) (hn1 : 1 ≤ n) (hn : n ≤ 4) (h0 : f 0 = nI n) (p : Nat) (v : Int32) (hp : p < n) (hv : inB v (nI 1) (nI 20) = true) (ha : f (32 + 42 * p + 0) = 0) : Ct l g yX6_steps cX6_steps 4 (some .int) 2 [.ref (a 0), .int (nI p), .int v] (mW g a (th) (um) (sm) (f) (fw) (fp) (fi) (fk) (fs) (ft)) (some (.int (-2))) (mW g a (nI 0) (um) (sm) (f) (fw) (fp) (fi) (fk) (fs) (ft)) := by
  refine Ct.start (by decide +kernel) (Nat.le_of_ble_eq_true rfl) (by simp [Value.category]) (Or.inr ⟨.int, _, rfl, rfl, rfl⟩) ?_
  intro p0 e R s m args below meth c A Q K hr h ls hl
  have hl : Lq ls 4 [some (.ref (a 0)), some (.int (nI p)), some (.int v), none] := hl
  refine r_aln K hl 0 dX6_steps_0 rfl rfl ?_
  refine r_ic K (nI 0) dX6_steps_1 k_0 ?_
  refine r_put K h ffX6_36 pfX6_0 0 [_, _, _, _, _, _, _, _, _, _] [_, _, _, _, _, _, _, _] rfl rfl rfl (Nat.le_of_ble_eq_true rfl) rfl rfl dX6_steps_2 (fun H locs h => ?_)
  refine r_aln K hl 0 dX6_steps_5 rfl rfl ?_
  refine r_iln K hl 1 dX6_steps_6 rfl rfl ?_
  refine r_callV K h hl (c_X6_isWriter l g a _ _ _ f n (nI p) hn1 h0) mc_X6_isWriter vm_X6_isWriter mlX6_86 0 rfl rfl rfl [0, 1] rfl rfl rfl [_, _, _, _, _, _, _, _] rfl (by decide) (by decide) rfl rfl (Nat.le_of_ble_eq_true rfl) ⟨Nat.zero_le _, Nat.zero_le _⟩ dX6_steps_7 (fun H locs h => ?_)
  refine W.eq (g2 := F0 m 10 ls [_]) rfl ?_
  refine r_zeqB K 23 dX6_steps_10 (by decide) (fun c => absurd (((inB_of (Nat.zero_le p) (by omega) (by omega))).symm.trans c) (by decide)) (fun _ => ?_)
  refine r_iln K hl 2 dX6_steps_13 rfl rfl ?_
  refine r_ic K (nI 1) dX6_steps_14 k_1 ?_
  refine r_bp K (nI 20) dX6_steps_15 kb_20 ?_
  refine r_callS K h hl (c_X6_in l g v (nI 1) (nI 20)) mc_X6_in st_X6_in mlX6_69 [] rfl rfl rfl [_, _, _, _, _, _, _, _] rfl (by decide) (by decide) rfl rfl (Nat.le_of_ble_eq_true rfl) ⟨Nat.zero_le _, Nat.zero_le _⟩ dX6_steps_17 (fun H locs h => ?_)
  refine W.eq (g2 := F0 m 20 ls [_]) rfl ?_
  refine r_zneB K 25 dX6_steps_20 (by decide) (fun _ => ?_) (fun c => absurd ((hv).symm.trans c) (by decide))
  refine r_aln K hl 0 dX6_steps_25 rfl rfl ?_
  refine r_iln K hl 1 dX6_steps_26 rfl rfl ?_
  refine r_callV K h hl (c_X6_isIdle l g a _ _ _ f p (by omega)) mc_X6_isIdle vm_X6_isIdle mlX6_79 0 rfl rfl rfl [0, 1] rfl rfl rfl [_, _, _, _, _, _, _, _] rfl (by decide) (by decide) rfl rfl (Nat.le_of_ble_eq_true rfl) ⟨Nat.zero_le _, Nat.zero_le _⟩ dX6_steps_27 (fun H locs h => ?_)
  refine W.eq (g2 := F0 m 30 ls [_]) rfl ?_
  refine r_zeqB K 36 dX6_steps_30 (by decide) (fun c => absurd ((decide_eq_true ha).symm.trans c) (by decide)) (fun _ => ?_)
  refine r_bp K (-2) dX6_steps_33 kb_m2 ?_
  exact hr.1 _ _ _ _ _ dX6_steps_35 h rfl

set_option maxHeartbeats 4000000 in
set_option maxRecDepth 100000 in
theorem c_X6_steps_ok (l : Launch) (g : GG) (a : Nat → Nat) (th sm : Int32) (u : Nat) (f fw fp fi fk fs ft : Row) (n mv p k : Nat) (hu : u ≤ 5) (hx : WFx f n mv) (hp : p < n) (hk1 : 1 ≤ k) (hk : k ≤ 20) (ha : ¬ f (32 + 42 * p + 0) = 0) : Ct l g yX6_steps cX6_steps 4 (some .int) 4 [.ref (a 0), .int (nI p), .int (nI k)] (mW g a (th) (nI u) (sm) (f) (fw) (fp) (fi) (fk) (fs) (ft)) (some (.int (nI (stC f p k)))) (mW g a (nI 0) (nI (nU u)) (sm) (stF f p k) (fw) (nP u f fp) (fi) (fk) (fs) (ft)) := by
  refine Ct.start (by decide +kernel) (Nat.le_of_ble_eq_true rfl) (by simp [Value.category]) (Or.inr ⟨.int, _, rfl, rfl, rfl⟩) ?_
  intro p0 e R s m args below meth c A Q K hr h ls hl
  have hl : Lq ls 4 [some (.ref (a 0)), some (.int (nI p)), some (.int (nI k)), none] := hl
  have hx1 := hx
  obtain ⟨ph0, wr0, ⟨⟨hn2, hn, -⟩, h0, -⟩⟩ := hx1
  have hn1 : 1 ≤ n := by omega
  refine r_aln K hl 0 dX6_steps_0 rfl rfl ?_
  refine r_ic K (nI 0) dX6_steps_1 k_0 ?_
  refine r_put K h ffX6_36 pfX6_0 0 [_, _, _, _, _, _, _, _, _, _] [_, _, _, _, _, _, _, _] rfl rfl rfl (Nat.le_of_ble_eq_true rfl) rfl rfl dX6_steps_2 (fun H locs h => ?_)
  refine r_aln K hl 0 dX6_steps_5 rfl rfl ?_
  refine r_iln K hl 1 dX6_steps_6 rfl rfl ?_
  refine r_callV K h hl (c_X6_isWriter l g a _ _ _ f n (nI p) hn1 h0) mc_X6_isWriter vm_X6_isWriter mlX6_86 0 rfl rfl rfl [0, 1] rfl rfl rfl [_, _, _, _, _, _, _, _] rfl (by decide) (by decide) rfl rfl (Nat.le_of_ble_eq_true rfl) ⟨Nat.zero_le _, Nat.zero_le _⟩ dX6_steps_7 (fun H locs h => ?_)
  refine W.eq (g2 := F0 m 10 ls [_]) rfl ?_
  refine r_zeqB K 23 dX6_steps_10 (by decide) (fun c => absurd (((inB_of (Nat.zero_le p) (by omega) (by omega))).symm.trans c) (by decide)) (fun _ => ?_)
  refine r_iln K hl 2 dX6_steps_13 rfl rfl ?_
  refine r_ic K (nI 1) dX6_steps_14 k_1 ?_
  refine r_bp K (nI 20) dX6_steps_15 kb_20 ?_
  refine r_callS K h hl (c_X6_in l g (nI k) (nI 1) (nI 20)) mc_X6_in st_X6_in mlX6_69 [] rfl rfl rfl [_, _, _, _, _, _, _, _] rfl (by decide) (by decide) rfl rfl (Nat.le_of_ble_eq_true rfl) ⟨Nat.zero_le _, Nat.zero_le _⟩ dX6_steps_17 (fun H locs h => ?_)
  refine W.eq (g2 := F0 m 20 ls [_]) rfl ?_
  refine r_zneB K 25 dX6_steps_20 (by decide) (fun _ => ?_) (fun c => absurd (((inB_of hk1 hk (by omega))).symm.trans c) (by decide))
  refine r_aln K hl 0 dX6_steps_25 rfl rfl ?_
  refine r_iln K hl 1 dX6_steps_26 rfl rfl ?_
  refine r_callV K h hl (c_X6_isIdle l g a _ _ _ f p (by omega)) mc_X6_isIdle vm_X6_isIdle mlX6_79 0 rfl rfl rfl [0, 1] rfl rfl rfl [_, _, _, _, _, _, _, _] rfl (by decide) (by decide) rfl rfl (Nat.le_of_ble_eq_true rfl) ⟨Nat.zero_le _, Nat.zero_le _⟩ dX6_steps_27 (fun H locs h => ?_)
  refine W.eq (g2 := F0 m 30 ls [_]) rfl ?_
  refine r_zeqB K 36 dX6_steps_30 (by decide) (fun _ => ?_) (fun c => absurd ((decide_eq_false ha).symm.trans c) (by decide))
  refine r_aln K hl 0 dX6_steps_36 rfl rfl ?_
  refine r_callV K h hl (c_X6_notes l g a _ sm f fp u hu) mc_X6_notes vm_X6_notes mlX6_73 0 rfl rfl rfl [0, 1, 3] rfl rfl rfl [_, _, _, _, _, _, _, _] rfl (by decide) (by decide) rfl rfl (Nat.le_of_ble_eq_true rfl) ⟨Nat.zero_le _, Nat.zero_le _⟩ dX6_steps_37 (fun H locs h => ?_)
  refine W.eq (g2 := F0 m 40 ls []) rfl ?_
  refine r_ic K (nI 0) dX6_steps_40 k_0 ?_
  refine r_isn K hl 3 [_, _, _, _] dX6_steps_41 rfl (by decide) rfl (fun ls hl => ?_)
  have loop : ∀ (j i : Nat) (f' : Row), i + j = k → WFx f' n mv → stF f' p j = stF f p k → i + stC f' p j = stC f p k → ∀ (H : Heap) (locs : List Loc), Hp g A s H locs (mW g a (nI 0) (nI (nU u)) (sm) (f') (fw) (nP u f fp) (fi) (fk) (fs) (ft)) → ∀ ls, Lq ls 4 [some (.ref (a 0)), some (.int (nI p)), some (.int (nI k)), some (.int (nI i))] → W p0 l e R s m args below meth c H locs 0 0 Q (F0 m 42 ls []) := by
    intro j
    induction j with
    | zero =>
      intro i f' hk hx e1 e2 H locs h ls hl
      obtain rfl : i = k := by omega
      refine r_iln K hl 3 dX6_steps_42 rfl rfl ?_
      refine r_iln K hl 2 dX6_steps_43 rfl rfl ?_
      refine r_cgeN K 69 dX6_steps_44 (by decide) (by omega) (by omega) (fun c44 => ?_) (fun c => absurd c (by omega))
      refine r_iln K hl 3 dX6_steps_69 rfl rfl ?_
      exact hr.1 _ _ _ _ _ dX6_steps_70 (h.to (by rw [← e1]; rfl)) (by rw [← e2]; rfl)
    | succ j ih =>
      intro i f' hk hx e1 e2 H locs h ls hl
      refine r_iln K hl 3 dX6_steps_42 rfl rfl ?_
      refine r_iln K hl 2 dX6_steps_43 rfl rfl ?_
      refine r_cgeN K 69 dX6_steps_44 (by decide) (by omega) (by omega) (fun c => absurd c (by omega)) (fun c44 => ?_)
      refine r_aln K hl 0 dX6_steps_47 rfl rfl ?_
      refine r_iln K hl 1 dX6_steps_48 rfl rfl ?_
      refine r_callV K h hl (c_X6_isIdle l g a _ _ _ f' p (by omega)) mc_X6_isIdle vm_X6_isIdle mlX6_79 0 rfl rfl rfl [0, 1] rfl rfl rfl [_, _, _, _, _, _, _, _] rfl (by decide) (by decide) rfl rfl (Nat.le_of_ble_eq_true rfl) ⟨Nat.zero_le _, Nat.zero_le _⟩ dX6_steps_49 (fun H locs h => ?_)
      refine W.eq (g2 := F0 m 52 ls [_]) rfl ?_
      refine r_zneB K 69 dX6_steps_52 (by decide) (fun c52 => ?_) (fun c52 => ?_)
      · refine r_iln K hl 3 dX6_steps_69 rfl rfl ?_
        exact hr.1 _ _ _ _ _ dX6_steps_70 (h.to (by rw [← e1, stF_idle (of_decide_eq_true c52)])) (by rw [← e2, stC_idle (of_decide_eq_true c52)]; rfl)
      · have ha' := of_decide_eq_false c52
        have hx2 := hx
        obtain ⟨ph, wr, hw⟩ := hx2
        obtain ⟨kd, st, wh, hs, mm, hb⟩ := (hw.2.2.2.2.2 p (by omega)).act ha'
        have h60 := hb.st60 hn2 hn hw.1.2.2.2.1
        have hst := hb.2.1
        have g0 := hw.2.1
        have g5 := hw.2.2.2.1
        have g6 := hw.2.2.2.2.1
        have g7 := hw.1.2.2.2.2.1
        have g8 := hw.1.2.2.2.2.2
        refine r_aln K hl 0 dX6_steps_55 rfl rfl ?_
        refine r_get K h ffX6_7 0 rfl rfl dX6_steps_56 ?_
        refine r_iln K hl 1 dX6_steps_59 rfl rfl ?_
        refine r_callS K h hl (c_X6_step l g (a 1) f' p n ph wr st (by omega) hn2 hn g0 g5 g7 g6 g8 hst (by omega)) mc_X6_step st_X6_step mlX6_93 [1] rfl rfl rfl [_, _, _, _, _, _, _, _] rfl (by decide) (by decide) rfl rfl (Nat.le_of_ble_eq_true rfl) ⟨Nat.zero_le _, Nat.zero_le _⟩ dX6_steps_60 (fun H locs h => ?_)
        refine W.eq (g2 := F0 m 63 ls []) rfl ?_
        refine r_incN K hl (k := 1) [_, _, _, _] dX6_steps_63 rfl (by decide) rfl (fun ls hl => ?_)
        refine r_go K 42 dX6_steps_66 (by decide) ?_
        exact ih (i + 1) _ (by omega) (wfx_step hx hp ha') (by rw [← e1, stF, if_neg ha']) (by rw [← e2, stC, if_neg ha']; omega) _ _ h _ hl
  exact loop k 0 f (by omega) hx rfl (by omega) _ _ h _ hl

set_option maxHeartbeats 4000000 in
set_option maxRecDepth 100000 in
theorem c_X6_undo_state (l : Launch) (g : GG) (a : Nat → Nat) (th sm : Int32) (f fw fp fi fk fs ft : Row) : Ct l g yX6_undo cX6_undo 2 (some .int) 0 [.ref (a 0)] (mW g a (th) (nI 0) (sm) (f) (fw) (fp) (fi) (fk) (fs) (ft)) (some (.int (-2))) (mW g a (nI 0) (nI 0) (sm) (f) (fw) (fp) (fi) (fk) (fs) (ft)) := by
  refine Ct.start (by decide +kernel) (Nat.le_of_ble_eq_true rfl) (by simp [Value.category]) (Or.inr ⟨.int, _, rfl, rfl, rfl⟩) ?_
  intro p0 e R s m args below meth c A Q K hr h ls hl
  have hl : Lq ls 2 [some (.ref (a 0)), none] := hl
  refine r_aln K hl 0 dX6_undo_0 rfl rfl ?_
  refine r_ic K (nI 0) dX6_undo_1 k_0 ?_
  refine r_put K h ffX6_36 pfX6_0 0 [_, _, _, _, _, _, _, _, _, _] [_, _, _, _, _, _, _, _] rfl rfl rfl (Nat.le_of_ble_eq_true rfl) rfl rfl dX6_undo_2 (fun H locs h => ?_)
  refine r_aln K hl 0 dX6_undo_5 rfl rfl ?_
  refine r_get K h ffX6_66 0 rfl rfl dX6_undo_6 ?_
  refine r_zne K 15 dX6_undo_9 (by decide) (fun c => absurd rfl c) (fun c9 => ?_)
  refine r_bp K (-2) dX6_undo_12 kb_m2 ?_
  exact hr.1 _ _ _ _ _ dX6_undo_14 h rfl

set_option maxHeartbeats 4000000 in
set_option maxRecDepth 100000 in
theorem c_X6_undo_ok (l : Launch) (g : GG) (a : Nat → Nat) (th sm : Int32) (u : Nat) (f fw fp fi fk fs ft : Row) (hu : u < 5) : Ct l g yX6_undo cX6_undo 2 (some .int) 0 [.ref (a 0)] (mW g a (th) (nI (u + 1)) (sm) (f) (fw) (fp) (fi) (fk) (fs) (ft)) (some (.int (nI u))) (mW g a (nI 0) (nI u) (sm) (fun j => fp (512 * u + j)) (fw) (fp) (fi) (fk) (fs) (ft)) := by
  refine Ct.start (by decide +kernel) (Nat.le_of_ble_eq_true rfl) (by simp [Value.category]) (Or.inr ⟨.int, _, rfl, rfl, rfl⟩) ?_
  intro p0 e R s m args below meth c A Q K hr h ls hl
  have hl : Lq ls 2 [some (.ref (a 0)), none] := hl
  refine r_aln K hl 0 dX6_undo_0 rfl rfl ?_
  refine r_ic K (nI 0) dX6_undo_1 k_0 ?_
  refine r_put K h ffX6_36 pfX6_0 0 [_, _, _, _, _, _, _, _, _, _] [_, _, _, _, _, _, _, _] rfl rfl rfl (Nat.le_of_ble_eq_true rfl) rfl rfl dX6_undo_2 (fun H locs h => ?_)
  refine r_aln K hl 0 dX6_undo_5 rfl rfl ?_
  refine r_get K h ffX6_66 0 rfl rfl dX6_undo_6 ?_
  refine r_zne K 15 dX6_undo_9 (by decide) (fun c9 => ?_) (fun c => absurd c (nI_ne0 (n := u + 1) (by omega) (by omega)))
  refine r_aln K hl 0 dX6_undo_15 rfl rfl ?_
  refine r_dup K dX6_undo_16 rfl ?_
  refine r_get K h ffX6_66 0 rfl rfl dX6_undo_17 ?_
  refine r_ic K (nI 1) dX6_undo_20 k_1 ?_
  refine r_subN K (by omega) dX6_undo_21 ?_
  refine r_put K h ffX6_66 pfX6_4 0 [_, _, _, _, _, _, _, _, _, _] [_, _, _, _, _, _, _, _] rfl rfl rfl (Nat.le_of_ble_eq_true rfl) rfl rfl dX6_undo_22 (fun H locs h => ?_)
  refine r_ic K (nI 0) dX6_undo_25 k_0 ?_
  refine r_isn K hl 1 [_, _] dX6_undo_26 rfl (by decide) rfl (fun ls hl => ?_)
  rw [show u + 1 - 1 = u by omega] at h
  have loop : ∀ (j k : Nat), k + j = 512 → ∀ (H : Heap) (locs : List Loc), Hp g A s H locs (mW g a (nI 0) (nI u) (sm) (va_cpy fp f (512 * u) 0 k) (fw) (fp) (fi) (fk) (fs) (ft)) → ∀ ls, Lq ls 2 [some (.ref (a 0)), some (.int (nI k))] → W p0 l e R s m args below meth c H locs 0 0 Q (F0 m 27 ls []) := by
    intro j
    induction j with
    | zero =>
      intro k hk H locs h ls hl
      obtain rfl : k = 512 := by omega
      refine r_iln K hl 1 dX6_undo_27 rfl rfl ?_
      refine r_sp K (nI 512) dX6_undo_28 ks_512 ?_
      refine r_cgeN K 61 dX6_undo_31 (by decide) (by omega) (by omega) (fun c31 => ?_) (fun c => absurd c (by omega))
      refine r_aln K hl 0 dX6_undo_61 rfl rfl ?_
      refine r_get K h ffX6_66 0 rfl rfl dX6_undo_62 ?_
      have h := h.arr 1 (fun j => fp (512 * u + j)) rfl (fun j hj => by rw [cpy_i (by omega) (by omega)]; rfl)
      exact hr.1 _ _ _ _ _ dX6_undo_65 (h.to rfl) rfl
    | succ j ih =>
      intro k hk H locs h ls hl
      refine r_iln K hl 1 dX6_undo_27 rfl rfl ?_
      refine r_sp K (nI 512) dX6_undo_28 ks_512 ?_
      refine r_cgeN K 61 dX6_undo_31 (by decide) (by omega) (by omega) (fun c => absurd c (by omega)) (fun c31 => ?_)
      refine r_aln K hl 0 dX6_undo_34 rfl rfl ?_
      refine r_get K h ffX6_7 0 rfl rfl dX6_undo_35 ?_
      refine r_iln K hl 1 dX6_undo_38 rfl rfl ?_
      refine r_aln K hl 0 dX6_undo_39 rfl rfl ?_
      refine r_get K h ffX6_16 0 rfl rfl dX6_undo_40 ?_
      refine r_sp K (nI 512) dX6_undo_43 ks_512 ?_
      refine r_aln K hl 0 dX6_undo_46 rfl rfl ?_
      refine r_get K h ffX6_66 0 rfl rfl dX6_undo_47 ?_
      refine r_mulN K dX6_undo_50 ?_
      refine r_iln K hl 1 dX6_undo_51 rfl rfl ?_
      refine r_addN K dX6_undo_52 ?_
      refine r_ial K h 3 rfl (by omega) (by decide) dX6_undo_53 ?_
      refine r_ias K h 1 [_, _, _, _, _, _, _, _] rfl (by omega) (by decide) rfl dX6_undo_54 (fun H locs h => ?_)
      refine r_incN K hl (k := 1) [_, _] dX6_undo_55 rfl (by decide) rfl (fun ls hl => ?_)
      refine r_go K 27 dX6_undo_58 (by decide) ?_
      refine ih (k + 1) (by omega) _ _ (h.to ?_) _ hl
      rw [← cpy_s, Nat.zero_add]
  exact loop 512 0 rfl _ _ (h.to (by rw [cpy_0])) _ hl

set_option maxHeartbeats 4000000 in
set_option maxRecDepth 100000 in
theorem c_X6_cell_bad (l : Launch) (g : GG) (a : Nat → Nat) (th um sm : Int32) (f fw fp fi fk fs ft : Row) (n : Nat) (hn1 : 1 ≤ n) (hn : n ≤ 4) (h0 : f 0 = nI n) (x v : Int32) (hb : (inB x (nI 0) (nI (n - 1)) && inB v (nI 0) (nI 5)) = false) : Ct l g yX6_cell cX6_cell 3 (some .int) 2 [.ref (a 0), .int x, .int v] (mW g a (th) (um) (sm) (f) (fw) (fp) (fi) (fk) (fs) (ft)) (some (.int (-1))) (mW g a (nI 0) (um) (sm) (f) (fw) (fp) (fi) (fk) (fs) (ft)) := by
  refine Ct.start (by decide +kernel) (Nat.le_of_ble_eq_true rfl) (by simp [Value.category]) (Or.inr ⟨.int, _, rfl, rfl, rfl⟩) ?_
  intro p0 e R s m args below meth c A Q K hr h ls hl
  have hl : Lq ls 3 [some (.ref (a 0)), some (.int x), some (.int v)] := hl
  refine r_aln K hl 0 dX6_cell_0 rfl rfl ?_
  refine r_ic K (nI 0) dX6_cell_1 k_0 ?_
  refine r_put K h ffX6_36 pfX6_0 0 [_, _, _, _, _, _, _, _, _, _] [_, _, _, _, _, _, _, _] rfl rfl rfl (Nat.le_of_ble_eq_true rfl) rfl rfl dX6_cell_2 (fun H locs h => ?_)
  refine r_aln K hl 0 dX6_cell_5 rfl rfl ?_
  refine r_iln K hl 1 dX6_cell_6 rfl rfl ?_
  refine r_callV K h hl (c_X6_isCell l g a _ _ _ f n x hn1 h0) mc_X6_isCell vm_X6_isCell mlX6_96 0 rfl rfl rfl [0, 1] rfl rfl rfl [_, _, _, _, _, _, _, _] rfl (by decide) (by decide) rfl rfl (Nat.le_of_ble_eq_true rfl) ⟨Nat.zero_le _, Nat.zero_le _⟩ dX6_cell_7 (fun H locs h => ?_)
  refine W.eq (g2 := F0 m 10 ls [_]) rfl ?_
  refine r_zeqB K 36 dX6_cell_10 (by decide) (fun c10 => ?_) (fun c10 => ?_)
  · refine r_ic K (-1) dX6_cell_36 k_m1 ?_
    exact hr.1 _ _ _ _ _ dX6_cell_37 h rfl
  · refine r_iln K hl 2 dX6_cell_13 rfl rfl ?_
    refine r_ic K (nI 0) dX6_cell_14 k_0 ?_
    refine r_ic K (nI 5) dX6_cell_15 k_5 ?_
    refine r_callS K h hl (c_X6_in l g v (nI 0) (nI 5)) mc_X6_in st_X6_in mlX6_69 [] rfl rfl rfl [_, _, _, _, _, _, _, _] rfl (by decide) (by decide) rfl rfl (Nat.le_of_ble_eq_true rfl) ⟨Nat.zero_le _, Nat.zero_le _⟩ dX6_cell_16 (fun H locs h => ?_)
    refine W.eq (g2 := F0 m 19 ls [_]) rfl ?_
    refine r_zeqB K 36 dX6_cell_19 (by decide) (fun c19 => ?_) (fun c19 => ?_)
    · refine r_ic K (-1) dX6_cell_36 k_m1 ?_
      exact hr.1 _ _ _ _ _ dX6_cell_37 h rfl
    · exact absurd hb (by rw [c10, c19]; decide)

set_option maxHeartbeats 4000000 in
set_option maxRecDepth 100000 in
theorem c_X6_cell_ok (l : Launch) (g : GG) (a : Nat → Nat) (th um sm : Int32) (f fw fp fi fk fs ft : Row) (n : Nat) (hn1 : 1 ≤ n) (hn : n ≤ 4) (h0 : f 0 = nI n) (p k : Nat) (hp : p < n) (hk : k ≤ 5) : Ct l g yX6_cell cX6_cell 3 (some .int) 2 [.ref (a 0), .int (nI p), .int (nI k)] (mW g a (th) (um) (sm) (f) (fw) (fp) (fi) (fk) (fs) (ft)) (some (.int (f (8 + 6 * p + k)))) (mW g a (nI 0) (um) (sm) (f) (fw) (fp) (fi) (fk) (fs) (ft)) := by
  refine Ct.start (by decide +kernel) (Nat.le_of_ble_eq_true rfl) (by simp [Value.category]) (Or.inr ⟨.int, _, rfl, rfl, rfl⟩) ?_
  intro p0 e R s m args below meth c A Q K hr h ls hl
  have hl : Lq ls 3 [some (.ref (a 0)), some (.int (nI p)), some (.int (nI k))] := hl
  refine r_aln K hl 0 dX6_cell_0 rfl rfl ?_
  refine r_ic K (nI 0) dX6_cell_1 k_0 ?_
  refine r_put K h ffX6_36 pfX6_0 0 [_, _, _, _, _, _, _, _, _, _] [_, _, _, _, _, _, _, _] rfl rfl rfl (Nat.le_of_ble_eq_true rfl) rfl rfl dX6_cell_2 (fun H locs h => ?_)
  refine r_aln K hl 0 dX6_cell_5 rfl rfl ?_
  refine r_iln K hl 1 dX6_cell_6 rfl rfl ?_
  refine r_callV K h hl (c_X6_isCell l g a _ _ _ f n (nI p) hn1 h0) mc_X6_isCell vm_X6_isCell mlX6_96 0 rfl rfl rfl [0, 1] rfl rfl rfl [_, _, _, _, _, _, _, _] rfl (by decide) (by decide) rfl rfl (Nat.le_of_ble_eq_true rfl) ⟨Nat.zero_le _, Nat.zero_le _⟩ dX6_cell_7 (fun H locs h => ?_)
  refine W.eq (g2 := F0 m 10 ls [_]) rfl ?_
  refine r_zeqB K 36 dX6_cell_10 (by decide) (fun c => absurd (((inB_of (Nat.zero_le p) (by omega) (by omega))).symm.trans c) (by decide)) (fun _ => ?_)
  refine r_iln K hl 2 dX6_cell_13 rfl rfl ?_
  refine r_ic K (nI 0) dX6_cell_14 k_0 ?_
  refine r_ic K (nI 5) dX6_cell_15 k_5 ?_
  refine r_callS K h hl (c_X6_in l g (nI k) (nI 0) (nI 5)) mc_X6_in st_X6_in mlX6_69 [] rfl rfl rfl [_, _, _, _, _, _, _, _] rfl (by decide) (by decide) rfl rfl (Nat.le_of_ble_eq_true rfl) ⟨Nat.zero_le _, Nat.zero_le _⟩ dX6_cell_16 (fun H locs h => ?_)
  refine W.eq (g2 := F0 m 19 ls [_]) rfl ?_
  refine r_zeqB K 36 dX6_cell_19 (by decide) (fun c => absurd (((inB_of (Nat.zero_le k) hk (by omega))).symm.trans c) (by decide)) (fun _ => ?_)
  refine r_aln K hl 0 dX6_cell_22 rfl rfl ?_
  refine r_get K h ffX6_7 0 rfl rfl dX6_cell_23 ?_
  refine r_iln K hl 1 dX6_cell_26 rfl rfl ?_
  refine r_callS K h hl (c_X6_cellAt l g p) mc_X6_cellAt st_X6_cellAt mlX6_48 [] rfl rfl rfl [_, _, _, _, _, _, _, _] rfl (by decide) (by decide) rfl rfl (Nat.le_of_ble_eq_true rfl) ⟨Nat.zero_le _, Nat.zero_le _⟩ dX6_cell_27 (fun H locs h => ?_)
  refine W.eq (g2 := F0 m 30 ls [_, _]) rfl ?_
  refine r_iln K hl 2 dX6_cell_30 rfl rfl ?_
  refine r_addN K dX6_cell_31 ?_
  refine r_ial K h 1 rfl (by omega) (by decide) dX6_cell_32 ?_
  refine r_go K 37 dX6_cell_33 (by decide) ?_
  exact hr.1 _ _ _ _ _ dX6_cell_37 h rfl
