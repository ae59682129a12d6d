theorem c_X3_add (l : Launch) (g : GG) (y0 y1 y2 y3 y4 : Nat) (ti pls wv th : Row) (t x v : Int32) (wr : Nat) (hwr : wr ≤ 24) : Ct l g yX3_add cX3_add 4 none 0 [.ref y0, .int t, .int x, .int v] [oHis y0 y1 y2 y3 y4 (nI wr), aI g y1 24 (ti), aI g y2 24 (pls), aI g y3 24 (wv), aI g y4 4 (th)] none [oHis y0 y1 y2 y3 y4 (nI (up1 (decide (wr < 24)) wr)), aI g y1 24 (ifU (decide (wr < 24)) ti wr t), aI g y2 24 (ifU (decide (wr < 24)) pls wr x), aI g y3 24 (ifU (decide (wr < 24)) wv wr v), aI g y4 4 (th)] := by
  by_cases h : wr < 24
  · have e : decide (wr < 24) = true := decide_eq_true h
    rw [e]; exact c_X3_add_ok l g y0 y1 y2 y3 y4 ti pls wv th t x v wr h
  · obtain rfl : wr = 24 := by omega
    exact c_X3_add_full l g y0 y1 y2 y3 y4 ti pls wv th t x v

theorem c_X1_add (l : Launch) (g : GG) (x0 x1 : Nat) (b : Nat → Nat) (fa k pv : Row) (x en mo : Int32) (ph : Nat) (hph : ph ≤ 24) : Ct l g yX1_add cX1_add 6 none 1 [.ref x0, .int x, .ref (b 0), .int en, .int mo] [oAlb x0 x1 (nI ph), aI g x1 264 (fa), oAct b k, aI g (b 1) 4 pv] none [oAlb x0 x1 (nI (up1 (decide (ph < 24)) ph)), aI g x1 264 (bif decide (ph < 24) then cFa fa ph x k en mo pv else fa), oAct b k, aI g (b 1) 4 pv] := by
  by_cases h : ph < 24
  · have e : decide (ph < 24) = true := decide_eq_true h
    rw [e]; exact c_X1_add_ok l g x0 x1 b fa k pv x en mo ph h
  · obtain rfl : ph = 24 := by omega
    exact c_X1_add_full l g x0 x1 b fa k pv x en mo

set_option maxHeartbeats 4000000 in
set_option maxRecDepth 100000 in
theorem c_X4_versionBehind (l : Launch) (g : GG) (a : Nat → Nat) (kw : Row) (v : Int32) : Ct l g yX4_versionBehind cX4_versionBehind 2 (some .int) 0 [.ref (a 0), .int v] [oWor a kw] (some (.int (verB (kw 2) v))) [oWor a kw] := by
  refine Ct.start (by decide +kernel) (Nat.le_of_ble_eq_true rfl) (by simp [Value.category]) (Or.inr ⟨.int, _, rfl, rfl, rfl⟩) ?_
  intro p0 e R s m args below meth c A Q K hr h ls hl
  have hl : Lq ls 2 [some (.ref (a 0)), some (.int v)] := hl
  refine r_aln K hl 0 dX4_versionBehind_0 rfl rfl ?_
  refine r_get K h ffX4_46 0 rfl rfl dX4_versionBehind_1 ?_
  refine r_zne K 13 dX4_versionBehind_4 (by decide) (fun c4 => ?_) (fun c4 => ?_)
  · refine r_iln K hl 1 dX4_versionBehind_13 rfl rfl ?_
    refine r_ic K (nI 1) dX4_versionBehind_14 k_1 ?_
    refine r_add K dX4_versionBehind_15 ?_
    refine r_aln K hl 0 dX4_versionBehind_16 rfl rfl ?_
    refine r_get K h ffX4_46 0 rfl rfl dX4_versionBehind_17 ?_
    refine r_rem K c4 dX4_versionBehind_20 ?_
    exact hr.1 _ _ _ _ _ dX4_versionBehind_21 h (by rw [verB, if_neg c4])
  · refine r_iln K hl 1 dX4_versionBehind_7 rfl rfl ?_
    refine r_ic K (nI 1) dX4_versionBehind_8 k_1 ?_
    refine r_add K dX4_versionBehind_9 ?_
    refine r_go K 21 dX4_versionBehind_10 (by decide) ?_
    exact hr.1 _ _ _ _ _ dX4_versionBehind_21 h (by rw [verB, if_pos c4])

set_option maxHeartbeats 4000000 in
set_option maxRecDepth 100000 in
theorem c_X4_writeOut (l : Launch) (g : GG) (a b : Nat → Nat) (fa : Nat → Option Nat) (asz hsz : Int32) (kw fv fe fw fx ti pls wv th k pv mv ah rv rs rw : Row) (p wr : Nat) (hp : p < 4) (hwe : hsz = nI wr) (hwr : wr ≤ 24) : Ct l g yX4_writeOut cX4_writeOut 3 none 1 [.ref (a 0), .int (nI p), .ref (b 0)] (soW g a (kw) (fv) (fe) (fw) fa (asz) (fx) (hsz) (ti) (pls) (wv) (th) b (k) (pv) (mv) (ah) (rv) (rs) (rw)) none (soW g a (kw) (upd fv p (k 1)) (upd fe p (verB (kw 2) (fe p))) (va_cpy pv fw 0 (p * 4) 4) fa (asz) (fx) (nI (up1 (decide (wr < 24)) wr)) (ifU (decide (wr < 24)) ti wr (kw 3)) (ifU (decide (wr < 24)) pls wr (nI p)) (ifU (decide (wr < 24)) wv wr (k 1)) (th) b (k) (pv) (mv) (ah) (rv) (rs) (rw)) := by
  refine Ct.start (by decide +kernel) (Nat.le_of_ble_eq_true rfl) (by simp [Value.category]) (Or.inl ⟨rfl, rfl⟩) ?_
  intro p0 e R s m args below meth c A Q K hr h ls hl
  have hl : Lq ls 3 [some (.ref (a 0)), some (.int (nI p)), some (.ref (b 0))] := hl
  subst hwe
  refine r_aln K hl 0 dX4_writeOut_0 rfl rfl ?_
  refine r_get K h ffX4_12 0 rfl rfl dX4_writeOut_1 ?_
  refine r_get K h ffX4_126 1 rfl rfl dX4_writeOut_4 ?_
  refine r_iln K hl 1 dX4_writeOut_7 rfl rfl ?_
  refine r_aln K hl 2 dX4_writeOut_8 rfl rfl ?_
  refine r_get K h ffX4_129 13 rfl rfl dX4_writeOut_9 ?_
  refine r_ias K h 2 [_, _, _, _, _, _, _, _, _, _, _, _, _, _, _, _, _, _, _, _, _] rfl (by omega) (by decide) rfl dX4_writeOut_12 (fun H locs h => ?_)
  refine r_aln K hl 0 dX4_writeOut_13 rfl rfl ?_
  refine r_get K h ffX4_12 0 rfl rfl dX4_writeOut_14 ?_
  refine r_get K h ffX4_132 1 rfl rfl dX4_writeOut_17 ?_
  refine r_iln K hl 1 dX4_writeOut_20 rfl rfl ?_
  refine r_aln K hl 0 dX4_writeOut_21 rfl rfl ?_
  refine r_aln K hl 0 dX4_writeOut_22 rfl rfl ?_
  refine r_get K h ffX4_12 0 rfl rfl dX4_writeOut_23 ?_
  refine r_get K h ffX4_132 1 rfl rfl dX4_writeOut_26 ?_
  refine r_iln K hl 1 dX4_writeOut_29 rfl rfl ?_
  refine r_ial K h 3 rfl (by omega) (by decide) dX4_writeOut_30 ?_
  refine r_callV K h hl (c_X4_versionBehind l g a kw (fe p)) mc_X4_versionBehind vm_X4_versionBehind mlX4_135 0 rfl rfl rfl [0] (by decide +kernel) rfl rfl [_, _, _, _, _, _, _, _, _, _, _, _, _, _, _, _, _, _, _, _, _] rfl (by decide) (by decide) rfl rfl (Nat.le_of_ble_eq_true rfl) ⟨Nat.zero_le _, Nat.zero_le _⟩ dX4_writeOut_31 (fun H locs h => ?_)
  refine W.eq (g2 := F0 m 34 ls [_, _, _]) rfl ?_
  refine r_ias K h 3 [_, _, _, _, _, _, _, _, _, _, _, _, _, _, _, _, _, _, _, _, _] rfl (by omega) (by decide) rfl dX4_writeOut_34 (fun H locs h => ?_)
  refine r_aln K hl 2 dX4_writeOut_35 rfl rfl ?_
  refine r_get K h ffX4_111 13 rfl rfl dX4_writeOut_36 ?_
  refine r_ic K (nI 0) dX4_writeOut_39 k_0 ?_
  refine r_aln K hl 0 dX4_writeOut_40 rfl rfl ?_
  refine r_get K h ffX4_12 0 rfl rfl dX4_writeOut_41 ?_
  refine r_get K h ffX4_139 1 rfl rfl dX4_writeOut_44 ?_
  refine r_iln K hl 1 dX4_writeOut_47 rfl rfl ?_
  refine r_ic K (nI 4) dX4_writeOut_48 k_4 ?_
  refine r_mulN K dX4_writeOut_49 ?_
  refine r_ic K (nI 4) dX4_writeOut_50 k_4 ?_
  refine r_cpy K h hl 14 4 (va_cpy pv fw 0 (p * 4) 4) [_, _, _, _, _, _, _, _, _, _, _, _, _, _, _, _, _, _, _, _, _] mlX4_142 rfl rfl (by omega) (by omega) ⟨by decide, by decide⟩ (fun j hj => rfl) rfl (by decide) (Nat.le_of_ble_eq_true rfl) dX4_writeOut_51 (fun H locs h => ?_)
  refine r_aln K hl 0 dX4_writeOut_54 rfl rfl ?_
  refine r_get K h ffX4_34 0 rfl rfl dX4_writeOut_55 ?_
  refine r_aln K hl 0 dX4_writeOut_58 rfl rfl ?_
  refine r_get K h ffX4_49 0 rfl rfl dX4_writeOut_59 ?_
  refine r_iln K hl 1 dX4_writeOut_62 rfl rfl ?_
  refine r_aln K hl 2 dX4_writeOut_63 rfl rfl ?_
  refine r_get K h ffX4_129 13 rfl rfl dX4_writeOut_64 ?_
  refine r_callV K h hl (c_X3_add l g (a 40) (a 41) (a 42) (a 43) (a 44) ti pls wv th (kw 3) (nI p) (k 1) wr hwr) mc_X3_add vm_X3_add mlX4_148 8 rfl rfl rfl [8, 9, 10, 11, 12] (by decide +kernel) rfl rfl [_, _, _, _, _, _, _, _, _, _, _, _, _, _, _, _, _, _, _, _, _] rfl (by decide) (by decide) rfl rfl (Nat.le_of_ble_eq_true rfl) ⟨Nat.zero_le _, Nat.zero_le _⟩ dX4_writeOut_67 (fun H locs h => ?_)
  refine W.eq (g2 := F0 m 70 ls []) rfl ?_
  exact hr.2 _ _ _ _ dX4_writeOut_70 h rfl

set_option maxHeartbeats 4000000 in
set_option maxRecDepth 100000 in
theorem c_X4_stepOnce_A (l : Launch) (g : GG) (a b : Nat → Nat) (fa : Nat → Option Nat) (asz hsz : Int32) (kw fv fe fw fx ti pls wv th k pv mv ah rv rs rw : Row) (p : Nat) (hp : p < 4) (hfa : fa p = some (b 0)) (wr : Nat) (hwe : hsz = nI wr) (hwr : wr ≤ 24) (hk6 : ¬ k 6 = 0) : Ct l g yX4_stepOnce cX4_stepOnce 3 none 3 [.ref (a 0), .int (nI p)] (soW g a (kw) (fv) (fe) (fw) fa (asz) (fx) (hsz) (ti) (pls) (wv) (th) b (k) (pv) (mv) (ah) (rv) (rs) (rw)) none (soW g a (upd kw 3 (kw 3 + nI 1)) (upd fv p ((upd k 3 (k 3 + nI 1)) 1)) (upd fe p (verB ((upd kw 3 (kw 3 + nI 1)) 2) (fe p))) (va_cpy pv fw 0 (p * 4) 4) fa (asz) (fx) (nI (up1 (decide (wr < 24)) wr)) (ifU (decide (wr < 24)) ti wr ((upd kw 3 (kw 3 + nI 1)) 3)) (ifU (decide (wr < 24)) pls wr (nI p)) (ifU (decide (wr < 24)) wv wr ((upd k 3 (k 3 + nI 1)) 1)) (th) b (kB (nI 0) (-9) (nI 0)) (z0) (z0) (z0) (z0) (z0) (z0)) := by
  refine Ct.start (by decide +kernel) (Nat.le_of_ble_eq_true rfl) (by simp [Value.category]) (Or.inl ⟨rfl, rfl⟩) ?_
  intro p0 e R s m args below meth c A Q K hr h ls hl
  have hl : Lq ls 3 [some (.ref (a 0)), some (.int (nI p)), none] := hl
  refine r_aln K hl 0 dX4_stepOnce_0 rfl rfl ?_
  refine r_get K h ffX4_20 0 rfl rfl dX4_stepOnce_1 ?_
  refine r_iln K hl 1 dX4_stepOnce_4 rfl rfl ?_
  refine r_aal2 K h 5 rfl (by omega) (by decide) hfa dX4_stepOnce_5 ?_
  refine r_asn K hl 2 [_, _, _] dX4_stepOnce_6 rfl (by decide) rfl (fun ls hl => ?_)
  refine r_aln K hl 0 dX4_stepOnce_7 rfl rfl ?_
  refine r_dup K dX4_stepOnce_8 rfl ?_
  refine r_get K h ffX4_49 0 rfl rfl dX4_stepOnce_9 ?_
  refine r_ic K (nI 1) dX4_stepOnce_12 k_1 ?_
  refine r_add K dX4_stepOnce_13 ?_
  refine r_put K h ffX4_49 pfX4_3 0 [_, _, _, _, _, _, _, _, _] [_, _, _, _, _, _, _, _, _, _, _, _, _, _, _, _, _, _, _, _, _] rfl rfl rfl (Nat.le_of_ble_eq_true rfl) rfl rfl dX4_stepOnce_14 (fun H locs h => ?_)
  refine r_aln K hl 2 dX4_stepOnce_17 rfl rfl ?_
  refine r_dup K dX4_stepOnce_18 rfl ?_
  refine r_get K h ffX4_90 13 rfl rfl dX4_stepOnce_19 ?_
  refine r_ic K (nI 1) dX4_stepOnce_22 k_1 ?_
  refine r_add K dX4_stepOnce_23 ?_
  refine r_put K h ffX4_90 pfX0_3 13 [_, _, _, _, _, _, _, _, _, _, _, _] [_, _, _, _, _, _, _, _, _, _, _, _, _, _, _, _, _, _, _, _, _] rfl rfl rfl (Nat.le_of_ble_eq_true rfl) rfl rfl dX4_stepOnce_24 (fun H locs h => ?_)
  have h := h.to (show _ = (soW g a (upd kw 3 (kw 3 + nI 1)) (fv) (fe) (fw) fa (asz) (fx) (hsz) (ti) (pls) (wv) (th) b (upd k 3 (k 3 + nI 1)) (pv) (mv) (ah) (rv) (rs) (rw)) from rfl)
  refine r_aln K hl 2 dX4_stepOnce_27 rfl rfl ?_
  refine r_get K h ffX4_93 13 rfl rfl dX4_stepOnce_28 ?_
  refine r_zeq K 49 dX4_stepOnce_31 (by decide) (fun c => absurd c hk6) (fun c31 => ?_)
  refine r_aln K hl 0 dX4_stepOnce_34 rfl rfl ?_
  refine r_iln K hl 1 dX4_stepOnce_35 rfl rfl ?_
  refine r_aln K hl 2 dX4_stepOnce_36 rfl rfl ?_
  refine r_callVW K h hl (c_X4_writeOut l g a b fa asz hsz (upd kw 3 (kw 3 + nI 1)) fv fe fw fx ti pls wv th (upd k 3 (k 3 + nI 1)) pv mv ah rv rs rw p wr hp hwe hwr) mc_X4_writeOut vm_X4_writeOut mlX4_97 0 rfl rfl rfl rfl [_, _, _, _, _, _, _, _, _, _, _, _, _, _, _, _, _, _, _, _, _] rfl (by decide) (by decide) rfl rfl (Nat.le_of_ble_eq_true rfl) ⟨Nat.zero_le _, Nat.zero_le _⟩ dX4_stepOnce_37 (fun H locs h => ?_)
  refine W.eq (g2 := F0 m 40 ls []) rfl ?_
  refine r_aln K hl 2 dX4_stepOnce_40 rfl rfl ?_
  refine r_ic K (nI 0) dX4_stepOnce_41 k_0 ?_
  refine r_bp K (-9) dX4_stepOnce_42 kb_m9 ?_
  refine r_ic K (nI 0) dX4_stepOnce_44 k_0 ?_
  refine r_callV K h hl (c_X0_become l g b (upd k 3 (k 3 + nI 1)) (pv) (mv) (ah) (rv) (rs) (rw) (nI 0) (-9) (nI 0)) mc_X0_become vm_X0_become mlX4_58 13 rfl rfl rfl [13, 14, 15, 16, 17, 18, 19, 20] (by decide +kernel) rfl rfl [_, _, _, _, _, _, _, _, _, _, _, _, _, _, _, _, _, _, _, _, _] rfl (by decide) (by decide) rfl rfl (Nat.le_of_ble_eq_true rfl) ⟨Nat.zero_le _, Nat.zero_le _⟩ dX4_stepOnce_45 (fun H locs h => ?_)
  refine W.eq (g2 := F0 m 48 ls []) rfl ?_
  exact hr.2 _ _ _ _ dX4_stepOnce_48 h rfl

set_option maxHeartbeats 4000000 in
set_option maxRecDepth 100000 in
theorem c_X4_stepOnce_B (l : Launch) (g : GG) (a b : Nat → Nat) (fa : Nat → Option Nat) (asz hsz : Int32) (kw fv fe fw fx ti pls wv th k pv mv ah rv rs rw : Row) (p : Nat) (hp : p < 4) (hfa : fa p = some (b 0)) (n nc : Nat) (hn : n ≤ 4) (hk6 : k 6 = 0) (hkn : kw 0 = nI n) (hk4 : k 4 = nI nc) (hnc : nc < n) (hlt : nc + 1 < n) : Ct l g yX4_stepOnce cX4_stepOnce 3 none 3 [.ref (a 0), .int (nI p)] (soW g a (kw) (fv) (fe) (fw) fa (asz) (fx) (hsz) (ti) (pls) (wv) (th) b (k) (pv) (mv) (ah) (rv) (rs) (rw)) none (soW g a (upd kw 3 (kw 3 + nI 1)) (fv) (fe) (fw) fa (asz) (fx) (hsz) (ti) (pls) (wv) (th) b (upd (upd k 3 (k 3 + nI 1)) 4 (nI (nc + 1))) (pv) (mv) (ah) (upd rv nc (fv nc)) (upd rs nc (fe nc)) (va_cpy fw rw (nc * 4) (nc * 4) 4)) := by
  refine Ct.start (by decide +kernel) (Nat.le_of_ble_eq_true rfl) (by simp [Value.category]) (Or.inl ⟨rfl, rfl⟩) ?_
  intro p0 e R s m args below meth c A Q K hr h ls hl
  have hl : Lq ls 3 [some (.ref (a 0)), some (.int (nI p)), none] := hl
  refine r_aln K hl 0 dX4_stepOnce_0 rfl rfl ?_
  refine r_get K h ffX4_20 0 rfl rfl dX4_stepOnce_1 ?_
  refine r_iln K hl 1 dX4_stepOnce_4 rfl rfl ?_
  refine r_aal2 K h 5 rfl (by omega) (by decide) hfa dX4_stepOnce_5 ?_
  refine r_asn K hl 2 [_, _, _] dX4_stepOnce_6 rfl (by decide) rfl (fun ls hl => ?_)
  refine r_aln K hl 0 dX4_stepOnce_7 rfl rfl ?_
  refine r_dup K dX4_stepOnce_8 rfl ?_
  refine r_get K h ffX4_49 0 rfl rfl dX4_stepOnce_9 ?_
  refine r_ic K (nI 1) dX4_stepOnce_12 k_1 ?_
  refine r_add K dX4_stepOnce_13 ?_
  refine r_put K h ffX4_49 pfX4_3 0 [_, _, _, _, _, _, _, _, _] [_, _, _, _, _, _, _, _, _, _, _, _, _, _, _, _, _, _, _, _, _] rfl rfl rfl (Nat.le_of_ble_eq_true rfl) rfl rfl dX4_stepOnce_14 (fun H locs h => ?_)
  refine r_aln K hl 2 dX4_stepOnce_17 rfl rfl ?_
  refine r_dup K dX4_stepOnce_18 rfl ?_
  refine r_get K h ffX4_90 13 rfl rfl dX4_stepOnce_19 ?_
  refine r_ic K (nI 1) dX4_stepOnce_22 k_1 ?_
  refine r_add K dX4_stepOnce_23 ?_
  refine r_put K h ffX4_90 pfX0_3 13 [_, _, _, _, _, _, _, _, _, _, _, _] [_, _, _, _, _, _, _, _, _, _, _, _, _, _, _, _, _, _, _, _, _] rfl rfl rfl (Nat.le_of_ble_eq_true rfl) rfl rfl dX4_stepOnce_24 (fun H locs h => ?_)
  have h := h.to (show _ = (soW g a (upd kw 3 (kw 3 + nI 1)) (fv) (fe) (fw) fa (asz) (fx) (hsz) (ti) (pls) (wv) (th) b (upd k 3 (k 3 + nI 1)) (pv) (mv) (ah) (rv) (rs) (rw)) from rfl)
  refine r_aln K hl 2 dX4_stepOnce_27 rfl rfl ?_
  refine r_get K h ffX4_93 13 rfl rfl dX4_stepOnce_28 ?_
  refine r_zeq K 49 dX4_stepOnce_31 (by decide) (fun c31 => ?_) (fun c => absurd c (fun q => q hk6))
  refine r_aln K hl 2 dX4_stepOnce_49 rfl rfl ?_
  refine r_aln K hl 0 dX4_stepOnce_50 rfl rfl ?_
  refine r_get K h ffX4_12 0 rfl rfl dX4_stepOnce_51 ?_
  refine r_callV K h hl (c_X0_readOne l g b (upd k 3 (k 3 + nI 1)) pv mv ah rv rs rw (a 1) (a 2) (a 3) (a 4) fv fe fw nc (by omega) hk4) mc_X0_readOne vm_X0_readOne mlX4_101 13 rfl rfl rfl [13, 14, 15, 16, 17, 18, 19, 20, 1, 2, 3, 4] (by decide +kernel) rfl rfl [_, _, _, _, _, _, _, _, _, _, _, _, _, _, _, _, _, _, _, _, _] rfl (by decide) (by decide) rfl rfl (Nat.le_of_ble_eq_true rfl) ⟨Nat.zero_le _, Nat.zero_le _⟩ dX4_stepOnce_54 (fun H locs h => ?_)
  refine W.eq (g2 := F0 m 57 ls []) rfl ?_
  refine r_aln K hl 2 dX4_stepOnce_57 rfl rfl ?_
  refine r_getE K h ffX4_104 13 rfl rfl (show _ = Value.int (nI (nc + 1)) from rfl) dX4_stepOnce_58 ?_
  refine r_aln K hl 0 dX4_stepOnce_61 rfl rfl ?_
  refine r_getE K h ffX4_39 0 rfl rfl (congrArg Value.int hkn) dX4_stepOnce_62 ?_
  refine r_cgeN K 69 dX4_stepOnce_65 (by decide) (by omega) (by omega) (fun c => absurd c (by omega)) (fun c65 => ?_)
  exact hr.2 _ _ _ _ dX4_stepOnce_68 h rfl

set_option maxHeartbeats 4000000 in
set_option maxRecDepth 100000 in
theorem c_X4_stepOnce_C0 (l : Launch) (g : GG) (a b : Nat → Nat) (fa : Nat → Option Nat) (asz hsz : Int32) (kw fv fe fw fx ti pls wv th k pv mv ah rv rs rw : Row) (p : Nat) (hp : p < 4) (hfa : fa p = some (b 0)) (n nc : Nat) (hn : n ≤ 4) (hk6 : k 6 = 0) (hkn : kw 0 = nI n) (hk4 : k 4 = nI nc) (hnc : nc < n) (wh : Nat) (heq : nc + 1 = n) (hk5 : k 5 = nI wh) (hwl : wh < 1000) (hw : wh = 0) : Ct l g yX4_stepOnce cX4_stepOnce 3 none 3 [.ref (a 0), .int (nI p)] (soW g a (kw) (fv) (fe) (fw) fa (asz) (fx) (hsz) (ti) (pls) (wv) (th) b (k) (pv) (mv) (ah) (rv) (rs) (rw)) none (soW g a (upd kw 3 (kw 3 + nI 1)) (fv) (fe) (fw) fa (asz) (fx) (hsz) (ti) (pls) (wv) (th) b (upd (upd (upd (upd k 3 (k 3 + nI 1)) 4 (nI (nc + 1))) 4 (nI 0)) 5 (nI (wh + 1))) (pv) (mv) (upd rs nc (fe nc)) (upd rv nc (fv nc)) (upd rs nc (fe nc)) (va_cpy fw rw (nc * 4) (nc * 4) 4)) := by
  refine Ct.start (by decide +kernel) (Nat.le_of_ble_eq_true rfl) (by simp [Value.category]) (Or.inl ⟨rfl, rfl⟩) ?_
  intro p0 e R s m args below meth c A Q K hr h ls hl
  have hl : Lq ls 3 [some (.ref (a 0)), some (.int (nI p)), none] := hl
  refine r_aln K hl 0 dX4_stepOnce_0 rfl rfl ?_
  refine r_get K h ffX4_20 0 rfl rfl dX4_stepOnce_1 ?_
  refine r_iln K hl 1 dX4_stepOnce_4 rfl rfl ?_
  refine r_aal2 K h 5 rfl (by omega) (by decide) hfa dX4_stepOnce_5 ?_
  refine r_asn K hl 2 [_, _, _] dX4_stepOnce_6 rfl (by decide) rfl (fun ls hl => ?_)
  refine r_aln K hl 0 dX4_stepOnce_7 rfl rfl ?_
  refine r_dup K dX4_stepOnce_8 rfl ?_
  refine r_get K h ffX4_49 0 rfl rfl dX4_stepOnce_9 ?_
  refine r_ic K (nI 1) dX4_stepOnce_12 k_1 ?_
  refine r_add K dX4_stepOnce_13 ?_
  refine r_put K h ffX4_49 pfX4_3 0 [_, _, _, _, _, _, _, _, _] [_, _, _, _, _, _, _, _, _, _, _, _, _, _, _, _, _, _, _, _, _] rfl rfl rfl (Nat.le_of_ble_eq_true rfl) rfl rfl dX4_stepOnce_14 (fun H locs h => ?_)
  refine r_aln K hl 2 dX4_stepOnce_17 rfl rfl ?_
  refine r_dup K dX4_stepOnce_18 rfl ?_
  refine r_get K h ffX4_90 13 rfl rfl dX4_stepOnce_19 ?_
  refine r_ic K (nI 1) dX4_stepOnce_22 k_1 ?_
  refine r_add K dX4_stepOnce_23 ?_
  refine r_put K h ffX4_90 pfX0_3 13 [_, _, _, _, _, _, _, _, _, _, _, _] [_, _, _, _, _, _, _, _, _, _, _, _, _, _, _, _, _, _, _, _, _] rfl rfl rfl (Nat.le_of_ble_eq_true rfl) rfl rfl dX4_stepOnce_24 (fun H locs h => ?_)
  have h := h.to (show _ = (soW g a (upd kw 3 (kw 3 + nI 1)) (fv) (fe) (fw) fa (asz) (fx) (hsz) (ti) (pls) (wv) (th) b (upd k 3 (k 3 + nI 1)) (pv) (mv) (ah) (rv) (rs) (rw)) from rfl)
  refine r_aln K hl 2 dX4_stepOnce_27 rfl rfl ?_
  refine r_get K h ffX4_93 13 rfl rfl dX4_stepOnce_28 ?_
  refine r_zeq K 49 dX4_stepOnce_31 (by decide) (fun c31 => ?_) (fun c => absurd c (fun q => q hk6))
  refine r_aln K hl 2 dX4_stepOnce_49 rfl rfl ?_
  refine r_aln K hl 0 dX4_stepOnce_50 rfl rfl ?_
  refine r_get K h ffX4_12 0 rfl rfl dX4_stepOnce_51 ?_
  refine r_callV K h hl (c_X0_readOne l g b (upd k 3 (k 3 + nI 1)) pv mv ah rv rs rw (a 1) (a 2) (a 3) (a 4) fv fe fw nc (by omega) hk4) mc_X0_readOne vm_X0_readOne mlX4_101 13 rfl rfl rfl [13, 14, 15, 16, 17, 18, 19, 20, 1, 2, 3, 4] (by decide +kernel) rfl rfl [_, _, _, _, _, _, _, _, _, _, _, _, _, _, _, _, _, _, _, _, _] rfl (by decide) (by decide) rfl rfl (Nat.le_of_ble_eq_true rfl) ⟨Nat.zero_le _, Nat.zero_le _⟩ dX4_stepOnce_54 (fun H locs h => ?_)
  refine W.eq (g2 := F0 m 57 ls []) rfl ?_
  refine r_aln K hl 2 dX4_stepOnce_57 rfl rfl ?_
  refine r_getE K h ffX4_104 13 rfl rfl (show _ = Value.int (nI (nc + 1)) from rfl) dX4_stepOnce_58 ?_
  refine r_aln K hl 0 dX4_stepOnce_61 rfl rfl ?_
  refine r_getE K h ffX4_39 0 rfl rfl (congrArg Value.int hkn) dX4_stepOnce_62 ?_
  refine r_cgeN K 69 dX4_stepOnce_65 (by decide) (by omega) (by omega) (fun c65 => ?_) (fun c => absurd c (by omega))
  refine r_aln K hl 2 dX4_stepOnce_69 rfl rfl ?_
  refine r_aln K hl 0 dX4_stepOnce_70 rfl rfl ?_
  refine r_getE K h ffX4_39 0 rfl rfl (congrArg Value.int hkn) dX4_stepOnce_71 ?_
  refine r_aln K hl 0 dX4_stepOnce_74 rfl rfl ?_
  refine r_get K h ffX4_43 0 rfl rfl dX4_stepOnce_75 ?_
  refine r_callV K h hl (c_X0_endCollect_0 l g b (upd (upd k 3 (k 3 + nI 1)) 4 (nI (nc + 1))) pv mv ah (upd rv nc (fv nc)) (upd rs nc (fe nc)) (va_cpy fw rw (nc * 4) (nc * 4) 4) n wh (kw 1) hn hk5 hwl hw) mc_X0_endCollect vm_X0_endCollect mlX4_107 13 rfl rfl rfl [13, 14, 15, 16, 17, 18, 19, 20] (by decide +kernel) rfl rfl [_, _, _, _, _, _, _, _, _, _, _, _, _, _, _, _, _, _, _, _, _] rfl (by decide) (by decide) rfl rfl (Nat.le_of_ble_eq_true rfl) ⟨Nat.zero_le _, Nat.zero_le _⟩ dX4_stepOnce_78 (fun H locs h => ?_)
  refine W.eq (g2 := F0 m 81 ls []) rfl ?_
  refine r_aln K hl 2 dX4_stepOnce_81 rfl rfl ?_
  refine r_getE K h ffX4_93 13 rfl rfl (show _ = Value.int (k 6) from rfl) dX4_stepOnce_82 ?_
  refine r_zeq K 116 dX4_stepOnce_85 (by decide) (fun c85 => ?_) (fun c => absurd c (fun q => q hk6))
  refine r_aln K hl 2 dX4_stepOnce_116 rfl rfl ?_
  refine r_getE K h ffX4_93 13 rfl rfl (show _ = Value.int (k 6) from rfl) dX4_stepOnce_117 ?_
  refine r_zeq K 139 dX4_stepOnce_120 (by decide) (fun c120 => ?_) (fun c => absurd c (fun q => q hk6))
  exact hr.2 _ _ _ _ dX4_stepOnce_139 h rfl

set_option maxHeartbeats 4000000 in
set_option maxRecDepth 100000 in
theorem c_X4_stepOnce_Cn (l : Launch) (g : GG) (a b : Nat → Nat) (fa : Nat → Option Nat) (asz hsz : Int32) (kw fv fe fw fx ti pls wv th k pv mv ah rv rs rw : Row) (p : Nat) (hp : p < 4) (hfa : fa p = some (b 0)) (n nc : Nat) (hn : n ≤ 4) (hk6 : k 6 = 0) (hkn : kw 0 = nI n) (hk4 : k 4 = nI nc) (hnc : nc < n) (wh : Nat) (heq : nc + 1 = n) (hk5 : k 5 = nI wh) (hwl : wh < 1000) (hw : 1 ≤ wh) (hany : cAny (upd rs nc (fe nc)) ah n = true) (hq : cLow (cMv mv (upd rs nc (fe nc)) ah n) (kw 1) 0 n = none) : Ct l g yX4_stepOnce cX4_stepOnce 3 none 3 [.ref (a 0), .int (nI p)] (soW g a (kw) (fv) (fe) (fw) fa (asz) (fx) (hsz) (ti) (pls) (wv) (th) b (k) (pv) (mv) (ah) (rv) (rs) (rw)) none (soW g a (upd kw 3 (kw 3 + nI 1)) (fv) (fe) (fw) fa (asz) (fx) (hsz) (ti) (pls) (wv) (th) b (upd (upd (upd (upd k 3 (k 3 + nI 1)) 4 (nI (nc + 1))) 4 (nI 0)) 5 (nI (wh + 1))) (pv) (cMv mv (upd rs nc (fe nc)) ah n) (upd rs nc (fe nc)) (upd rv nc (fv nc)) (upd rs nc (fe nc)) (va_cpy fw rw (nc * 4) (nc * 4) 4)) := by
  refine Ct.start (by decide +kernel) (Nat.le_of_ble_eq_true rfl) (by simp [Value.category]) (Or.inl ⟨rfl, rfl⟩) ?_
  intro p0 e R s m args below meth c A Q K hr h ls hl
  have hl : Lq ls 3 [some (.ref (a 0)), some (.int (nI p)), none] := hl
  refine r_aln K hl 0 dX4_stepOnce_0 rfl rfl ?_
  refine r_get K h ffX4_20 0 rfl rfl dX4_stepOnce_1 ?_
  refine r_iln K hl 1 dX4_stepOnce_4 rfl rfl ?_
  refine r_aal2 K h 5 rfl (by omega) (by decide) hfa dX4_stepOnce_5 ?_
  refine r_asn K hl 2 [_, _, _] dX4_stepOnce_6 rfl (by decide) rfl (fun ls hl => ?_)
  refine r_aln K hl 0 dX4_stepOnce_7 rfl rfl ?_
  refine r_dup K dX4_stepOnce_8 rfl ?_
  refine r_get K h ffX4_49 0 rfl rfl dX4_stepOnce_9 ?_
  refine r_ic K (nI 1) dX4_stepOnce_12 k_1 ?_
  refine r_add K dX4_stepOnce_13 ?_
  refine r_put K h ffX4_49 pfX4_3 0 [_, _, _, _, _, _, _, _, _] [_, _, _, _, _, _, _, _, _, _, _, _, _, _, _, _, _, _, _, _, _] rfl rfl rfl (Nat.le_of_ble_eq_true rfl) rfl rfl dX4_stepOnce_14 (fun H locs h => ?_)
  refine r_aln K hl 2 dX4_stepOnce_17 rfl rfl ?_
  refine r_dup K dX4_stepOnce_18 rfl ?_
  refine r_get K h ffX4_90 13 rfl rfl dX4_stepOnce_19 ?_
  refine r_ic K (nI 1) dX4_stepOnce_22 k_1 ?_
  refine r_add K dX4_stepOnce_23 ?_
  refine r_put K h ffX4_90 pfX0_3 13 [_, _, _, _, _, _, _, _, _, _, _, _] [_, _, _, _, _, _, _, _, _, _, _, _, _, _, _, _, _, _, _, _, _] rfl rfl rfl (Nat.le_of_ble_eq_true rfl) rfl rfl dX4_stepOnce_24 (fun H locs h => ?_)
  have h := h.to (show _ = (soW g a (upd kw 3 (kw 3 + nI 1)) (fv) (fe) (fw) fa (asz) (fx) (hsz) (ti) (pls) (wv) (th) b (upd k 3 (k 3 + nI 1)) (pv) (mv) (ah) (rv) (rs) (rw)) from rfl)
  refine r_aln K hl 2 dX4_stepOnce_27 rfl rfl ?_
  refine r_get K h ffX4_93 13 rfl rfl dX4_stepOnce_28 ?_
  refine r_zeq K 49 dX4_stepOnce_31 (by decide) (fun c31 => ?_) (fun c => absurd c (fun q => q hk6))
  refine r_aln K hl 2 dX4_stepOnce_49 rfl rfl ?_
  refine r_aln K hl 0 dX4_stepOnce_50 rfl rfl ?_
  refine r_get K h ffX4_12 0 rfl rfl dX4_stepOnce_51 ?_
  refine r_callV K h hl (c_X0_readOne l g b (upd k 3 (k 3 + nI 1)) pv mv ah rv rs rw (a 1) (a 2) (a 3) (a 4) fv fe fw nc (by omega) hk4) mc_X0_readOne vm_X0_readOne mlX4_101 13 rfl rfl rfl [13, 14, 15, 16, 17, 18, 19, 20, 1, 2, 3, 4] (by decide +kernel) rfl rfl [_, _, _, _, _, _, _, _, _, _, _, _, _, _, _, _, _, _, _, _, _] rfl (by decide) (by decide) rfl rfl (Nat.le_of_ble_eq_true rfl) ⟨Nat.zero_le _, Nat.zero_le _⟩ dX4_stepOnce_54 (fun H locs h => ?_)
  refine W.eq (g2 := F0 m 57 ls []) rfl ?_
  refine r_aln K hl 2 dX4_stepOnce_57 rfl rfl ?_
  refine r_getE K h ffX4_104 13 rfl rfl (show _ = Value.int (nI (nc + 1)) from rfl) dX4_stepOnce_58 ?_
  refine r_aln K hl 0 dX4_stepOnce_61 rfl rfl ?_
  refine r_getE K h ffX4_39 0 rfl rfl (congrArg Value.int hkn) dX4_stepOnce_62 ?_
  refine r_cgeN K 69 dX4_stepOnce_65 (by decide) (by omega) (by omega) (fun c65 => ?_) (fun c => absurd c (by omega))
  refine r_aln K hl 2 dX4_stepOnce_69 rfl rfl ?_
  refine r_aln K hl 0 dX4_stepOnce_70 rfl rfl ?_
  refine r_getE K h ffX4_39 0 rfl rfl (congrArg Value.int hkn) dX4_stepOnce_71 ?_
  refine r_aln K hl 0 dX4_stepOnce_74 rfl rfl ?_
  refine r_get K h ffX4_43 0 rfl rfl dX4_stepOnce_75 ?_
  refine r_callV K h hl (c_X0_endCollect_n l g b (upd (upd k 3 (k 3 + nI 1)) 4 (nI (nc + 1))) pv mv ah (upd rv nc (fv nc)) (upd rs nc (fe nc)) (va_cpy fw rw (nc * 4) (nc * 4) 4) n wh (kw 1) hn hk5 hwl hw hany hq) mc_X0_endCollect vm_X0_endCollect mlX4_107 13 rfl rfl rfl [13, 14, 15, 16, 17, 18, 19, 20] (by decide +kernel) rfl rfl [_, _, _, _, _, _, _, _, _, _, _, _, _, _, _, _, _, _, _, _, _] rfl (by decide) (by decide) rfl rfl (Nat.le_of_ble_eq_true rfl) ⟨Nat.zero_le _, Nat.zero_le _⟩ dX4_stepOnce_78 (fun H locs h => ?_)
  refine W.eq (g2 := F0 m 81 ls []) rfl ?_
  refine r_aln K hl 2 dX4_stepOnce_81 rfl rfl ?_
  refine r_getE K h ffX4_93 13 rfl rfl (show _ = Value.int (k 6) from rfl) dX4_stepOnce_82 ?_
  refine r_zeq K 116 dX4_stepOnce_85 (by decide) (fun c85 => ?_) (fun c => absurd c (fun q => q hk6))
  refine r_aln K hl 2 dX4_stepOnce_116 rfl rfl ?_
  refine r_getE K h ffX4_93 13 rfl rfl (show _ = Value.int (k 6) from rfl) dX4_stepOnce_117 ?_
  refine r_zeq K 139 dX4_stepOnce_120 (by decide) (fun c120 => ?_) (fun c => absurd c (fun q => q hk6))
  exact hr.2 _ _ _ _ dX4_stepOnce_139 h rfl

set_option maxHeartbeats 4000000 in
set_option maxRecDepth 100000 in
theorem c_X4_stepOnce_Tv1 (l : Launch) (g : GG) (a b : Nat → Nat) (fa : Nat → Option Nat) (asz hsz : Int32) (kw fv fe fw fx ti pls wv th k pv mv ah rv rs rw : Row) (p : Nat) (hp : p < 4) (hfa : fa p = some (b 0)) (n nc : Nat) (hn : n ≤ 4) (hk6 : k 6 = 0) (hkn : kw 0 = nI n) (hk4 : k 4 = nI nc) (hnc : nc < n) (wh : Nat) (heq : nc + 1 = n) (hk5 : k 5 = nI wh) (hwl : wh < 1000) (ph wr : Nat) (pl : Nat → Nat) (hpe : asz = nI ph) (hph : ph ≤ 24) (hwe : hsz = nI wr) (hwr : wr ≤ 24) (hpl : ∀ i, i < wr → pls i = nI (pl i) ∧ pl i < 4) (hw : 1 ≤ wh) (hany : cAny (upd rs nc (fe nc)) ah n = false) (hk0 : k 0 = nI 1) : Ct l g yX4_stepOnce cX4_stepOnce 3 none 3 [.ref (a 0), .int (nI p)] (soW g a (kw) (fv) (fe) (fw) fa (asz) (fx) (hsz) (ti) (pls) (wv) (th) b (k) (pv) (mv) (ah) (rv) (rs) (rw)) none (soW g a (upd kw 3 (kw 3 + nI 1)) (fv) (fe) (fw) fa (nI (up1 (decide (ph < 24)) ph)) (bif decide (ph < 24) then cFa fx ph (nI p) (upd (upd (upd (upd (upd (upd k 3 (k 3 + nI 1)) 4 (nI (nc + 1))) 4 (nI 0)) 5 (nI (wh + 1))) 7 (-9)) 6 (nI 1)) (kw 3 + nI 1) (cMom ti pl wv (upd rv nc (fv nc)) (k 2) wr).1 (upd rv nc (fv nc)) else fx) (hsz) (ti) (pls) (wv) (thK pl wv (cMom ti pl wv (upd rv nc (fv nc)) (k 2) wr).2) b (kB (nI 0) (-9) (nI 0)) (z0) (z0) (z0) (z0) (z0) (z0)) := by
  refine Ct.start (by decide +kernel) (Nat.le_of_ble_eq_true rfl) (by simp [Value.category]) (Or.inl ⟨rfl, rfl⟩) ?_
  intro p0 e R s m args below meth c A Q K hr h ls hl
  have hl : Lq ls 3 [some (.ref (a 0)), some (.int (nI p)), none] := hl
  subst hpe
  subst hwe
  refine r_aln K hl 0 dX4_stepOnce_0 rfl rfl ?_
  refine r_get K h ffX4_20 0 rfl rfl dX4_stepOnce_1 ?_
  refine r_iln K hl 1 dX4_stepOnce_4 rfl rfl ?_
  refine r_aal2 K h 5 rfl (by omega) (by decide) hfa dX4_stepOnce_5 ?_
  refine r_asn K hl 2 [_, _, _] dX4_stepOnce_6 rfl (by decide) rfl (fun ls hl => ?_)
  refine r_aln K hl 0 dX4_stepOnce_7 rfl rfl ?_
  refine r_dup K dX4_stepOnce_8 rfl ?_
  refine r_get K h ffX4_49 0 rfl rfl dX4_stepOnce_9 ?_
  refine r_ic K (nI 1) dX4_stepOnce_12 k_1 ?_
  refine r_add K dX4_stepOnce_13 ?_
  refine r_put K h ffX4_49 pfX4_3 0 [_, _, _, _, _, _, _, _, _] [_, _, _, _, _, _, _, _, _, _, _, _, _, _, _, _, _, _, _, _, _] rfl rfl rfl (Nat.le_of_ble_eq_true rfl) rfl rfl dX4_stepOnce_14 (fun H locs h => ?_)
  refine r_aln K hl 2 dX4_stepOnce_17 rfl rfl ?_
  refine r_dup K dX4_stepOnce_18 rfl ?_
  refine r_get K h ffX4_90 13 rfl rfl dX4_stepOnce_19 ?_
  refine r_ic K (nI 1) dX4_stepOnce_22 k_1 ?_
  refine r_add K dX4_stepOnce_23 ?_
  refine r_put K h ffX4_90 pfX0_3 13 [_, _, _, _, _, _, _, _, _, _, _, _] [_, _, _, _, _, _, _, _, _, _, _, _, _, _, _, _, _, _, _, _, _] rfl rfl rfl (Nat.le_of_ble_eq_true rfl) rfl rfl dX4_stepOnce_24 (fun H locs h => ?_)
  have h := h.to (show _ = (soW g a (upd kw 3 (kw 3 + nI 1)) (fv) (fe) (fw) fa (nI ph) (fx) (nI wr) (ti) (pls) (wv) (th) b (upd k 3 (k 3 + nI 1)) (pv) (mv) (ah) (rv) (rs) (rw)) from rfl)
  refine r_aln K hl 2 dX4_stepOnce_27 rfl rfl ?_
  refine r_get K h ffX4_93 13 rfl rfl dX4_stepOnce_28 ?_
  refine r_zeq K 49 dX4_stepOnce_31 (by decide) (fun c31 => ?_) (fun c => absurd c (fun q => q hk6))
  refine r_aln K hl 2 dX4_stepOnce_49 rfl rfl ?_
  refine r_aln K hl 0 dX4_stepOnce_50 rfl rfl ?_
  refine r_get K h ffX4_12 0 rfl rfl dX4_stepOnce_51 ?_
  refine r_callV K h hl (c_X0_readOne l g b (upd k 3 (k 3 + nI 1)) pv mv ah rv rs rw (a 1) (a 2) (a 3) (a 4) fv fe fw nc (by omega) hk4) mc_X0_readOne vm_X0_readOne mlX4_101 13 rfl rfl rfl [13, 14, 15, 16, 17, 18, 19, 20, 1, 2, 3, 4] (by decide +kernel) rfl rfl [_, _, _, _, _, _, _, _, _, _, _, _, _, _, _, _, _, _, _, _, _] rfl (by decide) (by decide) rfl rfl (Nat.le_of_ble_eq_true rfl) ⟨Nat.zero_le _, Nat.zero_le _⟩ dX4_stepOnce_54 (fun H locs h => ?_)
  refine W.eq (g2 := F0 m 57 ls []) rfl ?_
  refine r_aln K hl 2 dX4_stepOnce_57 rfl rfl ?_
  refine r_getE K h ffX4_104 13 rfl rfl (show _ = Value.int (nI (nc + 1)) from rfl) dX4_stepOnce_58 ?_
  refine r_aln K hl 0 dX4_stepOnce_61 rfl rfl ?_
  refine r_getE K h ffX4_39 0 rfl rfl (congrArg Value.int hkn) dX4_stepOnce_62 ?_
  refine r_cgeN K 69 dX4_stepOnce_65 (by decide) (by omega) (by omega) (fun c65 => ?_) (fun c => absurd c (by omega))
  refine r_aln K hl 2 dX4_stepOnce_69 rfl rfl ?_
  refine r_aln K hl 0 dX4_stepOnce_70 rfl rfl ?_
  refine r_getE K h ffX4_39 0 rfl rfl (congrArg Value.int hkn) dX4_stepOnce_71 ?_
  refine r_aln K hl 0 dX4_stepOnce_74 rfl rfl ?_
  refine r_get K h ffX4_43 0 rfl rfl dX4_stepOnce_75 ?_
  refine r_callV K h hl (c_X0_endCollect_v l g b (upd (upd k 3 (k 3 + nI 1)) 4 (nI (nc + 1))) pv mv ah (upd rv nc (fv nc)) (upd rs nc (fe nc)) (va_cpy fw rw (nc * 4) (nc * 4) 4) n wh (kw 1) hn hk5 hwl hw hany) mc_X0_endCollect vm_X0_endCollect mlX4_107 13 rfl rfl rfl [13, 14, 15, 16, 17, 18, 19, 20] (by decide +kernel) rfl rfl [_, _, _, _, _, _, _, _, _, _, _, _, _, _, _, _, _, _, _, _, _] rfl (by decide) (by decide) rfl rfl (Nat.le_of_ble_eq_true rfl) ⟨Nat.zero_le _, Nat.zero_le _⟩ dX4_stepOnce_78 (fun H locs h => ?_)
  refine W.eq (g2 := F0 m 81 ls []) rfl ?_
  refine r_aln K hl 2 dX4_stepOnce_81 rfl rfl ?_
  refine r_getE K h ffX4_93 13 rfl rfl (show _ = Value.int (nI 1) from rfl) dX4_stepOnce_82 ?_
  refine r_zeq K 116 dX4_stepOnce_85 (by decide) (fun c => absurd c (by decide)) (fun c85 => ?_)
  refine r_aln K hl 0 dX4_stepOnce_88 rfl rfl ?_
  refine r_get K h ffX4_27 0 rfl rfl dX4_stepOnce_89 ?_
  refine r_iln K hl 1 dX4_stepOnce_92 rfl rfl ?_
  refine r_aln K hl 2 dX4_stepOnce_93 rfl rfl ?_
  refine r_aln K hl 0 dX4_stepOnce_94 rfl rfl ?_
  refine r_getE K h ffX4_49 0 rfl rfl (show _ = Value.int (kw 3 + nI 1) from rfl) dX4_stepOnce_95 ?_
  refine r_aln K hl 0 dX4_stepOnce_98 rfl rfl ?_
  refine r_get K h ffX4_34 0 rfl rfl dX4_stepOnce_99 ?_
  refine r_aln K hl 2 dX4_stepOnce_102 rfl rfl ?_
  refine r_get K h ffX4_111 13 rfl rfl dX4_stepOnce_103 ?_
  refine r_aln K hl 2 dX4_stepOnce_106 rfl rfl ?_
  refine r_getE K h ffX4_115 13 rfl rfl (show _ = Value.int (k 2) from rfl) dX4_stepOnce_107 ?_
  refine r_callV K h hl (c_X3_momentOf l g (a 40) (a 41) (a 42) (a 43) (a 44) ti pls wv th (b 1) (upd rv nc (fv nc)) (k 2) wr pl hwr hpl) mc_X3_momentOf vm_X3_momentOf mlX4_118 8 rfl rfl rfl [8, 9, 10, 11, 12, 14] (by decide +kernel) rfl rfl [_, _, _, _, _, _, _, _, _, _, _, _, _, _, _, _, _, _, _, _, _] rfl (by decide) (by decide) rfl rfl (Nat.le_of_ble_eq_true rfl) ⟨Nat.zero_le _, Nat.zero_le _⟩ dX4_stepOnce_110 (fun H locs h => ?_)
  refine W.eq (g2 := F0 m 113 ls [_, _, _, _, _]) rfl ?_
  refine r_callV K h hl (c_X1_add l g (a 38) (a 39) b fx (upd (upd (upd (upd (upd (upd k 3 (k 3 + nI 1)) 4 (nI (nc + 1))) 4 (nI 0)) 5 (nI (wh + 1))) 7 (-9)) 6 (nI 1)) (upd rv nc (fv nc)) (nI p) (kw 3 + nI 1) (cMom ti pl wv (upd rv nc (fv nc)) (k 2) wr).1 ph hph) mc_X1_add vm_X1_add mlX4_122 6 rfl rfl rfl [6, 7, 13, 14] (by decide +kernel) rfl rfl [_, _, _, _, _, _, _, _, _, _, _, _, _, _, _, _, _, _, _, _, _] rfl (by decide) (by decide) rfl rfl (Nat.le_of_ble_eq_true rfl) ⟨Nat.zero_le _, Nat.zero_le _⟩ dX4_stepOnce_113 (fun H locs h => ?_)
  refine W.eq (g2 := F0 m 116 ls []) rfl ?_
  refine r_aln K hl 2 dX4_stepOnce_116 rfl rfl ?_
  refine r_getE K h ffX4_93 13 rfl rfl (show _ = Value.int (nI 1) from rfl) dX4_stepOnce_117 ?_
  refine r_zeq K 139 dX4_stepOnce_120 (by decide) (fun c => absurd c (by decide)) (fun c120 => ?_)
  refine r_aln K hl 2 dX4_stepOnce_123 rfl rfl ?_
  refine r_getE K h ffX4_79 13 rfl rfl (show _ = Value.int (k 0) from rfl) dX4_stepOnce_124 ?_
  refine r_ic K (nI 1) dX4_stepOnce_127 k_1 ?_
  refine r_cne K 139 dX4_stepOnce_128 (by decide) (fun c => absurd hk0 c) (fun c128 => ?_)
  refine r_aln K hl 2 dX4_stepOnce_131 rfl rfl ?_
  refine r_ic K (nI 0) dX4_stepOnce_132 k_0 ?_
  refine r_bp K (-9) dX4_stepOnce_133 kb_m9 ?_
  refine r_ic K (nI 0) dX4_stepOnce_135 k_0 ?_
  refine r_callV K h hl (c_X0_become l g b (upd (upd (upd (upd (upd (upd k 3 (k 3 + nI 1)) 4 (nI (nc + 1))) 4 (nI 0)) 5 (nI (wh + 1))) 7 (-9)) 6 (nI 1)) (upd rv nc (fv nc)) (cMv mv (upd rs nc (fe nc)) ah n) (upd rs nc (fe nc)) (upd rv nc (fv nc)) (upd rs nc (fe nc)) (va_cpy fw rw (nc * 4) (nc * 4) 4) (nI 0) (-9) (nI 0)) mc_X0_become vm_X0_become mlX4_58 13 rfl rfl rfl [13, 14, 15, 16, 17, 18, 19, 20] (by decide +kernel) rfl rfl [_, _, _, _, _, _, _, _, _, _, _, _, _, _, _, _, _, _, _, _, _] rfl (by decide) (by decide) rfl rfl (Nat.le_of_ble_eq_true rfl) ⟨Nat.zero_le _, Nat.zero_le _⟩ dX4_stepOnce_136 (fun H locs h => ?_)
  refine W.eq (g2 := F0 m 139 ls []) rfl ?_
  exact hr.2 _ _ _ _ dX4_stepOnce_139 h rfl

set_option maxHeartbeats 4000000 in
set_option maxRecDepth 100000 in
theorem c_X4_stepOnce_Tv2 (l : Launch) (g : GG) (a b : Nat → Nat) (fa : Nat → Option Nat) (asz hsz : Int32) (kw fv fe fw fx ti pls wv th k pv mv ah rv rs rw : Row) (p : Nat) (hp : p < 4) (hfa : fa p = some (b 0)) (n nc : Nat) (hn : n ≤ 4) (hk6 : k 6 = 0) (hkn : kw 0 = nI n) (hk4 : k 4 = nI nc) (hnc : nc < n) (wh : Nat) (heq : nc + 1 = n) (hk5 : k 5 = nI wh) (hwl : wh < 1000) (ph wr : Nat) (pl : Nat → Nat) (hpe : asz = nI ph) (hph : ph ≤ 24) (hwe : hsz = nI wr) (hwr : wr ≤ 24) (hpl : ∀ i, i < wr → pls i = nI (pl i) ∧ pl i < 4) (hw : 1 ≤ wh) (hany : cAny (upd rs nc (fe nc)) ah n = false) (hk0 : ¬ k 0 = nI 1) : Ct l g yX4_stepOnce cX4_stepOnce 3 none 3 [.ref (a 0), .int (nI p)] (soW g a (kw) (fv) (fe) (fw) fa (asz) (fx) (hsz) (ti) (pls) (wv) (th) b (k) (pv) (mv) (ah) (rv) (rs) (rw)) none (soW g a (upd kw 3 (kw 3 + nI 1)) (fv) (fe) (fw) fa (nI (up1 (decide (ph < 24)) ph)) (bif decide (ph < 24) then cFa fx ph (nI p) (upd (upd (upd (upd (upd (upd k 3 (k 3 + nI 1)) 4 (nI (nc + 1))) 4 (nI 0)) 5 (nI (wh + 1))) 7 (-9)) 6 (nI 1)) (kw 3 + nI 1) (cMom ti pl wv (upd rv nc (fv nc)) (k 2) wr).1 (upd rv nc (fv nc)) else fx) (hsz) (ti) (pls) (wv) (thK pl wv (cMom ti pl wv (upd rv nc (fv nc)) (k 2) wr).2) b (upd (upd (upd (upd (upd (upd k 3 (k 3 + nI 1)) 4 (nI (nc + 1))) 4 (nI 0)) 5 (nI (wh + 1))) 7 (-9)) 6 (nI 1)) (upd rv nc (fv nc)) (cMv mv (upd rs nc (fe nc)) ah n) (upd rs nc (fe nc)) (upd rv nc (fv nc)) (upd rs nc (fe nc)) (va_cpy fw rw (nc * 4) (nc * 4) 4)) := by
  refine Ct.start (by decide +kernel) (Nat.le_of_ble_eq_true rfl) (by simp [Value.category]) (Or.inl ⟨rfl, rfl⟩) ?_
  intro p0 e R s m args below meth c A Q K hr h ls hl
  have hl : Lq ls 3 [some (.ref (a 0)), some (.int (nI p)), none] := hl
  subst hpe
  subst hwe
  refine r_aln K hl 0 dX4_stepOnce_0 rfl rfl ?_
  refine r_get K h ffX4_20 0 rfl rfl dX4_stepOnce_1 ?_
  refine r_iln K hl 1 dX4_stepOnce_4 rfl rfl ?_
  refine r_aal2 K h 5 rfl (by omega) (by decide) hfa dX4_stepOnce_5 ?_
  refine r_asn K hl 2 [_, _, _] dX4_stepOnce_6 rfl (by decide) rfl (fun ls hl => ?_)
  refine r_aln K hl 0 dX4_stepOnce_7 rfl rfl ?_
  refine r_dup K dX4_stepOnce_8 rfl ?_
  refine r_get K h ffX4_49 0 rfl rfl dX4_stepOnce_9 ?_
  refine r_ic K (nI 1) dX4_stepOnce_12 k_1 ?_
  refine r_add K dX4_stepOnce_13 ?_
  refine r_put K h ffX4_49 pfX4_3 0 [_, _, _, _, _, _, _, _, _] [_, _, _, _, _, _, _, _, _, _, _, _, _, _, _, _, _, _, _, _, _] rfl rfl rfl (Nat.le_of_ble_eq_true rfl) rfl rfl dX4_stepOnce_14 (fun H locs h => ?_)
  refine r_aln K hl 2 dX4_stepOnce_17 rfl rfl ?_
  refine r_dup K dX4_stepOnce_18 rfl ?_
  refine r_get K h ffX4_90 13 rfl rfl dX4_stepOnce_19 ?_
  refine r_ic K (nI 1) dX4_stepOnce_22 k_1 ?_
  refine r_add K dX4_stepOnce_23 ?_
  refine r_put K h ffX4_90 pfX0_3 13 [_, _, _, _, _, _, _, _, _, _, _, _] [_, _, _, _, _, _, _, _, _, _, _, _, _, _, _, _, _, _, _, _, _] rfl rfl rfl (Nat.le_of_ble_eq_true rfl) rfl rfl dX4_stepOnce_24 (fun H locs h => ?_)
  have h := h.to (show _ = (soW g a (upd kw 3 (kw 3 + nI 1)) (fv) (fe) (fw) fa (nI ph) (fx) (nI wr) (ti) (pls) (wv) (th) b (upd k 3 (k 3 + nI 1)) (pv) (mv) (ah) (rv) (rs) (rw)) from rfl)
  refine r_aln K hl 2 dX4_stepOnce_27 rfl rfl ?_
  refine r_get K h ffX4_93 13 rfl rfl dX4_stepOnce_28 ?_
  refine r_zeq K 49 dX4_stepOnce_31 (by decide) (fun c31 => ?_) (fun c => absurd c (fun q => q hk6))
  refine r_aln K hl 2 dX4_stepOnce_49 rfl rfl ?_
  refine r_aln K hl 0 dX4_stepOnce_50 rfl rfl ?_
  refine r_get K h ffX4_12 0 rfl rfl dX4_stepOnce_51 ?_
  refine r_callV K h hl (c_X0_readOne l g b (upd k 3 (k 3 + nI 1)) pv mv ah rv rs rw (a 1) (a 2) (a 3) (a 4) fv fe fw nc (by omega) hk4) mc_X0_readOne vm_X0_readOne mlX4_101 13 rfl rfl rfl [13, 14, 15, 16, 17, 18, 19, 20, 1, 2, 3, 4] (by decide +kernel) rfl rfl [_, _, _, _, _, _, _, _, _, _, _, _, _, _, _, _, _, _, _, _, _] rfl (by decide) (by decide) rfl rfl (Nat.le_of_ble_eq_true rfl) ⟨Nat.zero_le _, Nat.zero_le _⟩ dX4_stepOnce_54 (fun H locs h => ?_)
  refine W.eq (g2 := F0 m 57 ls []) rfl ?_
  refine r_aln K hl 2 dX4_stepOnce_57 rfl rfl ?_
  refine r_getE K h ffX4_104 13 rfl rfl (show _ = Value.int (nI (nc + 1)) from rfl) dX4_stepOnce_58 ?_
  refine r_aln K hl 0 dX4_stepOnce_61 rfl rfl ?_
  refine r_getE K h ffX4_39 0 rfl rfl (congrArg Value.int hkn) dX4_stepOnce_62 ?_
  refine r_cgeN K 69 dX4_stepOnce_65 (by decide) (by omega) (by omega) (fun c65 => ?_) (fun c => absurd c (by omega))
  refine r_aln K hl 2 dX4_stepOnce_69 rfl rfl ?_
  refine r_aln K hl 0 dX4_stepOnce_70 rfl rfl ?_
  refine r_getE K h ffX4_39 0 rfl rfl (congrArg Value.int hkn) dX4_stepOnce_71 ?_
  refine r_aln K hl 0 dX4_stepOnce_74 rfl rfl ?_
  refine r_get K h ffX4_43 0 rfl rfl dX4_stepOnce_75 ?_
  refine r_callV K h hl (c_X0_endCollect_v l g b (upd (upd k 3 (k 3 + nI 1)) 4 (nI (nc + 1))) pv mv ah (upd rv nc (fv nc)) (upd rs nc (fe nc)) (va_cpy fw rw (nc * 4) (nc * 4) 4) n wh (kw 1) hn hk5 hwl hw hany) mc_X0_endCollect vm_X0_endCollect mlX4_107 13 rfl rfl rfl [13, 14, 15, 16, 17, 18, 19, 20] (by decide +kernel) rfl rfl [_, _, _, _, _, _, _, _, _, _, _, _, _, _, _, _, _, _, _, _, _] rfl (by decide) (by decide) rfl rfl (Nat.le_of_ble_eq_true rfl) ⟨Nat.zero_le _, Nat.zero_le _⟩ dX4_stepOnce_78 (fun H locs h => ?_)
  refine W.eq (g2 := F0 m 81 ls []) rfl ?_
  refine r_aln K hl 2 dX4_stepOnce_81 rfl rfl ?_
  refine r_getE K h ffX4_93 13 rfl rfl (show _ = Value.int (nI 1) from rfl) dX4_stepOnce_82 ?_
  refine r_zeq K 116 dX4_stepOnce_85 (by decide) (fun c => absurd c (by decide)) (fun c85 => ?_)
  refine r_aln K hl 0 dX4_stepOnce_88 rfl rfl ?_
  refine r_get K h ffX4_27 0 rfl rfl dX4_stepOnce_89 ?_
  refine r_iln K hl 1 dX4_stepOnce_92 rfl rfl ?_
  refine r_aln K hl 2 dX4_stepOnce_93 rfl rfl ?_
  refine r_aln K hl 0 dX4_stepOnce_94 rfl rfl ?_
  refine r_getE K h ffX4_49 0 rfl rfl (show _ = Value.int (kw 3 + nI 1) from rfl) dX4_stepOnce_95 ?_
  refine r_aln K hl 0 dX4_stepOnce_98 rfl rfl ?_
  refine r_get K h ffX4_34 0 rfl rfl dX4_stepOnce_99 ?_
  refine r_aln K hl 2 dX4_stepOnce_102 rfl rfl ?_
  refine r_get K h ffX4_111 13 rfl rfl dX4_stepOnce_103 ?_
  refine r_aln K hl 2 dX4_stepOnce_106 rfl rfl ?_
  refine r_getE K h ffX4_115 13 rfl rfl (show _ = Value.int (k 2) from rfl) dX4_stepOnce_107 ?_
  refine r_callV K h hl (c_X3_momentOf l g (a 40) (a 41) (a 42) (a 43) (a 44) ti pls wv th (b 1) (upd rv nc (fv nc)) (k 2) wr pl hwr hpl) mc_X3_momentOf vm_X3_momentOf mlX4_118 8 rfl rfl rfl [8, 9, 10, 11, 12, 14] (by decide +kernel) rfl rfl [_, _, _, _, _, _, _, _, _, _, _, _, _, _, _, _, _, _, _, _, _] rfl (by decide) (by decide) rfl rfl (Nat.le_of_ble_eq_true rfl) ⟨Nat.zero_le _, Nat.zero_le _⟩ dX4_stepOnce_110 (fun H locs h => ?_)
  refine W.eq (g2 := F0 m 113 ls [_, _, _, _, _]) rfl ?_
  refine r_callV K h hl (c_X1_add l g (a 38) (a 39) b fx (upd (upd (upd (upd (upd (upd k 3 (k 3 + nI 1)) 4 (nI (nc + 1))) 4 (nI 0)) 5 (nI (wh + 1))) 7 (-9)) 6 (nI 1)) (upd rv nc (fv nc)) (nI p) (kw 3 + nI 1) (cMom ti pl wv (upd rv nc (fv nc)) (k 2) wr).1 ph hph) mc_X1_add vm_X1_add mlX4_122 6 rfl rfl rfl [6, 7, 13, 14] (by decide +kernel) rfl rfl [_, _, _, _, _, _, _, _, _, _, _, _, _, _, _, _, _, _, _, _, _] rfl (by decide) (by decide) rfl rfl (Nat.le_of_ble_eq_true rfl) ⟨Nat.zero_le _, Nat.zero_le _⟩ dX4_stepOnce_113 (fun H locs h => ?_)
  refine W.eq (g2 := F0 m 116 ls []) rfl ?_
  refine r_aln K hl 2 dX4_stepOnce_116 rfl rfl ?_
  refine r_getE K h ffX4_93 13 rfl rfl (show _ = Value.int (nI 1) from rfl) dX4_stepOnce_117 ?_
  refine r_zeq K 139 dX4_stepOnce_120 (by decide) (fun c => absurd c (by decide)) (fun c120 => ?_)
  refine r_aln K hl 2 dX4_stepOnce_123 rfl rfl ?_
  refine r_getE K h ffX4_79 13 rfl rfl (show _ = Value.int (k 0) from rfl) dX4_stepOnce_124 ?_
  refine r_ic K (nI 1) dX4_stepOnce_127 k_1 ?_
  refine r_cne K 139 dX4_stepOnce_128 (by decide) (fun c128 => ?_) (fun c => absurd c hk0)
  exact hr.2 _ _ _ _ dX4_stepOnce_139 h rfl

set_option maxHeartbeats 4000000 in
set_option maxRecDepth 100000 in
theorem c_X4_stepOnce_Tw1 (l : Launch) (g : GG) (a b : Nat → Nat) (fa : Nat → Option Nat) (asz hsz : Int32) (kw fv fe fw fx ti pls wv th k pv mv ah rv rs rw : Row) (p : Nat) (hp : p < 4) (hfa : fa p = some (b 0)) (n nc : Nat) (hn : n ≤ 4) (hk6 : k 6 = 0) (hkn : kw 0 = nI n) (hk4 : k 4 = nI nc) (hnc : nc < n) (wh : Nat) (heq : nc + 1 = n) (hk5 : k 5 = nI wh) (hwl : wh < 1000) (ph wr : Nat) (pl : Nat → Nat) (hpe : asz = nI ph) (hph : ph ≤ 24) (hwe : hsz = nI wr) (hwr : wr ≤ 24) (hpl : ∀ i, i < wr → pls i = nI (pl i) ∧ pl i < 4) (q : Nat) (hw : 1 ≤ wh) (hany : cAny (upd rs nc (fe nc)) ah n = true) (hq : cLow (cMv mv (upd rs nc (fe nc)) ah n) (kw 1) 0 n = some q) (hk0 : k 0 = nI 1) : Ct l g yX4_stepOnce cX4_stepOnce 3 none 3 [.ref (a 0), .int (nI p)] (soW g a (kw) (fv) (fe) (fw) fa (asz) (fx) (hsz) (ti) (pls) (wv) (th) b (k) (pv) (mv) (ah) (rv) (rs) (rw)) none (soW g a (upd kw 3 (kw 3 + nI 1)) (fv) (fe) (fw) fa (nI (up1 (decide (ph < 24)) ph)) (bif decide (ph < 24) then cFa fx ph (nI p) (upd (upd (upd (upd (upd (upd k 3 (k 3 + nI 1)) 4 (nI (nc + 1))) 4 (nI 0)) 5 (nI (wh + 1))) 7 (nI q)) 6 (nI 1)) (kw 3 + nI 1) (cMom ti pl wv (fun j => (va_cpy fw rw (nc * 4) (nc * 4) 4) (q * 4 + j)) (k 2) wr).1 (fun j => (va_cpy fw rw (nc * 4) (nc * 4) 4) (q * 4 + j)) else fx) (hsz) (ti) (pls) (wv) (thK pl wv (cMom ti pl wv (fun j => (va_cpy fw rw (nc * 4) (nc * 4) 4) (q * 4 + j)) (k 2) wr).2) b (kB (nI 0) (-9) (nI 0)) (z0) (z0) (z0) (z0) (z0) (z0)) := by
  refine Ct.start (by decide +kernel) (Nat.le_of_ble_eq_true rfl) (by simp [Value.category]) (Or.inl ⟨rfl, rfl⟩) ?_
  intro p0 e R s m args below meth c A Q K hr h ls hl
  have hl : Lq ls 3 [some (.ref (a 0)), some (.int (nI p)), none] := hl
  subst hpe
  subst hwe
  refine r_aln K hl 0 dX4_stepOnce_0 rfl rfl ?_
  refine r_get K h ffX4_20 0 rfl rfl dX4_stepOnce_1 ?_
  refine r_iln K hl 1 dX4_stepOnce_4 rfl rfl ?_
  refine r_aal2 K h 5 rfl (by omega) (by decide) hfa dX4_stepOnce_5 ?_
  refine r_asn K hl 2 [_, _, _] dX4_stepOnce_6 rfl (by decide) rfl (fun ls hl => ?_)
  refine r_aln K hl 0 dX4_stepOnce_7 rfl rfl ?_
  refine r_dup K dX4_stepOnce_8 rfl ?_
  refine r_get K h ffX4_49 0 rfl rfl dX4_stepOnce_9 ?_
  refine r_ic K (nI 1) dX4_stepOnce_12 k_1 ?_
  refine r_add K dX4_stepOnce_13 ?_
  refine r_put K h ffX4_49 pfX4_3 0 [_, _, _, _, _, _, _, _, _] [_, _, _, _, _, _, _, _, _, _, _, _, _, _, _, _, _, _, _, _, _] rfl rfl rfl (Nat.le_of_ble_eq_true rfl) rfl rfl dX4_stepOnce_14 (fun H locs h => ?_)
  refine r_aln K hl 2 dX4_stepOnce_17 rfl rfl ?_
  refine r_dup K dX4_stepOnce_18 rfl ?_
  refine r_get K h ffX4_90 13 rfl rfl dX4_stepOnce_19 ?_
  refine r_ic K (nI 1) dX4_stepOnce_22 k_1 ?_
  refine r_add K dX4_stepOnce_23 ?_
  refine r_put K h ffX4_90 pfX0_3 13 [_, _, _, _, _, _, _, _, _, _, _, _] [_, _, _, _, _, _, _, _, _, _, _, _, _, _, _, _, _, _, _, _, _] rfl rfl rfl (Nat.le_of_ble_eq_true rfl) rfl rfl dX4_stepOnce_24 (fun H locs h => ?_)
  have h := h.to (show _ = (soW g a (upd kw 3 (kw 3 + nI 1)) (fv) (fe) (fw) fa (nI ph) (fx) (nI wr) (ti) (pls) (wv) (th) b (upd k 3 (k 3 + nI 1)) (pv) (mv) (ah) (rv) (rs) (rw)) from rfl)
  refine r_aln K hl 2 dX4_stepOnce_27 rfl rfl ?_
  refine r_get K h ffX4_93 13 rfl rfl dX4_stepOnce_28 ?_
  refine r_zeq K 49 dX4_stepOnce_31 (by decide) (fun c31 => ?_) (fun c => absurd c (fun q => q hk6))
  refine r_aln K hl 2 dX4_stepOnce_49 rfl rfl ?_
  refine r_aln K hl 0 dX4_stepOnce_50 rfl rfl ?_
  refine r_get K h ffX4_12 0 rfl rfl dX4_stepOnce_51 ?_
  refine r_callV K h hl (c_X0_readOne l g b (upd k 3 (k 3 + nI 1)) pv mv ah rv rs rw (a 1) (a 2) (a 3) (a 4) fv fe fw nc (by omega) hk4) mc_X0_readOne vm_X0_readOne mlX4_101 13 rfl rfl rfl [13, 14, 15, 16, 17, 18, 19, 20, 1, 2, 3, 4] (by decide +kernel) rfl rfl [_, _, _, _, _, _, _, _, _, _, _, _, _, _, _, _, _, _, _, _, _] rfl (by decide) (by decide) rfl rfl (Nat.le_of_ble_eq_true rfl) ⟨Nat.zero_le _, Nat.zero_le _⟩ dX4_stepOnce_54 (fun H locs h => ?_)
  refine W.eq (g2 := F0 m 57 ls []) rfl ?_
  refine r_aln K hl 2 dX4_stepOnce_57 rfl rfl ?_
  refine r_getE K h ffX4_104 13 rfl rfl (show _ = Value.int (nI (nc + 1)) from rfl) dX4_stepOnce_58 ?_
  refine r_aln K hl 0 dX4_stepOnce_61 rfl rfl ?_
  refine r_getE K h ffX4_39 0 rfl rfl (congrArg Value.int hkn) dX4_stepOnce_62 ?_
  refine r_cgeN K 69 dX4_stepOnce_65 (by decide) (by omega) (by omega) (fun c65 => ?_) (fun c => absurd c (by omega))
  refine r_aln K hl 2 dX4_stepOnce_69 rfl rfl ?_
  refine r_aln K hl 0 dX4_stepOnce_70 rfl rfl ?_
  refine r_getE K h ffX4_39 0 rfl rfl (congrArg Value.int hkn) dX4_stepOnce_71 ?_
  refine r_aln K hl 0 dX4_stepOnce_74 rfl rfl ?_
  refine r_get K h ffX4_43 0 rfl rfl dX4_stepOnce_75 ?_
  refine r_callV K h hl (c_X0_endCollect_w l g b (upd (upd k 3 (k 3 + nI 1)) 4 (nI (nc + 1))) pv mv ah (upd rv nc (fv nc)) (upd rs nc (fe nc)) (va_cpy fw rw (nc * 4) (nc * 4) 4) n wh (kw 1) hn hk5 hwl q hw hany hq) mc_X0_endCollect vm_X0_endCollect mlX4_107 13 rfl rfl rfl [13, 14, 15, 16, 17, 18, 19, 20] (by decide +kernel) rfl rfl [_, _, _, _, _, _, _, _, _, _, _, _, _, _, _, _, _, _, _, _, _] rfl (by decide) (by decide) rfl rfl (Nat.le_of_ble_eq_true rfl) ⟨Nat.zero_le _, Nat.zero_le _⟩ dX4_stepOnce_78 (fun H locs h => ?_)
  refine W.eq (g2 := F0 m 81 ls []) rfl ?_
  refine r_aln K hl 2 dX4_stepOnce_81 rfl rfl ?_
  refine r_getE K h ffX4_93 13 rfl rfl (show _ = Value.int (nI 1) from rfl) dX4_stepOnce_82 ?_
  refine r_zeq K 116 dX4_stepOnce_85 (by decide) (fun c => absurd c (by decide)) (fun c85 => ?_)
  refine r_aln K hl 0 dX4_stepOnce_88 rfl rfl ?_
  refine r_get K h ffX4_27 0 rfl rfl dX4_stepOnce_89 ?_
  refine r_iln K hl 1 dX4_stepOnce_92 rfl rfl ?_
  refine r_aln K hl 2 dX4_stepOnce_93 rfl rfl ?_
  refine r_aln K hl 0 dX4_stepOnce_94 rfl rfl ?_
  refine r_getE K h ffX4_49 0 rfl rfl (show _ = Value.int (kw 3 + nI 1) from rfl) dX4_stepOnce_95 ?_
  refine r_aln K hl 0 dX4_stepOnce_98 rfl rfl ?_
  refine r_get K h ffX4_34 0 rfl rfl dX4_stepOnce_99 ?_
  refine r_aln K hl 2 dX4_stepOnce_102 rfl rfl ?_
  refine r_get K h ffX4_111 13 rfl rfl dX4_stepOnce_103 ?_
  refine r_aln K hl 2 dX4_stepOnce_106 rfl rfl ?_
  refine r_getE K h ffX4_115 13 rfl rfl (show _ = Value.int (k 2) from rfl) dX4_stepOnce_107 ?_
  refine r_callV K h hl (c_X3_momentOf l g (a 40) (a 41) (a 42) (a 43) (a 44) ti pls wv th (b 1) (fun j => (va_cpy fw rw (nc * 4) (nc * 4) 4) (q * 4 + j)) (k 2) wr pl hwr hpl) mc_X3_momentOf vm_X3_momentOf mlX4_118 8 rfl rfl rfl [8, 9, 10, 11, 12, 14] (by decide +kernel) rfl rfl [_, _, _, _, _, _, _, _, _, _, _, _, _, _, _, _, _, _, _, _, _] rfl (by decide) (by decide) rfl rfl (Nat.le_of_ble_eq_true rfl) ⟨Nat.zero_le _, Nat.zero_le _⟩ dX4_stepOnce_110 (fun H locs h => ?_)
  refine W.eq (g2 := F0 m 113 ls [_, _, _, _, _]) rfl ?_
  refine r_callV K h hl (c_X1_add l g (a 38) (a 39) b fx (upd (upd (upd (upd (upd (upd k 3 (k 3 + nI 1)) 4 (nI (nc + 1))) 4 (nI 0)) 5 (nI (wh + 1))) 7 (nI q)) 6 (nI 1)) (fun j => (va_cpy fw rw (nc * 4) (nc * 4) 4) (q * 4 + j)) (nI p) (kw 3 + nI 1) (cMom ti pl wv (fun j => (va_cpy fw rw (nc * 4) (nc * 4) 4) (q * 4 + j)) (k 2) wr).1 ph hph) mc_X1_add vm_X1_add mlX4_122 6 rfl rfl rfl [6, 7, 13, 14] (by decide +kernel) rfl rfl [_, _, _, _, _, _, _, _, _, _, _, _, _, _, _, _, _, _, _, _, _] rfl (by decide) (by decide) rfl rfl (Nat.le_of_ble_eq_true rfl) ⟨Nat.zero_le _, Nat.zero_le _⟩ dX4_stepOnce_113 (fun H locs h => ?_)
  refine W.eq (g2 := F0 m 116 ls []) rfl ?_
  refine r_aln K hl 2 dX4_stepOnce_116 rfl rfl ?_
  refine r_getE K h ffX4_93 13 rfl rfl (show _ = Value.int (nI 1) from rfl) dX4_stepOnce_117 ?_
  refine r_zeq K 139 dX4_stepOnce_120 (by decide) (fun c => absurd c (by decide)) (fun c120 => ?_)
  refine r_aln K hl 2 dX4_stepOnce_123 rfl rfl ?_
  refine r_getE K h ffX4_79 13 rfl rfl (show _ = Value.int (k 0) from rfl) dX4_stepOnce_124 ?_
  refine r_ic K (nI 1) dX4_stepOnce_127 k_1 ?_
  refine r_cne K 139 dX4_stepOnce_128 (by decide) (fun c => absurd hk0 c) (fun c128 => ?_)
  refine r_aln K hl 2 dX4_stepOnce_131 rfl rfl ?_
  refine r_ic K (nI 0) dX4_stepOnce_132 k_0 ?_
  refine r_bp K (-9) dX4_stepOnce_133 kb_m9 ?_
  refine r_ic K (nI 0) dX4_stepOnce_135 k_0 ?_
  refine r_callV K h hl (c_X0_become l g b (upd (upd (upd (upd (upd (upd k 3 (k 3 + nI 1)) 4 (nI (nc + 1))) 4 (nI 0)) 5 (nI (wh + 1))) 7 (nI q)) 6 (nI 1)) (fun j => (va_cpy fw rw (nc * 4) (nc * 4) 4) (q * 4 + j)) (cMv mv (upd rs nc (fe nc)) ah n) (upd rs nc (fe nc)) (upd rv nc (fv nc)) (upd rs nc (fe nc)) (va_cpy fw rw (nc * 4) (nc * 4) 4) (nI 0) (-9) (nI 0)) mc_X0_become vm_X0_become mlX4_58 13 rfl rfl rfl [13, 14, 15, 16, 17, 18, 19, 20] (by decide +kernel) rfl rfl [_, _, _, _, _, _, _, _, _, _, _, _, _, _, _, _, _, _, _, _, _] rfl (by decide) (by decide) rfl rfl (Nat.le_of_ble_eq_true rfl) ⟨Nat.zero_le _, Nat.zero_le _⟩ dX4_stepOnce_136 (fun H locs h => ?_)
  refine W.eq (g2 := F0 m 139 ls []) rfl ?_
  exact hr.2 _ _ _ _ dX4_stepOnce_139 h rfl

set_option maxHeartbeats 4000000 in
set_option maxRecDepth 100000 in
theorem c_X4_stepOnce_Tw2 (l : Launch) (g : GG) (a b : Nat → Nat) (fa : Nat → Option Nat) (asz hsz : Int32) (kw fv fe fw fx ti pls wv th k pv mv ah rv rs rw : Row) (p : Nat) (hp : p < 4) (hfa : fa p = some (b 0)) (n nc : Nat) (hn : n ≤ 4) (hk6 : k 6 = 0) (hkn : kw 0 = nI n) (hk4 : k 4 = nI nc) (hnc : nc < n) (wh : Nat) (heq : nc + 1 = n) (hk5 : k 5 = nI wh) (hwl : wh < 1000) (ph wr : Nat) (pl : Nat → Nat) (hpe : asz = nI ph) (hph : ph ≤ 24) (hwe : hsz = nI wr) (hwr : wr ≤ 24) (hpl : ∀ i, i < wr → pls i = nI (pl i) ∧ pl i < 4) (q : Nat) (hw : 1 ≤ wh) (hany : cAny (upd rs nc (fe nc)) ah n = true) (hq : cLow (cMv mv (upd rs nc (fe nc)) ah n) (kw 1) 0 n = some q) (hk0 : ¬ k 0 = nI 1) : Ct l g yX4_stepOnce cX4_stepOnce 3 none 3 [.ref (a 0), .int (nI p)] (soW g a (kw) (fv) (fe) (fw) fa (asz) (fx) (hsz) (ti) (pls) (wv) (th) b (k) (pv) (mv) (ah) (rv) (rs) (rw)) none (soW g a (upd kw 3 (kw 3 + nI 1)) (fv) (fe) (fw) fa (nI (up1 (decide (ph < 24)) ph)) (bif decide (ph < 24) then cFa fx ph (nI p) (upd (upd (upd (upd (upd (upd k 3 (k 3 + nI 1)) 4 (nI (nc + 1))) 4 (nI 0)) 5 (nI (wh + 1))) 7 (nI q)) 6 (nI 1)) (kw 3 + nI 1) (cMom ti pl wv (fun j => (va_cpy fw rw (nc * 4) (nc * 4) 4) (q * 4 + j)) (k 2) wr).1 (fun j => (va_cpy fw rw (nc * 4) (nc * 4) 4) (q * 4 + j)) else fx) (hsz) (ti) (pls) (wv) (thK pl wv (cMom ti pl wv (fun j => (va_cpy fw rw (nc * 4) (nc * 4) 4) (q * 4 + j)) (k 2) wr).2) b (upd (upd (upd (upd (upd (upd k 3 (k 3 + nI 1)) 4 (nI (nc + 1))) 4 (nI 0)) 5 (nI (wh + 1))) 7 (nI q)) 6 (nI 1)) (fun j => (va_cpy fw rw (nc * 4) (nc * 4) 4) (q * 4 + j)) (cMv mv (upd rs nc (fe nc)) ah n) (upd rs nc (fe nc)) (upd rv nc (fv nc)) (upd rs nc (fe nc)) (va_cpy fw rw (nc * 4) (nc * 4) 4)) := by
  refine Ct.start (by decide +kernel) (Nat.le_of_ble_eq_true rfl) (by simp [Value.category]) (Or.inl ⟨rfl, rfl⟩) ?_
  intro p0 e R s m args below meth c A Q K hr h ls hl
  have hl : Lq ls 3 [some (.ref (a 0)), some (.int (nI p)), none] := hl
  subst hpe
  subst hwe
  refine r_aln K hl 0 dX4_stepOnce_0 rfl rfl ?_
  refine r_get K h ffX4_20 0 rfl rfl dX4_stepOnce_1 ?_
  refine r_iln K hl 1 dX4_stepOnce_4 rfl rfl ?_
  refine r_aal2 K h 5 rfl (by omega) (by decide) hfa dX4_stepOnce_5 ?_
  refine r_asn K hl 2 [_, _, _] dX4_stepOnce_6 rfl (by decide) rfl (fun ls hl => ?_)
  refine r_aln K hl 0 dX4_stepOnce_7 rfl rfl ?_
  refine r_dup K dX4_stepOnce_8 rfl ?_
  refine r_get K h ffX4_49 0 rfl rfl dX4_stepOnce_9 ?_
  refine r_ic K (nI 1) dX4_stepOnce_12 k_1 ?_
  refine r_add K dX4_stepOnce_13 ?_
  refine r_put K h ffX4_49 pfX4_3 0 [_, _, _, _, _, _, _, _, _] [_, _, _, _, _, _, _, _, _, _, _, _, _, _, _, _, _, _, _, _, _] rfl rfl rfl (Nat.le_of_ble_eq_true rfl) rfl rfl dX4_stepOnce_14 (fun H locs h => ?_)
  refine r_aln K hl 2 dX4_stepOnce_17 rfl rfl ?_
  refine r_dup K dX4_stepOnce_18 rfl ?_
  refine r_get K h ffX4_90 13 rfl rfl dX4_stepOnce_19 ?_
  refine r_ic K (nI 1) dX4_stepOnce_22 k_1 ?_
  refine r_add K dX4_stepOnce_23 ?_
  refine r_put K h ffX4_90 pfX0_3 13 [_, _, _, _, _, _, _, _, _, _, _, _] [_, _, _, _, _, _, _, _, _, _, _, _, _, _, _, _, _, _, _, _, _] rfl rfl rfl (Nat.le_of_ble_eq_true rfl) rfl rfl dX4_stepOnce_24 (fun H locs h => ?_)
  have h := h.to (show _ = (soW g a (upd kw 3 (kw 3 + nI 1)) (fv) (fe) (fw) fa (nI ph) (fx) (nI wr) (ti) (pls) (wv) (th) b (upd k 3 (k 3 + nI 1)) (pv) (mv) (ah) (rv) (rs) (rw)) from rfl)
  refine r_aln K hl 2 dX4_stepOnce_27 rfl rfl ?_
  refine r_get K h ffX4_93 13 rfl rfl dX4_stepOnce_28 ?_
  refine r_zeq K 49 dX4_stepOnce_31 (by decide) (fun c31 => ?_) (fun c => absurd c (fun q => q hk6))
  refine r_aln K hl 2 dX4_stepOnce_49 rfl rfl ?_
  refine r_aln K hl 0 dX4_stepOnce_50 rfl rfl ?_
  refine r_get K h ffX4_12 0 rfl rfl dX4_stepOnce_51 ?_
  refine r_callV K h hl (c_X0_readOne l g b (upd k 3 (k 3 + nI 1)) pv mv ah rv rs rw (a 1) (a 2) (a 3) (a 4) fv fe fw nc (by omega) hk4) mc_X0_readOne vm_X0_readOne mlX4_101 13 rfl rfl rfl [13, 14, 15, 16, 17, 18, 19, 20, 1, 2, 3, 4] (by decide +kernel) rfl rfl [_, _, _, _, _, _, _, _, _, _, _, _, _, _, _, _, _, _, _, _, _] rfl (by decide) (by decide) rfl rfl (Nat.le_of_ble_eq_true rfl) ⟨Nat.zero_le _, Nat.zero_le _⟩ dX4_stepOnce_54 (fun H locs h => ?_)
  refine W.eq (g2 := F0 m 57 ls []) rfl ?_
  refine r_aln K hl 2 dX4_stepOnce_57 rfl rfl ?_
  refine r_getE K h ffX4_104 13 rfl rfl (show _ = Value.int (nI (nc + 1)) from rfl) dX4_stepOnce_58 ?_
  refine r_aln K hl 0 dX4_stepOnce_61 rfl rfl ?_
  refine r_getE K h ffX4_39 0 rfl rfl (congrArg Value.int hkn) dX4_stepOnce_62 ?_
  refine r_cgeN K 69 dX4_stepOnce_65 (by decide) (by omega) (by omega) (fun c65 => ?_) (fun c => absurd c (by omega))
  refine r_aln K hl 2 dX4_stepOnce_69 rfl rfl ?_
  refine r_aln K hl 0 dX4_stepOnce_70 rfl rfl ?_
  refine r_getE K h ffX4_39 0 rfl rfl (congrArg Value.int hkn) dX4_stepOnce_71 ?_
  refine r_aln K hl 0 dX4_stepOnce_74 rfl rfl ?_
  refine r_get K h ffX4_43 0 rfl rfl dX4_stepOnce_75 ?_
  refine r_callV K h hl (c_X0_endCollect_w l g b (upd (upd k 3 (k 3 + nI 1)) 4 (nI (nc + 1))) pv mv ah (upd rv nc (fv nc)) (upd rs nc (fe nc)) (va_cpy fw rw (nc * 4) (nc * 4) 4) n wh (kw 1) hn hk5 hwl q hw hany hq) mc_X0_endCollect vm_X0_endCollect mlX4_107 13 rfl rfl rfl [13, 14, 15, 16, 17, 18, 19, 20] (by decide +kernel) rfl rfl [_, _, _, _, _, _, _, _, _, _, _, _, _, _, _, _, _, _, _, _, _] rfl (by decide) (by decide) rfl rfl (Nat.le_of_ble_eq_true rfl) ⟨Nat.zero_le _, Nat.zero_le _⟩ dX4_stepOnce_78 (fun H locs h => ?_)
  refine W.eq (g2 := F0 m 81 ls []) rfl ?_
  refine r_aln K hl 2 dX4_stepOnce_81 rfl rfl ?_
  refine r_getE K h ffX4_93 13 rfl rfl (show _ = Value.int (nI 1) from rfl) dX4_stepOnce_82 ?_
  refine r_zeq K 116 dX4_stepOnce_85 (by decide) (fun c => absurd c (by decide)) (fun c85 => ?_)
  refine r_aln K hl 0 dX4_stepOnce_88 rfl rfl ?_
  refine r_get K h ffX4_27 0 rfl rfl dX4_stepOnce_89 ?_
  refine r_iln K hl 1 dX4_stepOnce_92 rfl rfl ?_
  refine r_aln K hl 2 dX4_stepOnce_93 rfl rfl ?_
  refine r_aln K hl 0 dX4_stepOnce_94 rfl rfl ?_
  refine r_getE K h ffX4_49 0 rfl rfl (show _ = Value.int (kw 3 + nI 1) from rfl) dX4_stepOnce_95 ?_
  refine r_aln K hl 0 dX4_stepOnce_98 rfl rfl ?_
  refine r_get K h ffX4_34 0 rfl rfl dX4_stepOnce_99 ?_
  refine r_aln K hl 2 dX4_stepOnce_102 rfl rfl ?_
  refine r_get K h ffX4_111 13 rfl rfl dX4_stepOnce_103 ?_
  refine r_aln K hl 2 dX4_stepOnce_106 rfl rfl ?_
  refine r_getE K h ffX4_115 13 rfl rfl (show _ = Value.int (k 2) from rfl) dX4_stepOnce_107 ?_
  refine r_callV K h hl (c_X3_momentOf l g (a 40) (a 41) (a 42) (a 43) (a 44) ti pls wv th (b 1) (fun j => (va_cpy fw rw (nc * 4) (nc * 4) 4) (q * 4 + j)) (k 2) wr pl hwr hpl) mc_X3_momentOf vm_X3_momentOf mlX4_118 8 rfl rfl rfl [8, 9, 10, 11, 12, 14] (by decide +kernel) rfl rfl [_, _, _, _, _, _, _, _, _, _, _, _, _, _, _, _, _, _, _, _, _] rfl (by decide) (by decide) rfl rfl (Nat.le_of_ble_eq_true rfl) ⟨Nat.zero_le _, Nat.zero_le _⟩ dX4_stepOnce_110 (fun H locs h => ?_)
  refine W.eq (g2 := F0 m 113 ls [_, _, _, _, _]) rfl ?_
  refine r_callV K h hl (c_X1_add l g (a 38) (a 39) b fx (upd (upd (upd (upd (upd (upd k 3 (k 3 + nI 1)) 4 (nI (nc + 1))) 4 (nI 0)) 5 (nI (wh + 1))) 7 (nI q)) 6 (nI 1)) (fun j => (va_cpy fw rw (nc * 4) (nc * 4) 4) (q * 4 + j)) (nI p) (kw 3 + nI 1) (cMom ti pl wv (fun j => (va_cpy fw rw (nc * 4) (nc * 4) 4) (q * 4 + j)) (k 2) wr).1 ph hph) mc_X1_add vm_X1_add mlX4_122 6 rfl rfl rfl [6, 7, 13, 14] (by decide +kernel) rfl rfl [_, _, _, _, _, _, _, _, _, _, _, _, _, _, _, _, _, _, _, _, _] rfl (by decide) (by decide) rfl rfl (Nat.le_of_ble_eq_true rfl) ⟨Nat.zero_le _, Nat.zero_le _⟩ dX4_stepOnce_113 (fun H locs h => ?_)
  refine W.eq (g2 := F0 m 116 ls []) rfl ?_
  refine r_aln K hl 2 dX4_stepOnce_116 rfl rfl ?_
  refine r_getE K h ffX4_93 13 rfl rfl (show _ = Value.int (nI 1) from rfl) dX4_stepOnce_117 ?_
  refine r_zeq K 139 dX4_stepOnce_120 (by decide) (fun c => absurd c (by decide)) (fun c120 => ?_)
  refine r_aln K hl 2 dX4_stepOnce_123 rfl rfl ?_
  refine r_getE K h ffX4_79 13 rfl rfl (show _ = Value.int (k 0) from rfl) dX4_stepOnce_124 ?_
  refine r_ic K (nI 1) dX4_stepOnce_127 k_1 ?_
  refine r_cne K 139 dX4_stepOnce_128 (by decide) (fun c128 => ?_) (fun c => absurd c hk0)
  exact hr.2 _ _ _ _ dX4_stepOnce_139 h rfl
