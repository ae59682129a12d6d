set_option maxHeartbeats 4000000 in
set_option maxRecDepth 100000 in
theorem c_X4_restart (l : Launch) (g : GG) (a : Nat → Nat) (V : Nat → Row) (n mv wr : Int32) : Ct l g yX4_restart cX4_restart 5 none 3 [.ref (a 0), .int n, .int mv, .int wr] (wW g a V) none (wW g a (cRes V n mv wr)) := by
  refine Ct.start (by decide +kernel) (Nat.le_of_ble_eq_true rfl) (by simp [Value.category]) (Or.inl ⟨rfl, rfl⟩) ?_
  intro p0 e R s m args below meth c A Q K hr h ls hl
  have hl : Lq ls 5 [some (.ref (a 0)), some (.int n), some (.int mv), some (.int wr), none] := hl
  refine r_aln K hl 0 dX4_restart_0 rfl rfl ?_
  refine r_iln K hl 1 dX4_restart_1 rfl rfl ?_
  refine r_put K h ffX4_39 pfX4_0 0 [_, _, _, _, _, _, _, _, _] [_, _, _, _, _, _, _, _, _, _, _, _, _, _, _, _, _, _, _, _, _, _, _, _, _, _, _, _, _, _, _, _, _, _, _, _, _, _, _, _, _, _, _, _, _] rfl rfl rfl (Nat.le_of_ble_eq_true rfl) rfl rfl dX4_restart_2 (fun H locs h => ?_)
  refine r_aln K hl 0 dX4_restart_5 rfl rfl ?_
  refine r_iln K hl 2 dX4_restart_6 rfl rfl ?_
  refine r_put K h ffX4_43 pfX4_1 0 [_, _, _, _, _, _, _, _, _] [_, _, _, _, _, _, _, _, _, _, _, _, _, _, _, _, _, _, _, _, _, _, _, _, _, _, _, _, _, _, _, _, _, _, _, _, _, _, _, _, _, _, _, _, _] rfl rfl rfl (Nat.le_of_ble_eq_true rfl) rfl rfl dX4_restart_7 (fun H locs h => ?_)
  refine r_aln K hl 0 dX4_restart_10 rfl rfl ?_
  refine r_iln K hl 3 dX4_restart_11 rfl rfl ?_
  refine r_put K h ffX4_46 pfX4_2 0 [_, _, _, _, _, _, _, _, _] [_, _, _, _, _, _, _, _, _, _, _, _, _, _, _, _, _, _, _, _, _, _, _, _, _, _, _, _, _, _, _, _, _, _, _, _, _, _, _, _, _, _, _, _, _] rfl rfl rfl (Nat.le_of_ble_eq_true rfl) rfl rfl dX4_restart_12 (fun H locs h => ?_)
  refine r_aln K hl 0 dX4_restart_15 rfl rfl ?_
  refine r_ic K (nI 0) dX4_restart_16 k_0 ?_
  refine r_put K h ffX4_49 pfX4_3 0 [_, _, _, _, _, _, _, _, _] [_, _, _, _, _, _, _, _, _, _, _, _, _, _, _, _, _, _, _, _, _, _, _, _, _, _, _, _, _, _, _, _, _, _, _, _, _, _, _, _, _, _, _, _, _] rfl rfl rfl (Nat.le_of_ble_eq_true rfl) rfl rfl dX4_restart_17 (fun H locs h => ?_)
  refine r_aln K hl 0 dX4_restart_20 rfl rfl ?_
  refine r_ic K (nI 0) dX4_restart_21 k_0 ?_
  refine r_put K h ffX4_52 pfX4_4 0 [_, _, _, _, _, _, _, _, _] [_, _, _, _, _, _, _, _, _, _, _, _, _, _, _, _, _, _, _, _, _, _, _, _, _, _, _, _, _, _, _, _, _, _, _, _, _, _, _, _, _, _, _, _, _] rfl rfl rfl (Nat.le_of_ble_eq_true rfl) rfl rfl dX4_restart_22 (fun H locs h => ?_)
  refine r_aln K hl 0 dX4_restart_25 rfl rfl ?_
  refine r_get K h ffX4_12 0 rfl rfl dX4_restart_26 ?_
  refine r_callV K h hl (c_X2_clear l g (a 1) (a 2) (a 3) (a 4) (V 2) (V 3) (V 4)) mc_X2_clear vm_X2_clear mlX4_55 1 rfl rfl rfl [1, 2, 3, 4] (by decide +kernel) rfl rfl [_, _, _, _, _, _, _, _, _, _, _, _, _, _, _, _, _, _, _, _, _, _, _, _, _, _, _, _, _, _, _, _, _, _, _, _, _, _, _, _, _, _, _, _, _] rfl (by decide) (by decide) rfl rfl (Nat.le_of_ble_eq_true rfl) ⟨Nat.zero_le _, Nat.zero_le _⟩ dX4_restart_29 (fun H locs h => ?_)
  refine W.eq (g2 := F0 m 32 ls []) rfl ?_
  refine r_ic K (nI 0) dX4_restart_32 k_0 ?_
  refine r_is K hl 4 [_, _, _, _, _] dX4_restart_33 (by decide) rfl (fun ls hl => ?_)
  refine r_il K hl 4 dX4_restart_35 rfl ?_
  refine r_ic K (nI 4) dX4_restart_37 k_4 ?_
  refine r_cgeN K 61 dX4_restart_38 (by decide) (by omega) (by omega) (fun c => absurd c (by decide)) (fun c38 => ?_)
  refine r_aln K hl 0 dX4_restart_41 rfl rfl ?_
  refine r_get K h ffX4_20 0 rfl rfl dX4_restart_42 ?_
  refine r_il K hl 4 dX4_restart_45 rfl ?_
  refine r_aal2 K h 5 rfl (by omega) (by decide) rfl dX4_restart_47 ?_
  refine r_ic K (nI 0) dX4_restart_48 k_0 ?_
  refine r_bp K (-9) dX4_restart_49 kb_m9 ?_
  refine r_ic K (nI 0) dX4_restart_51 k_0 ?_
  refine r_callV K h hl (c_X0_become l g (fun j => a (6 + j)) (V 6) (V 7) (V 8) (V 9) (V 11) (V 12) (V 13) (nI 0) (-9) (nI 0)) mc_X0_become vm_X0_become mlX4_58 6 rfl rfl rfl [6, 7, 8, 9, 10, 11, 12, 13] (by decide +kernel) rfl rfl [_, _, _, _, _, _, _, _, _, _, _, _, _, _, _, _, _, _, _, _, _, _, _, _, _, _, _, _, _, _, _, _, _, _, _, _, _, _, _, _, _, _, _, _, _] rfl (by decide) (by decide) rfl rfl (Nat.le_of_ble_eq_true rfl) ⟨Nat.zero_le _, Nat.zero_le _⟩ dX4_restart_52 (fun H locs h => ?_)
  refine W.eq (g2 := F0 m 55 ls []) rfl ?_
  refine r_incN K hl (k := 1) [_, _, _, _, _] dX4_restart_55 rfl (by decide) rfl (fun ls hl => ?_)
  refine r_go K 35 dX4_restart_58 (by decide) ?_
  refine r_il K hl 4 dX4_restart_35 rfl ?_
  refine r_ic K (nI 4) dX4_restart_37 k_4 ?_
  refine r_cgeN K 61 dX4_restart_38 (by decide) (by omega) (by omega) (fun c => absurd c (by decide)) (fun c38 => ?_)
  refine r_aln K hl 0 dX4_restart_41 rfl rfl ?_
  refine r_get K h ffX4_20 0 rfl rfl dX4_restart_42 ?_
  refine r_il K hl 4 dX4_restart_45 rfl ?_
  refine r_aal2 K h 5 rfl (by omega) (by decide) rfl dX4_restart_47 ?_
  refine r_ic K (nI 0) dX4_restart_48 k_0 ?_
  refine r_bp K (-9) dX4_restart_49 kb_m9 ?_
  refine r_ic K (nI 0) dX4_restart_51 k_0 ?_
  refine r_callV K h hl (c_X0_become l g (fun j => a (14 + j)) (V 14) (V 15) (V 16) (V 17) (V 19) (V 20) (V 21) (nI 0) (-9) (nI 0)) mc_X0_become vm_X0_become mlX4_58 14 rfl rfl rfl [14, 15, 16, 17, 18, 19, 20, 21] (by decide +kernel) rfl rfl [_, _, _, _, _, _, _, _, _, _, _, _, _, _, _, _, _, _, _, _, _, _, _, _, _, _, _, _, _, _, _, _, _, _, _, _, _, _, _, _, _, _, _, _, _] rfl (by decide) (by decide) rfl rfl (Nat.le_of_ble_eq_true rfl) ⟨Nat.zero_le _, Nat.zero_le _⟩ dX4_restart_52 (fun H locs h => ?_)
  refine W.eq (g2 := F0 m 55 ls []) rfl ?_
  refine r_incN K hl (k := 1) [_, _, _, _, _] dX4_restart_55 rfl (by decide) rfl (fun ls hl => ?_)
  refine r_go K 35 dX4_restart_58 (by decide) ?_
  refine r_il K hl 4 dX4_restart_35 rfl ?_
  refine r_ic K (nI 4) dX4_restart_37 k_4 ?_
  refine r_cgeN K 61 dX4_restart_38 (by decide) (by omega) (by omega) (fun c => absurd c (by decide)) (fun c38 => ?_)
  refine r_aln K hl 0 dX4_restart_41 rfl rfl ?_
  refine r_get K h ffX4_20 0 rfl rfl dX4_restart_42 ?_
  refine r_il K hl 4 dX4_restart_45 rfl ?_
  refine r_aal2 K h 5 rfl (by omega) (by decide) rfl dX4_restart_47 ?_
  refine r_ic K (nI 0) dX4_restart_48 k_0 ?_
  refine r_bp K (-9) dX4_restart_49 kb_m9 ?_
  refine r_ic K (nI 0) dX4_restart_51 k_0 ?_
  refine r_callV K h hl (c_X0_become l g (fun j => a (22 + j)) (V 22) (V 23) (V 24) (V 25) (V 27) (V 28) (V 29) (nI 0) (-9) (nI 0)) mc_X0_become vm_X0_become mlX4_58 22 rfl rfl rfl [22, 23, 24, 25, 26, 27, 28, 29] (by decide +kernel) rfl rfl [_, _, _, _, _, _, _, _, _, _, _, _, _, _, _, _, _, _, _, _, _, _, _, _, _, _, _, _, _, _, _, _, _, _, _, _, _, _, _, _, _, _, _, _, _] rfl (by decide) (by decide) rfl rfl (Nat.le_of_ble_eq_true rfl) ⟨Nat.zero_le _, Nat.zero_le _⟩ dX4_restart_52 (fun H locs h => ?_)
  refine W.eq (g2 := F0 m 55 ls []) rfl ?_
  refine r_incN K hl (k := 1) [_, _, _, _, _] dX4_restart_55 rfl (by decide) rfl (fun ls hl => ?_)
  refine r_go K 35 dX4_restart_58 (by decide) ?_
  refine r_il K hl 4 dX4_restart_35 rfl ?_
  refine r_ic K (nI 4) dX4_restart_37 k_4 ?_
  refine r_cgeN K 61 dX4_restart_38 (by decide) (by omega) (by omega) (fun c => absurd c (by decide)) (fun c38 => ?_)
  refine r_aln K hl 0 dX4_restart_41 rfl rfl ?_
  refine r_get K h ffX4_20 0 rfl rfl dX4_restart_42 ?_
  refine r_il K hl 4 dX4_restart_45 rfl ?_
  refine r_aal2 K h 5 rfl (by omega) (by decide) rfl dX4_restart_47 ?_
  refine r_ic K (nI 0) dX4_restart_48 k_0 ?_
  refine r_bp K (-9) dX4_restart_49 kb_m9 ?_
  refine r_ic K (nI 0) dX4_restart_51 k_0 ?_
  refine r_callV K h hl (c_X0_become l g (fun j => a (30 + j)) (V 30) (V 31) (V 32) (V 33) (V 35) (V 36) (V 37) (nI 0) (-9) (nI 0)) mc_X0_become vm_X0_become mlX4_58 30 rfl rfl rfl [30, 31, 32, 33, 34, 35, 36, 37] (by decide +kernel) rfl rfl [_, _, _, _, _, _, _, _, _, _, _, _, _, _, _, _, _, _, _, _, _, _, _, _, _, _, _, _, _, _, _, _, _, _, _, _, _, _, _, _, _, _, _, _, _] rfl (by decide) (by decide) rfl rfl (Nat.le_of_ble_eq_true rfl) ⟨Nat.zero_le _, Nat.zero_le _⟩ dX4_restart_52 (fun H locs h => ?_)
  refine W.eq (g2 := F0 m 55 ls []) rfl ?_
  refine r_incN K hl (k := 1) [_, _, _, _, _] dX4_restart_55 rfl (by decide) rfl (fun ls hl => ?_)
  refine r_go K 35 dX4_restart_58 (by decide) ?_
  refine r_il K hl 4 dX4_restart_35 rfl ?_
  refine r_ic K (nI 4) dX4_restart_37 k_4 ?_
  refine r_cgeN K 61 dX4_restart_38 (by decide) (by omega) (by omega) (fun c38 => ?_) (fun c => absurd c (by decide))
  refine r_aln K hl 0 dX4_restart_61 rfl rfl ?_
  refine r_get K h ffX4_27 0 rfl rfl dX4_restart_62 ?_
  refine r_ic K (nI 0) dX4_restart_65 k_0 ?_
  refine r_put K h ffX4_62 pfX1_0 38 [_, _] [_, _, _, _, _, _, _, _, _, _, _, _, _, _, _, _, _, _, _, _, _, _, _, _, _, _, _, _, _, _, _, _, _, _, _, _, _, _, _, _, _, _, _, _, _] rfl rfl rfl (Nat.le_of_ble_eq_true rfl) rfl rfl dX4_restart_66 (fun H locs h => ?_)
  refine r_aln K hl 0 dX4_restart_69 rfl rfl ?_
  refine r_get K h ffX4_34 0 rfl rfl dX4_restart_70 ?_
  refine r_ic K (nI 0) dX4_restart_73 k_0 ?_
  refine r_put K h ffX4_65 pfX3_0 40 [_, _, _, _, _] [_, _, _, _, _, _, _, _, _, _, _, _, _, _, _, _, _, _, _, _, _, _, _, _, _, _, _, _, _, _, _, _, _, _, _, _, _, _, _, _, _, _, _, _, _] rfl rfl rfl (Nat.le_of_ble_eq_true rfl) rfl rfl dX4_restart_74 (fun H locs h => ?_)
  exact hr.2 _ _ _ _ dX4_restart_77 h rfl
