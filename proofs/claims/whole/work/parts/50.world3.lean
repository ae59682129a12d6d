set_option maxHeartbeats 4000000 in
set_option maxRecDepth 100000 in
theorem c_X4_copyFrom (l : Launch) (g : GG) (a a2 : Nat → Nat) (V V2 : Nat → Row) (ph wr : Nat) (hph : ph ≤ 24) (hwr : wr ≤ 24) (h38 : V2 38 0 = nI ph) (h40 : V2 40 0 = nI wr) (hz : ∀ i, i < 4 → V2 (6 + 8 * i) 6 = nI 0 ∨ V2 (6 + 8 * i) 6 = nI 1) : Ct l g yX4_copyFrom cX4_copyFrom 3 none 4 [.ref (a 0), .ref (a2 0)] (wW g a V ++ wW g a2 V2) none (wW g a (cCop V V2 ph wr) ++ wW g a2 V2) := by
  refine Ct.start (by decide +kernel) (Nat.le_of_ble_eq_true rfl) (by simp [Value.category]) (Or.inl ⟨rfl, rfl⟩) ?_
  intro p0 e R s m args below meth c A Q K hr h ls hl
  have hl : Lq ls 3 [some (.ref (a 0)), some (.ref (a2 0)), none] := hl
  refine r_aln K hl 0 dX4_copyFrom_0 rfl rfl ?_
  refine r_aln K hl 1 dX4_copyFrom_1 rfl rfl ?_
  refine r_get K h ffX4_39 45 rfl rfl dX4_copyFrom_2 ?_
  refine r_put K h ffX4_39 pfX4_0 0 [_, _, _, _, _, _, _, _, _] (_ :: _) rfl rfl rfl (Nat.le_of_ble_eq_true rfl) rfl rfl dX4_copyFrom_5 (fun H locs h => ?_)
  refine r_aln K hl 0 dX4_copyFrom_8 rfl rfl ?_
  refine r_aln K hl 1 dX4_copyFrom_9 rfl rfl ?_
  refine r_get K h ffX4_43 45 rfl rfl dX4_copyFrom_10 ?_
  refine r_put K h ffX4_43 pfX4_1 0 [_, _, _, _, _, _, _, _, _] (_ :: _) rfl rfl rfl (Nat.le_of_ble_eq_true rfl) rfl rfl dX4_copyFrom_13 (fun H locs h => ?_)
  refine r_aln K hl 0 dX4_copyFrom_16 rfl rfl ?_
  refine r_aln K hl 1 dX4_copyFrom_17 rfl rfl ?_
  refine r_get K h ffX4_46 45 rfl rfl dX4_copyFrom_18 ?_
  refine r_put K h ffX4_46 pfX4_2 0 [_, _, _, _, _, _, _, _, _] (_ :: _) rfl rfl rfl (Nat.le_of_ble_eq_true rfl) rfl rfl dX4_copyFrom_21 (fun H locs h => ?_)
  refine r_aln K hl 0 dX4_copyFrom_24 rfl rfl ?_
  refine r_aln K hl 1 dX4_copyFrom_25 rfl rfl ?_
  refine r_get K h ffX4_49 45 rfl rfl dX4_copyFrom_26 ?_
  refine r_put K h ffX4_49 pfX4_3 0 [_, _, _, _, _, _, _, _, _] (_ :: _) rfl rfl rfl (Nat.le_of_ble_eq_true rfl) rfl rfl dX4_copyFrom_29 (fun H locs h => ?_)
  refine r_aln K hl 0 dX4_copyFrom_32 rfl rfl ?_
  refine r_aln K hl 1 dX4_copyFrom_33 rfl rfl ?_
  refine r_get K h ffX4_52 45 rfl rfl dX4_copyFrom_34 ?_
  refine r_put K h ffX4_52 pfX4_4 0 [_, _, _, _, _, _, _, _, _] (_ :: _) rfl rfl rfl (Nat.le_of_ble_eq_true rfl) rfl rfl dX4_copyFrom_37 (fun H locs h => ?_)
  have h := h.to (show _ = (wW g a (cMix V V2 1) ++ wW g a2 V2) from rfl)
  refine r_aln K hl 0 dX4_copyFrom_40 rfl rfl ?_
  refine r_get K h ffX4_12 0 rfl rfl dX4_copyFrom_41 ?_
  refine r_aln K hl 1 dX4_copyFrom_44 rfl rfl ?_
  refine r_get K h ffX4_12 45 rfl rfl dX4_copyFrom_45 ?_
  refine r_callVW K h hl (c_cop_ce l g a a2 V V2) mc_X2_copyFrom vm_X2_copyFrom mlX4_66 1 rfl rfl rfl rfl _ rfl (by decide) (by decide) rfl rfl (Nat.le_of_ble_eq_true rfl) ⟨Nat.zero_le _, Nat.zero_le _⟩ dX4_copyFrom_48 (fun H locs h => ?_)
  refine W.eq (g2 := F0 m 51 ls []) rfl ?_
  refine r_ic K (nI 0) dX4_copyFrom_51 k_0 ?_
  refine r_isn K hl 2 [_, _, _] dX4_copyFrom_52 rfl (by decide) rfl (fun ls hl => ?_)
  refine r_iln K hl 2 dX4_copyFrom_53 rfl rfl ?_
  refine r_ic K (nI 4) dX4_copyFrom_54 k_4 ?_
  refine r_cgeN K 79 dX4_copyFrom_55 (by decide) (by omega) (by omega) (fun c => absurd c (by decide)) (fun c55 => ?_)
  refine r_aln K hl 0 dX4_copyFrom_58 rfl rfl ?_
  refine r_get K h ffX4_20 0 rfl rfl dX4_copyFrom_59 ?_
  refine r_iln K hl 2 dX4_copyFrom_62 rfl rfl ?_
  refine r_aal2 K h 5 rfl (by omega) (by decide) rfl dX4_copyFrom_63 ?_
  refine r_aln K hl 1 dX4_copyFrom_64 rfl rfl ?_
  refine r_get K h ffX4_20 45 rfl rfl dX4_copyFrom_65 ?_
  refine r_iln K hl 2 dX4_copyFrom_68 rfl rfl ?_
  refine r_aal2 K h 50 rfl (by omega) (by decide) rfl dX4_copyFrom_69 ?_
  refine r_callVW K h hl (c_cop_a0 l g a a2 V V2 (hz 0 (by decide))) mc_X0_copyFrom vm_X0_copyFrom mlX4_70 6 rfl rfl rfl rfl _ rfl (by decide) (by decide) rfl rfl (Nat.le_of_ble_eq_true rfl) ⟨Nat.zero_le _, Nat.zero_le _⟩ dX4_copyFrom_70 (fun H locs h => ?_)
  refine W.eq (g2 := F0 m 73 ls []) rfl ?_
  refine r_incN K hl (k := 1) [_, _, _] dX4_copyFrom_73 rfl (by decide) rfl (fun ls hl => ?_)
  refine r_go K 53 dX4_copyFrom_76 (by decide) ?_
  refine r_iln K hl 2 dX4_copyFrom_53 rfl rfl ?_
  refine r_ic K (nI 4) dX4_copyFrom_54 k_4 ?_
  refine r_cgeN K 79 dX4_copyFrom_55 (by decide) (by omega) (by omega) (fun c => absurd c (by decide)) (fun c55 => ?_)
  refine r_aln K hl 0 dX4_copyFrom_58 rfl rfl ?_
  refine r_get K h ffX4_20 0 rfl rfl dX4_copyFrom_59 ?_
  refine r_iln K hl 2 dX4_copyFrom_62 rfl rfl ?_
  refine r_aal2 K h 5 rfl (by omega) (by decide) rfl dX4_copyFrom_63 ?_
  refine r_aln K hl 1 dX4_copyFrom_64 rfl rfl ?_
  refine r_get K h ffX4_20 45 rfl rfl dX4_copyFrom_65 ?_
  refine r_iln K hl 2 dX4_copyFrom_68 rfl rfl ?_
  refine r_aal2 K h 50 rfl (by omega) (by decide) rfl dX4_copyFrom_69 ?_
  refine r_callVW K h hl (c_cop_a1 l g a a2 V V2 (hz 1 (by decide))) mc_X0_copyFrom vm_X0_copyFrom mlX4_70 14 rfl rfl rfl rfl _ rfl (by decide) (by decide) rfl rfl (Nat.le_of_ble_eq_true rfl) ⟨Nat.zero_le _, Nat.zero_le _⟩ dX4_copyFrom_70 (fun H locs h => ?_)
  refine W.eq (g2 := F0 m 73 ls []) rfl ?_
  refine r_incN K hl (k := 1) [_, _, _] dX4_copyFrom_73 rfl (by decide) rfl (fun ls hl => ?_)
  refine r_go K 53 dX4_copyFrom_76 (by decide) ?_
  refine r_iln K hl 2 dX4_copyFrom_53 rfl rfl ?_
  refine r_ic K (nI 4) dX4_copyFrom_54 k_4 ?_
  refine r_cgeN K 79 dX4_copyFrom_55 (by decide) (by omega) (by omega) (fun c => absurd c (by decide)) (fun c55 => ?_)
  refine r_aln K hl 0 dX4_copyFrom_58 rfl rfl ?_
  refine r_get K h ffX4_20 0 rfl rfl dX4_copyFrom_59 ?_
  refine r_iln K hl 2 dX4_copyFrom_62 rfl rfl ?_
  refine r_aal2 K h 5 rfl (by omega) (by decide) rfl dX4_copyFrom_63 ?_
  refine r_aln K hl 1 dX4_copyFrom_64 rfl rfl ?_
  refine r_get K h ffX4_20 45 rfl rfl dX4_copyFrom_65 ?_
  refine r_iln K hl 2 dX4_copyFrom_68 rfl rfl ?_
  refine r_aal2 K h 50 rfl (by omega) (by decide) rfl dX4_copyFrom_69 ?_
  refine r_callVW K h hl (c_cop_a2 l g a a2 V V2 (hz 2 (by decide))) mc_X0_copyFrom vm_X0_copyFrom mlX4_70 22 rfl rfl rfl rfl _ rfl (by decide) (by decide) rfl rfl (Nat.le_of_ble_eq_true rfl) ⟨Nat.zero_le _, Nat.zero_le _⟩ dX4_copyFrom_70 (fun H locs h => ?_)
  refine W.eq (g2 := F0 m 73 ls []) rfl ?_
  refine r_incN K hl (k := 1) [_, _, _] dX4_copyFrom_73 rfl (by decide) rfl (fun ls hl => ?_)
  refine r_go K 53 dX4_copyFrom_76 (by decide) ?_
  refine r_iln K hl 2 dX4_copyFrom_53 rfl rfl ?_
  refine r_ic K (nI 4) dX4_copyFrom_54 k_4 ?_
  refine r_cgeN K 79 dX4_copyFrom_55 (by decide) (by omega) (by omega) (fun c => absurd c (by decide)) (fun c55 => ?_)
  refine r_aln K hl 0 dX4_copyFrom_58 rfl rfl ?_
  refine r_get K h ffX4_20 0 rfl rfl dX4_copyFrom_59 ?_
  refine r_iln K hl 2 dX4_copyFrom_62 rfl rfl ?_
  refine r_aal2 K h 5 rfl (by omega) (by decide) rfl dX4_copyFrom_63 ?_
  refine r_aln K hl 1 dX4_copyFrom_64 rfl rfl ?_
  refine r_get K h ffX4_20 45 rfl rfl dX4_copyFrom_65 ?_
  refine r_iln K hl 2 dX4_copyFrom_68 rfl rfl ?_
  refine r_aal2 K h 50 rfl (by omega) (by decide) rfl dX4_copyFrom_69 ?_
  refine r_callVW K h hl (c_cop_a3 l g a a2 V V2 (hz 3 (by decide))) mc_X0_copyFrom vm_X0_copyFrom mlX4_70 30 rfl rfl rfl rfl _ rfl (by decide) (by decide) rfl rfl (Nat.le_of_ble_eq_true rfl) ⟨Nat.zero_le _, Nat.zero_le _⟩ dX4_copyFrom_70 (fun H locs h => ?_)
  refine W.eq (g2 := F0 m 73 ls []) rfl ?_
  refine r_incN K hl (k := 1) [_, _, _] dX4_copyFrom_73 rfl (by decide) rfl (fun ls hl => ?_)
  refine r_go K 53 dX4_copyFrom_76 (by decide) ?_
  refine r_iln K hl 2 dX4_copyFrom_53 rfl rfl ?_
  refine r_ic K (nI 4) dX4_copyFrom_54 k_4 ?_
  refine r_cgeN K 79 dX4_copyFrom_55 (by decide) (by omega) (by omega) (fun c55 => ?_) (fun c => absurd c (by decide))
  refine r_aln K hl 0 dX4_copyFrom_79 rfl rfl ?_
  refine r_get K h ffX4_27 0 rfl rfl dX4_copyFrom_80 ?_
  refine r_aln K hl 1 dX4_copyFrom_83 rfl rfl ?_
  refine r_get K h ffX4_27 45 rfl rfl dX4_copyFrom_84 ?_
  refine r_callVW K h hl (c_cop_al l g a a2 V V2 ph hph h38) mc_X1_copyFrom vm_X1_copyFrom mlX4_73 38 rfl rfl rfl rfl _ rfl (by decide) (by decide) rfl rfl (Nat.le_of_ble_eq_true rfl) ⟨Nat.zero_le _, Nat.zero_le _⟩ dX4_copyFrom_87 (fun H locs h => ?_)
  refine W.eq (g2 := F0 m 90 ls []) rfl ?_
  refine r_aln K hl 0 dX4_copyFrom_90 rfl rfl ?_
  refine r_get K h ffX4_34 0 rfl rfl dX4_copyFrom_91 ?_
  refine r_aln K hl 1 dX4_copyFrom_94 rfl rfl ?_
  refine r_get K h ffX4_34 45 rfl rfl dX4_copyFrom_95 ?_
  refine r_callVW K h hl (c_cop_hi l g a a2 V V2 ph wr hwr h40) mc_X3_copyFrom vm_X3_copyFrom mlX4_76 40 rfl rfl rfl rfl _ rfl (by decide) (by decide) rfl rfl (Nat.le_of_ble_eq_true rfl) ⟨Nat.zero_le _, Nat.zero_le _⟩ dX4_copyFrom_98 (fun H locs h => ?_)
  refine W.eq (g2 := F0 m 101 ls []) rfl ?_
  exact hr.2 _ _ _ _ dX4_copyFrom_101 h rfl

