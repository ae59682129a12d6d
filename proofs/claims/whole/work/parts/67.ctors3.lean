set_option maxHeartbeats 4000000 in
set_option maxRecDepth 100000 in
theorem c_X5_init (l : Launch) (g : GG) (x : Nat) : CtN l g yX5_init cX5_init 2 5 412 5350 [.ref x] [(x, .inr (5, [.null, .null, .null, .int 0, .int 0, .null, .null, .null, .null, .null, .int 0, .null]))] (fun u : (Nat → Nat) × (Nat → Nat → Nat) => lvB g (fun j => bif Nat.beq j 0 then x else u.1 j) u.2 0 0 0 z0 z0 z0 z0 z0 ++ WS g u.2 (setV (fun _ _ => z0) 0 (cRes (fun _ => z0) (nI 3) (nI 2) (nI 0)))) := by
  refine CtN.start (by decide +kernel) (Nat.le_of_ble_eq_true rfl) (by simp [Value.category]) ?_
  intro p0 e R s m args below meth c A Q K hnm hRc hRs hr h ls hl
  have hl : Lq ls 2 [some (.ref x), none] := hl
  refine r_aln K hl 0 dX5_init_0 rfl rfl ?_
  refine r_oi K hl mlX5_1 (by decide) (Nat.le_of_ble_eq_true rfl) dX5_init_1 ?_
  refine r_aln K hl 0 dX5_init_4 rfl rfl ?_
  refine r_new K h wwX4 tyX4 tyX4_ok clX5_7 isX4 inX4 (ci := 4) rfl (fs := [.int 0, .int 0, .int 0, .int 0, .int 0, .null, .null, .null, .null]) (fun j hj => by rcases (show j = 0 ∨ j = 1 ∨ j = 2 ∨ j = 3 ∨ j = 4 ∨ j = 5 ∨ j = 6 ∨ j = 7 ∨ j = 8 by omega) with rfl | rfl | rfl | rfl | rfl | rfl | rfl | rfl | rfl <;> rfl) (by omega) (by omega) dX5_init_5 (fun q1 H h => ?_)
  refine r_dup K dX5_init_8 rfl ?_
  refine r_ctor _ K h rfl hl (c_X4_init l g q1) mc_X4_init im_X4_init mlX5_9 rfl (by decide) (by decide) rfl (Nat.le_of_ble_eq_true rfl) ⟨by omega, by omega⟩ dX5_init_9 (fun u0 H locs h => ?_)
  refine r_putF K hnm h ffX5_10 pfX5_0 (fun r hr => by cases hr; rfl) 0 [_, _, _, _, _, _, _, _, _, _, _, _] (_ :: _) rfl rfl rfl (Nat.le_of_ble_eq_true rfl) rfl rfl dX5_init_12 (fun H locs h => ?_)
  refine r_aln K hl 0 dX5_init_15 rfl rfl ?_
  refine r_new K h wwX4 tyX4 tyX4_ok clX5_7 isX4 inX4 (ci := 4) rfl (fs := [.int 0, .int 0, .int 0, .int 0, .int 0, .null, .null, .null, .null]) (fun j hj => by rcases (show j = 0 ∨ j = 1 ∨ j = 2 ∨ j = 3 ∨ j = 4 ∨ j = 5 ∨ j = 6 ∨ j = 7 ∨ j = 8 by omega) with rfl | rfl | rfl | rfl | rfl | rfl | rfl | rfl | rfl <;> rfl) (by omega) (by omega) dX5_init_16 (fun q2 H h => ?_)
  refine r_dup K dX5_init_19 rfl ?_
  refine r_ctor _ K h rfl hl (c_X4_init l g q2) mc_X4_init im_X4_init mlX5_9 rfl (by decide) (by decide) rfl (Nat.le_of_ble_eq_true rfl) ⟨by omega, by omega⟩ dX5_init_20 (fun u1 H locs h => ?_)
  refine r_putF K hnm h ffX5_16 pfX5_1 (fun r hr => by cases hr; rfl) 0 [_, _, _, _, _, _, _, _, _, _, _, _] (_ :: _) rfl rfl rfl (Nat.le_of_ble_eq_true rfl) rfl rfl dX5_init_23 (fun H locs h => ?_)
  refine r_aln K hl 0 dX5_init_26 rfl rfl ?_
  refine r_ic K (nI 5) dX5_init_27 k_5 ?_
  refine r_newA K h (k := 3) rfl (fun z => z.2.2.2) clX5_7 (by omega) (by omega) (by omega) dX5_init_28 (fun q3 H h => ?_)
  have h := h.perm (ws' := (_ :: _ :: _)) ((List.perm_append_singleton _ _).cons _)
  refine r_putF K hnm h ffX5_19 pfX5_2 (fun r hr => by cases hr; rfl) 0 [_, _, _, _, _, _, _, _, _, _, _, _] (_ :: _ :: _) rfl rfl rfl (Nat.le_of_ble_eq_true rfl) rfl rfl dX5_init_31 (fun H locs h => ?_)
  refine r_ic K (nI 0) dX5_init_34 k_0 ?_
  refine r_isn K hl 1 [_, _] dX5_init_35 rfl (by decide) rfl (fun ls hl => ?_)
  refine r_iln K hl 1 dX5_init_36 rfl rfl ?_
  refine r_ic K (nI 5) dX5_init_37 k_5 ?_
  refine r_cgeN K 60 dX5_init_38 (by decide) (by omega) (by omega) (fun c => absurd c (by decide)) (fun c38 => ?_)
  refine r_aln K hl 0 dX5_init_41 rfl rfl ?_
  refine r_get K h ffX5_19 0 rfl rfl dX5_init_42 ?_
  refine r_iln K hl 1 dX5_init_45 rfl rfl ?_
  refine r_new K h wwX4 tyX4 tyX4_ok clX5_7 isX4 inX4 (ci := 4) rfl (fs := [.int 0, .int 0, .int 0, .int 0, .int 0, .null, .null, .null, .null]) (fun j hj => by rcases (show j = 0 ∨ j = 1 ∨ j = 2 ∨ j = 3 ∨ j = 4 ∨ j = 5 ∨ j = 6 ∨ j = 7 ∨ j = 8 by omega) with rfl | rfl | rfl | rfl | rfl | rfl | rfl | rfl | rfl <;> rfl) (by omega) (by omega) dX5_init_46 (fun q4 H h => ?_)
  refine r_dup K dX5_init_49 rfl ?_
  refine r_ctor _ K h rfl hl (c_X4_init l g q4) mc_X4_init im_X4_init mlX5_9 rfl (by decide) (by decide) rfl (Nat.le_of_ble_eq_true rfl) ⟨by omega, by omega⟩ dX5_init_50 (fun u2 H locs h => ?_)
  refine r_ast K h 1 3 92 4 (_ :: _ :: _) rfl rfl rfl rfl (by omega) (by decide) rfl dX5_init_53 (fun H locs h => ?_)
  refine r_incN K hl (k := 1) [_, _] dX5_init_54 rfl (by decide) rfl (fun ls hl => ?_)
  refine r_go K 36 dX5_init_57 (by decide) ?_
  refine r_iln K hl 1 dX5_init_36 rfl rfl ?_
  refine r_ic K (nI 5) dX5_init_37 k_5 ?_
  refine r_cgeN K 60 dX5_init_38 (by decide) (by omega) (by omega) (fun c => absurd c (by decide)) (fun c38 => ?_)
  refine r_aln K hl 0 dX5_init_41 rfl rfl ?_
  refine r_get K h ffX5_19 0 rfl rfl dX5_init_42 ?_
  refine r_iln K hl 1 dX5_init_45 rfl rfl ?_
  refine r_new K h wwX4 tyX4 tyX4_ok clX5_7 isX4 inX4 (ci := 4) rfl (fs := [.int 0, .int 0, .int 0, .int 0, .int 0, .null, .null, .null, .null]) (fun j hj => by rcases (show j = 0 ∨ j = 1 ∨ j = 2 ∨ j = 3 ∨ j = 4 ∨ j = 5 ∨ j = 6 ∨ j = 7 ∨ j = 8 by omega) with rfl | rfl | rfl | rfl | rfl | rfl | rfl | rfl | rfl <;> rfl) (by omega) (by omega) dX5_init_46 (fun q5 H h => ?_)
  refine r_dup K dX5_init_49 rfl ?_
  refine r_ctor _ K h rfl hl (c_X4_init l g q5) mc_X4_init im_X4_init mlX5_9 rfl (by decide) (by decide) rfl (Nat.le_of_ble_eq_true rfl) ⟨by omega, by omega⟩ dX5_init_50 (fun u3 H locs h => ?_)
  refine r_ast K h 1 3 137 4 (_ :: _ :: _) rfl rfl rfl rfl (by omega) (by decide) rfl dX5_init_53 (fun H locs h => ?_)
  refine r_incN K hl (k := 1) [_, _] dX5_init_54 rfl (by decide) rfl (fun ls hl => ?_)
  refine r_go K 36 dX5_init_57 (by decide) ?_
  refine r_iln K hl 1 dX5_init_36 rfl rfl ?_
  refine r_ic K (nI 5) dX5_init_37 k_5 ?_
  refine r_cgeN K 60 dX5_init_38 (by decide) (by omega) (by omega) (fun c => absurd c (by decide)) (fun c38 => ?_)
  refine r_aln K hl 0 dX5_init_41 rfl rfl ?_
  refine r_get K h ffX5_19 0 rfl rfl dX5_init_42 ?_
  refine r_iln K hl 1 dX5_init_45 rfl rfl ?_
  refine r_new K h wwX4 tyX4 tyX4_ok clX5_7 isX4 inX4 (ci := 4) rfl (fs := [.int 0, .int 0, .int 0, .int 0, .int 0, .null, .null, .null, .null]) (fun j hj => by rcases (show j = 0 ∨ j = 1 ∨ j = 2 ∨ j = 3 ∨ j = 4 ∨ j = 5 ∨ j = 6 ∨ j = 7 ∨ j = 8 by omega) with rfl | rfl | rfl | rfl | rfl | rfl | rfl | rfl | rfl <;> rfl) (by omega) (by omega) dX5_init_46 (fun q6 H h => ?_)
  refine r_dup K dX5_init_49 rfl ?_
  refine r_ctor _ K h rfl hl (c_X4_init l g q6) mc_X4_init im_X4_init mlX5_9 rfl (by decide) (by decide) rfl (Nat.le_of_ble_eq_true rfl) ⟨by omega, by omega⟩ dX5_init_50 (fun u4 H locs h => ?_)
  refine r_ast K h 1 3 182 4 (_ :: _ :: _) rfl rfl rfl rfl (by omega) (by decide) rfl dX5_init_53 (fun H locs h => ?_)
  refine r_incN K hl (k := 1) [_, _] dX5_init_54 rfl (by decide) rfl (fun ls hl => ?_)
  refine r_go K 36 dX5_init_57 (by decide) ?_
  refine r_iln K hl 1 dX5_init_36 rfl rfl ?_
  refine r_ic K (nI 5) dX5_init_37 k_5 ?_
  refine r_cgeN K 60 dX5_init_38 (by decide) (by omega) (by omega) (fun c => absurd c (by decide)) (fun c38 => ?_)
  refine r_aln K hl 0 dX5_init_41 rfl rfl ?_
  refine r_get K h ffX5_19 0 rfl rfl dX5_init_42 ?_
  refine r_iln K hl 1 dX5_init_45 rfl rfl ?_
  refine r_new K h wwX4 tyX4 tyX4_ok clX5_7 isX4 inX4 (ci := 4) rfl (fs := [.int 0, .int 0, .int 0, .int 0, .int 0, .null, .null, .null, .null]) (fun j hj => by rcases (show j = 0 ∨ j = 1 ∨ j = 2 ∨ j = 3 ∨ j = 4 ∨ j = 5 ∨ j = 6 ∨ j = 7 ∨ j = 8 by omega) with rfl | rfl | rfl | rfl | rfl | rfl | rfl | rfl | rfl <;> rfl) (by omega) (by omega) dX5_init_46 (fun q7 H h => ?_)
  refine r_dup K dX5_init_49 rfl ?_
  refine r_ctor _ K h rfl hl (c_X4_init l g q7) mc_X4_init im_X4_init mlX5_9 rfl (by decide) (by decide) rfl (Nat.le_of_ble_eq_true rfl) ⟨by omega, by omega⟩ dX5_init_50 (fun u5 H locs h => ?_)
  refine r_ast K h 1 3 227 4 (_ :: _ :: _) rfl rfl rfl rfl (by omega) (by decide) rfl dX5_init_53 (fun H locs h => ?_)
  refine r_incN K hl (k := 1) [_, _] dX5_init_54 rfl (by decide) rfl (fun ls hl => ?_)
  refine r_go K 36 dX5_init_57 (by decide) ?_
  refine r_iln K hl 1 dX5_init_36 rfl rfl ?_
  refine r_ic K (nI 5) dX5_init_37 k_5 ?_
  refine r_cgeN K 60 dX5_init_38 (by decide) (by omega) (by omega) (fun c => absurd c (by decide)) (fun c38 => ?_)
  refine r_aln K hl 0 dX5_init_41 rfl rfl ?_
  refine r_get K h ffX5_19 0 rfl rfl dX5_init_42 ?_
  refine r_iln K hl 1 dX5_init_45 rfl rfl ?_
  refine r_new K h wwX4 tyX4 tyX4_ok clX5_7 isX4 inX4 (ci := 4) rfl (fs := [.int 0, .int 0, .int 0, .int 0, .int 0, .null, .null, .null, .null]) (fun j hj => by rcases (show j = 0 ∨ j = 1 ∨ j = 2 ∨ j = 3 ∨ j = 4 ∨ j = 5 ∨ j = 6 ∨ j = 7 ∨ j = 8 by omega) with rfl | rfl | rfl | rfl | rfl | rfl | rfl | rfl | rfl <;> rfl) (by omega) (by omega) dX5_init_46 (fun q8 H h => ?_)
  refine r_dup K dX5_init_49 rfl ?_
  refine r_ctor _ K h rfl hl (c_X4_init l g q8) mc_X4_init im_X4_init mlX5_9 rfl (by decide) (by decide) rfl (Nat.le_of_ble_eq_true rfl) ⟨by omega, by omega⟩ dX5_init_50 (fun u6 H locs h => ?_)
  refine r_ast K h 1 3 272 4 (_ :: _ :: _) rfl rfl rfl rfl (by omega) (by decide) rfl dX5_init_53 (fun H locs h => ?_)
  refine r_incN K hl (k := 1) [_, _] dX5_init_54 rfl (by decide) rfl (fun ls hl => ?_)
  refine r_go K 36 dX5_init_57 (by decide) ?_
  refine r_iln K hl 1 dX5_init_36 rfl rfl ?_
  refine r_ic K (nI 5) dX5_init_37 k_5 ?_
  refine r_cgeN K 60 dX5_init_38 (by decide) (by omega) (by omega) (fun c38 => ?_) (fun c => absurd c (by decide))
  refine r_aln K hl 0 dX5_init_60 rfl rfl ?_
  refine r_ic K (nI 2) dX5_init_61 k_2 ?_
  refine r_newA K h (k := 3) rfl (fun z => z.2.2.2) clX5_7 (by omega) (by omega) (by omega) dX5_init_62 (fun q9 H h => ?_)
  have h := h.perm (ws' := (_ :: _ :: _ :: _)) (((List.perm_append_singleton _ _).cons _).cons _)
  refine r_putF K hnm h ffX5_23 pfX5_5 (fun r hr => by cases hr; rfl) 0 [_, _, _, _, _, _, _, _, _, _, _, _] (_ :: _ :: _ :: _) rfl rfl rfl (Nat.le_of_ble_eq_true rfl) rfl rfl dX5_init_65 (fun H locs h => ?_)
  refine r_ic K (nI 0) dX5_init_68 k_0 ?_
  refine r_isn K hl 1 [_, _] dX5_init_69 rfl (by decide) rfl (fun ls hl => ?_)
  refine r_iln K hl 1 dX5_init_70 rfl rfl ?_
  refine r_ic K (nI 2) dX5_init_71 k_2 ?_
  refine r_cgeN K 94 dX5_init_72 (by decide) (by omega) (by omega) (fun c => absurd c (by decide)) (fun c72 => ?_)
  refine r_aln K hl 0 dX5_init_75 rfl rfl ?_
  refine r_get K h ffX5_23 0 rfl rfl dX5_init_76 ?_
  refine r_iln K hl 1 dX5_init_79 rfl rfl ?_
  refine r_new K h wwX4 tyX4 tyX4_ok clX5_7 isX4 inX4 (ci := 4) rfl (fs := [.int 0, .int 0, .int 0, .int 0, .int 0, .null, .null, .null, .null]) (fun j hj => by rcases (show j = 0 ∨ j = 1 ∨ j = 2 ∨ j = 3 ∨ j = 4 ∨ j = 5 ∨ j = 6 ∨ j = 7 ∨ j = 8 by omega) with rfl | rfl | rfl | rfl | rfl | rfl | rfl | rfl | rfl <;> rfl) (by omega) (by omega) dX5_init_80 (fun q10 H h => ?_)
  refine r_dup K dX5_init_83 rfl ?_
  refine r_ctor _ K h rfl hl (c_X4_init l g q10) mc_X4_init im_X4_init mlX5_9 rfl (by decide) (by decide) rfl (Nat.le_of_ble_eq_true rfl) ⟨by omega, by omega⟩ dX5_init_84 (fun u7 H locs h => ?_)
  refine r_ast K h 2 3 318 4 (_ :: _ :: _ :: _) rfl rfl rfl rfl (by omega) (by decide) rfl dX5_init_87 (fun H locs h => ?_)
  refine r_incN K hl (k := 1) [_, _] dX5_init_88 rfl (by decide) rfl (fun ls hl => ?_)
  refine r_go K 70 dX5_init_91 (by decide) ?_
  refine r_iln K hl 1 dX5_init_70 rfl rfl ?_
  refine r_ic K (nI 2) dX5_init_71 k_2 ?_
  refine r_cgeN K 94 dX5_init_72 (by decide) (by omega) (by omega) (fun c => absurd c (by decide)) (fun c72 => ?_)
  refine r_aln K hl 0 dX5_init_75 rfl rfl ?_
  refine r_get K h ffX5_23 0 rfl rfl dX5_init_76 ?_
  refine r_iln K hl 1 dX5_init_79 rfl rfl ?_
  refine r_new K h wwX4 tyX4 tyX4_ok clX5_7 isX4 inX4 (ci := 4) rfl (fs := [.int 0, .int 0, .int 0, .int 0, .int 0, .null, .null, .null, .null]) (fun j hj => by rcases (show j = 0 ∨ j = 1 ∨ j = 2 ∨ j = 3 ∨ j = 4 ∨ j = 5 ∨ j = 6 ∨ j = 7 ∨ j = 8 by omega) with rfl | rfl | rfl | rfl | rfl | rfl | rfl | rfl | rfl <;> rfl) (by omega) (by omega) dX5_init_80 (fun q11 H h => ?_)
  refine r_dup K dX5_init_83 rfl ?_
  refine r_ctor _ K h rfl hl (c_X4_init l g q11) mc_X4_init im_X4_init mlX5_9 rfl (by decide) (by decide) rfl (Nat.le_of_ble_eq_true rfl) ⟨by omega, by omega⟩ dX5_init_84 (fun u8 H locs h => ?_)
  refine r_ast K h 2 3 363 4 (_ :: _ :: _ :: _) rfl rfl rfl rfl (by omega) (by decide) rfl dX5_init_87 (fun H locs h => ?_)
  refine r_incN K hl (k := 1) [_, _] dX5_init_88 rfl (by decide) rfl (fun ls hl => ?_)
  refine r_go K 70 dX5_init_91 (by decide) ?_
  refine r_iln K hl 1 dX5_init_70 rfl rfl ?_
  refine r_ic K (nI 2) dX5_init_71 k_2 ?_
  refine r_cgeN K 94 dX5_init_72 (by decide) (by omega) (by omega) (fun c72 => ?_) (fun c => absurd c (by decide))
  refine r_aln K hl 0 dX5_init_94 rfl rfl ?_
  refine r_ic K (nI 2) dX5_init_95 k_2 ?_
  refine r_newZ K h (by omega) (by omega) (by omega) dX5_init_96 (fun q12 H h => ?_)
  have h := h.perm (ws' := (_ :: _ :: _ :: _ :: _)) ((((List.perm_append_singleton _ _).cons _).cons _).cons _)
  refine r_putF K hnm h ffX5_26 pfX5_6 (fun r hr => by cases hr; rfl) 0 [_, _, _, _, _, _, _, _, _, _, _, _] (_ :: _ :: _ :: _ :: _) rfl rfl rfl (Nat.le_of_ble_eq_true rfl) rfl rfl dX5_init_98 (fun H locs h => ?_)
  refine r_aln K hl 0 dX5_init_101 rfl rfl ?_
  refine r_bp K (nI 6) dX5_init_102 kb_6 ?_
  refine r_newI K h (by omega) (by omega) (by omega) dX5_init_104 (fun q13 H h => ?_)
  have h := h.perm (ws' := (_ :: _ :: _ :: _ :: _ :: _)) (((((List.perm_append_singleton _ _).cons _).cons _).cons _).cons _)
  refine r_putF K hnm h ffX5_30 pfX5_7 (fun r hr => by cases hr; rfl) 0 [_, _, _, _, _, _, _, _, _, _, _, _] (_ :: _ :: _ :: _ :: _ :: _) rfl rfl rfl (Nat.le_of_ble_eq_true rfl) rfl rfl dX5_init_106 (fun H locs h => ?_)
  refine r_aln K hl 0 dX5_init_109 rfl rfl ?_
  refine r_bp K (nI 6) dX5_init_110 kb_6 ?_
  refine r_newI K h (by omega) (by omega) (by omega) dX5_init_112 (fun q14 H h => ?_)
  have h := h.perm (ws' := (_ :: _ :: _ :: _ :: _ :: _ :: _)) ((((((List.perm_append_singleton _ _).cons _).cons _).cons _).cons _).cons _)
  refine r_putF K hnm h ffX5_34 pfX5_8 (fun r hr => by cases hr; rfl) 0 [_, _, _, _, _, _, _, _, _, _, _, _] (_ :: _ :: _ :: _ :: _ :: _ :: _) rfl rfl rfl (Nat.le_of_ble_eq_true rfl) rfl rfl dX5_init_114 (fun H locs h => ?_)
  refine r_aln K hl 0 dX5_init_117 rfl rfl ?_
  refine r_bp K (nI 6) dX5_init_118 kb_6 ?_
  refine r_newI K h (by omega) (by omega) (by omega) dX5_init_120 (fun q15 H h => ?_)
  have h := h.perm (ws' := (_ :: _ :: _ :: _ :: _ :: _ :: _ :: _)) (((((((List.perm_append_singleton _ _).cons _).cons _).cons _).cons _).cons _).cons _)
  refine r_putF K hnm h ffX5_37 pfX5_9 (fun r hr => by cases hr; rfl) 0 [_, _, _, _, _, _, _, _, _, _, _, _] (_ :: _ :: _ :: _ :: _ :: _ :: _ :: _) rfl rfl rfl (Nat.le_of_ble_eq_true rfl) rfl rfl dX5_init_122 (fun H locs h => ?_)
  refine r_aln K hl 0 dX5_init_125 rfl rfl ?_
  refine r_ic K (nI 4) dX5_init_126 k_4 ?_
  refine r_newI K h (by omega) (by omega) (by omega) dX5_init_127 (fun q16 H h => ?_)
  have h := h.perm (ws' := (_ :: _ :: _ :: _ :: _ :: _ :: _ :: _ :: _)) ((((((((List.perm_append_singleton _ _).cons _).cons _).cons _).cons _).cons _).cons _).cons _)
  refine r_putF K hnm h ffX5_40 pfX5_11 (fun r hr => by cases hr; rfl) 0 [_, _, _, _, _, _, _, _, _, _, _, _] (_ :: _ :: _ :: _ :: _ :: _ :: _ :: _ :: _) rfl rfl rfl (Nat.le_of_ble_eq_true rfl) rfl rfl dX5_init_129 (fun H locs h => ?_)
  have ⟨wa, hwa⟩ : ∃ wa : Nat → Nat → Nat, wa = fun k => ([(fun j => bif Nat.beq j 0 then q1 else u0 j), (fun j => bif Nat.beq j 0 then q2 else u1 j), (fun j => bif Nat.beq j 0 then q4 else u2 j), (fun j => bif Nat.beq j 0 then q5 else u3 j), (fun j => bif Nat.beq j 0 then q6 else u4 j), (fun j => bif Nat.beq j 0 then q7 else u5 j), (fun j => bif Nat.beq j 0 then q8 else u6 j), (fun j => bif Nat.beq j 0 then q10 else u7 j), (fun j => bif Nat.beq j 0 then q11 else u8 j)] : List (Nat → Nat)).getD k (fun _ => 0) := ⟨_, rfl⟩
  have h := h.arrR 1 (fun i => some (wa (2 + i) 0)) rfl (fun j hj => by subst hwa; rcases (show j = 0 ∨ j = 1 ∨ j = 2 ∨ j = 3 ∨ j = 4 by omega) with rfl | rfl | rfl | rfl | rfl <;> rfl)
  have h := h.arrR 2 (fun i => some (wa (7 + i) 0)) rfl (fun j hj => by subst hwa; rcases (show j = 0 ∨ j = 1 by omega) with rfl | rfl <;> rfl)
  have ⟨bb, hbb⟩ : ∃ bb : Nat → Nat, bb = fun j => ([x, q3, q9, q12, q13, q14, q15, q16] : List Nat).getD j 0 := ⟨_, rfl⟩
  have h := h.to (show _ = lvB g bb wa 0 0 0 z0 z0 z0 z0 z0 ++ WS g wa (fun _ _ => z0) by subst hwa; subst hbb; simp only [WS, WSf, List.append_assoc, List.cons_append, List.nil_append]; rfl)
  have hl : Lq ls 2 [some (.ref (bb 0)), some (.int (nI 2))] := by subst hbb; exact hl
  refine r_aln K hl 0 dX5_init_132 rfl rfl ?_
  refine r_get K h ffX5_10 0 rfl rfl dX5_init_133 ?_
  refine r_ic K (nI 3) dX5_init_136 k_3 ?_
  refine r_ic K (nI 2) dX5_init_137 k_2 ?_
  refine r_ic K (nI 0) dX5_init_138 k_0 ?_
  refine r_callVW K h hl (wd1 0 (by omega) rfl (c_X4_restart l g (wa 0) (fun _ => z0) (nI 3) (nI 2) (nI 0)) (lvB g bb wa 0 0 0 z0 z0 z0 z0 z0)) mc_X4_restart vm_X4_restart mlX5_43 8 rfl rfl rfl (lv_fst rfl) _ rfl (by decide) (by decide) rfl rfl (Nat.le_of_ble_eq_true rfl) ⟨by omega, by omega⟩ dX5_init_139 (fun H locs h => ?_)
  refine W.eq (g2 := F0 m 142 ls []) rfl ?_
  have eb : (fun j => bif Nat.beq j 0 then x else bb j) = bb := by
    funext j
    cases j with
    | zero => subst hbb; rfl
    | succ j => rfl
  exact hr (bb, wa) _ _ _ _ dX5_init_142 (h.to (show _ = lvB g (fun j => bif Nat.beq j 0 then x else bb j) wa 0 0 0 z0 z0 z0 z0 z0 ++ WS g wa (setV (fun _ _ => z0) 0 (cRes (fun _ => z0) (nI 3) (nI 2) (nI 0))) by rw [eb]))

