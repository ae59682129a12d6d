set_option maxHeartbeats 4000000 in
set_option maxRecDepth 100000 in
theorem c_X2_init (l : Launch) (g : GG) (x : Nat) : CtN l g yX2_init cX2_init 1 1 3 24 [.ref x] [(x, .inr (2, [.null, .null, .null]))] (fun u : Nat × Nat × Nat => [oCells x u.1 u.2.1 u.2.2, aI g u.1 4 z0, aI g u.2.1 4 z0, aI g u.2.2 16 z0]) := by
  refine CtN.start (by decide +kernel) (Nat.le_of_ble_eq_true rfl) (by simp [Value.category]) ?_
  intro p0 e R s m args below meth c A Q K hnm hRc hRs hr h ls hl
  have hl : Lq ls 1 [some (.ref x)] := hl
  refine r_aln K hl 0 dX2_init_0 rfl rfl ?_
  refine r_oi K hl mlX2_3 (by decide) (Nat.le_of_ble_eq_true rfl) dX2_init_1 ?_
  refine r_aln K hl 0 dX2_init_4 rfl rfl ?_
  refine r_ic K (nI 4) dX2_init_5 k_4 ?_
  refine r_newI K h (by omega) (by omega) (by omega) dX2_init_6 (fun q1 H h => ?_)
  refine r_putF K hnm h ffX2_9 pfX2_0 (fun r hr => by cases hr; rfl) 0 [_, _, _] [_, _] rfl rfl rfl (Nat.le_of_ble_eq_true rfl) rfl rfl dX2_init_8 (fun H locs h => ?_)
  refine r_aln K hl 0 dX2_init_11 rfl rfl ?_
  refine r_ic K (nI 4) dX2_init_12 k_4 ?_
  refine r_newI K h (by omega) (by omega) (by omega) dX2_init_13 (fun q2 H h => ?_)
  refine r_putF K hnm h ffX2_15 pfX2_1 (fun r hr => by cases hr; rfl) 0 [_, _, _] [_, _, _] rfl rfl rfl (Nat.le_of_ble_eq_true rfl) rfl rfl dX2_init_15 (fun H locs h => ?_)
  refine r_aln K hl 0 dX2_init_18 rfl rfl ?_
  refine r_bp K (nI 16) dX2_init_19 kb_16 ?_
  refine r_newI K h (by omega) (by omega) (by omega) dX2_init_21 (fun q3 H h => ?_)
  refine r_putF K hnm h ffX2_18 pfX2_2 (fun r hr => by cases hr; rfl) 0 [_, _, _] [_, _, _, _] rfl rfl rfl (Nat.le_of_ble_eq_true rfl) rfl rfl dX2_init_23 (fun H locs h => ?_)
  exact hr (q1, q2, q3) _ _ _ _ dX2_init_26 h

set_option maxHeartbeats 4000000 in
set_option maxRecDepth 100000 in
theorem c_X1_init (l : Launch) (g : GG) (x : Nat) : CtN l g yX1_init cX1_init 1 1 1 264 [.ref x] [(x, .inr (1, [.int 0, .null]))] (fun u : Nat => [oAlb x u 0, aI g u 264 z0]) := by
  refine CtN.start (by decide +kernel) (Nat.le_of_ble_eq_true rfl) (by simp [Value.category]) ?_
  intro p0 e R s m args below meth c A Q K hnm hRc hRs hr h ls hl
  have hl : Lq ls 1 [some (.ref x)] := hl
  refine r_aln K hl 0 dX1_init_0 rfl rfl ?_
  refine r_oi K hl mlX1_3 (by decide) (Nat.le_of_ble_eq_true rfl) dX1_init_1 ?_
  refine r_aln K hl 0 dX1_init_4 rfl rfl ?_
  refine r_sp K (nI 264) dX1_init_5 ks_264 ?_
  refine r_newI K h (by omega) (by omega) (by omega) dX1_init_8 (fun q1 H h => ?_)
  refine r_putF K hnm h ffX1_11 pfX1_1 (fun r hr => by cases hr; rfl) 0 [_, _] [_, _] rfl rfl rfl (Nat.le_of_ble_eq_true rfl) rfl rfl dX1_init_10 (fun H locs h => ?_)
  exact hr q1 _ _ _ _ dX1_init_13 h

set_option maxHeartbeats 4000000 in
set_option maxRecDepth 100000 in
theorem c_X3_init (l : Launch) (g : GG) (x : Nat) : CtN l g yX3_init cX3_init 1 1 4 76 [.ref x] [(x, .inr (3, [.int 0, .null, .null, .null, .null]))] (fun u : Nat × Nat × Nat × Nat => [oHis x u.1 u.2.1 u.2.2.1 u.2.2.2 0, aI g u.1 24 z0, aI g u.2.1 24 z0, aI g u.2.2.1 24 z0, aI g u.2.2.2 4 z0]) := by
  refine CtN.start (by decide +kernel) (Nat.le_of_ble_eq_true rfl) (by simp [Value.category]) ?_
  intro p0 e R s m args below meth c A Q K hnm hRc hRs hr h ls hl
  have hl : Lq ls 1 [some (.ref x)] := hl
  refine r_aln K hl 0 dX3_init_0 rfl rfl ?_
  refine r_oi K hl mlX3_3 (by decide) (Nat.le_of_ble_eq_true rfl) dX3_init_1 ?_
  refine r_aln K hl 0 dX3_init_4 rfl rfl ?_
  refine r_bp K (nI 24) dX3_init_5 kb_24 ?_
  refine r_newI K h (by omega) (by omega) (by omega) dX3_init_7 (fun q1 H h => ?_)
  refine r_putF K hnm h ffX3_9 pfX3_1 (fun r hr => by cases hr; rfl) 0 [_, _, _, _, _] [_, _] rfl rfl rfl (Nat.le_of_ble_eq_true rfl) rfl rfl dX3_init_9 (fun H locs h => ?_)
  refine r_aln K hl 0 dX3_init_12 rfl rfl ?_
  refine r_bp K (nI 24) dX3_init_13 kb_24 ?_
  refine r_newI K h (by omega) (by omega) (by omega) dX3_init_15 (fun q2 H h => ?_)
  refine r_putF K hnm h ffX3_15 pfX3_2 (fun r hr => by cases hr; rfl) 0 [_, _, _, _, _] [_, _, _] rfl rfl rfl (Nat.le_of_ble_eq_true rfl) rfl rfl dX3_init_17 (fun H locs h => ?_)
  refine r_aln K hl 0 dX3_init_20 rfl rfl ?_
  refine r_bp K (nI 24) dX3_init_21 kb_24 ?_
  refine r_newI K h (by omega) (by omega) (by omega) dX3_init_23 (fun q3 H h => ?_)
  refine r_putF K hnm h ffX3_18 pfX3_3 (fun r hr => by cases hr; rfl) 0 [_, _, _, _, _] [_, _, _, _] rfl rfl rfl (Nat.le_of_ble_eq_true rfl) rfl rfl dX3_init_25 (fun H locs h => ?_)
  refine r_aln K hl 0 dX3_init_28 rfl rfl ?_
  refine r_ic K (nI 4) dX3_init_29 k_4 ?_
  refine r_newI K h (by omega) (by omega) (by omega) dX3_init_30 (fun q4 H h => ?_)
  refine r_putF K hnm h ffX3_21 pfX3_4 (fun r hr => by cases hr; rfl) 0 [_, _, _, _, _] [_, _, _, _, _] rfl rfl rfl (Nat.le_of_ble_eq_true rfl) rfl rfl dX3_init_32 (fun H locs h => ?_)
  exact hr (q1, q2, q3, q4) _ _ _ _ dX3_init_35 h

set_option maxHeartbeats 4000000 in
set_option maxRecDepth 100000 in
theorem c_X0_init (l : Launch) (g : GG) (x : Nat) : CtN l g yX0_init cX0_init 1 2 7 39 [.ref x] [(x, .inr (0, [.int 0, .int 0, .int 0, .int 0, .int 0, .int 0, .int 0, .int 0, .null, .null, .null, .null]))] (fun u : Nat → Nat => actW g (fun j => bif Nat.beq j 0 then x else u j) z0 z0 z0 z0 z0 z0 z0) := by
  refine CtN.start (by decide +kernel) (Nat.le_of_ble_eq_true rfl) (by simp [Value.category]) ?_
  intro p0 e R s m args below meth c A Q K hnm hRc hRs hr h ls hl
  have hl : Lq ls 1 [some (.ref x)] := hl
  refine r_aln K hl 0 dX0_init_0 rfl rfl ?_
  refine r_oi K hl mlX0_3 (by decide) (Nat.le_of_ble_eq_true rfl) dX0_init_1 ?_
  refine r_aln K hl 0 dX0_init_4 rfl rfl ?_
  refine r_ic K (nI 4) dX0_init_5 k_4 ?_
  refine r_newI K h (by omega) (by omega) (by omega) dX0_init_6 (fun q1 H h => ?_)
  refine r_putF K hnm h ffX0_9 pfX0_8 (fun r hr => by cases hr; rfl) 0 [_, _, _, _, _, _, _, _, _, _, _, _] [_, _] rfl rfl rfl (Nat.le_of_ble_eq_true rfl) rfl rfl dX0_init_8 (fun H locs h => ?_)
  refine r_aln K hl 0 dX0_init_11 rfl rfl ?_
  refine r_ic K (nI 4) dX0_init_12 k_4 ?_
  refine r_newI K h (by omega) (by omega) (by omega) dX0_init_13 (fun q2 H h => ?_)
  refine r_putF K hnm h ffX0_15 pfX0_9 (fun r hr => by cases hr; rfl) 0 [_, _, _, _, _, _, _, _, _, _, _, _] [_, _, _] rfl rfl rfl (Nat.le_of_ble_eq_true rfl) rfl rfl dX0_init_15 (fun H locs h => ?_)
  refine r_aln K hl 0 dX0_init_18 rfl rfl ?_
  refine r_ic K (nI 4) dX0_init_19 k_4 ?_
  refine r_newI K h (by omega) (by omega) (by omega) dX0_init_20 (fun q3 H h => ?_)
  refine r_putF K hnm h ffX0_18 pfX0_10 (fun r hr => by cases hr; rfl) 0 [_, _, _, _, _, _, _, _, _, _, _, _] [_, _, _, _] rfl rfl rfl (Nat.le_of_ble_eq_true rfl) rfl rfl dX0_init_22 (fun H locs h => ?_)
  refine r_aln K hl 0 dX0_init_25 rfl rfl ?_
  refine r_new K h wwX2 tyX2 tyX2_ok clX0_21 isX2 inX2 (ci := 2) rfl (fs := [.null, .null, .null]) (fun j hj => by rcases (show j = 0 ∨ j = 1 ∨ j = 2 by omega) with rfl | rfl | rfl <;> rfl) (by omega) (by omega) dX0_init_26 (fun q4 H h => ?_)
  refine r_dup K dX0_init_29 rfl ?_
  refine r_ctorN [_, _, _, _] K h rfl hl (c_X2_init l g q4) mc_X2_init im_X2_init (fun z => z.2.2.2.2.1) rfl (by decide) (by decide) rfl (Nat.le_of_ble_eq_true rfl) ⟨by omega, by omega⟩ dX0_init_30 (fun u H locs h => ?_)
  refine r_putF K hnm h ffX0_24 pfX0_11 (fun r hr => by cases hr; rfl) 0 [_, _, _, _, _, _, _, _, _, _, _, _] [_, _, _, _, _, _, _, _] rfl rfl rfl (Nat.le_of_ble_eq_true rfl) rfl rfl dX0_init_33 (fun H locs h => ?_)
  exact hr (fun j => ([x, q1, q2, q3, q4, u.1, u.2.1, u.2.2] : List Nat).getD j 0) _ _ _ _ dX0_init_36 h

