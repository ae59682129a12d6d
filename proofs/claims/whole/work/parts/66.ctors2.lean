theorem Hp.perm {g : GG} {A : Nat → Prop} {s : State} {H : Heap} {locs : List Loc} {ws ws' : va_W} (h : Hp g A s H locs ws) (e : ws.Perm ws') : Hp g A s H locs ws' := by
  refine ⟨fun k q hk => P_mem h.1 q (e.mem_iff.mpr (List.mem_of_getElem? hk)), nodup_D ((e.map Prod.fst).nodup_iff.mp (D_nodup h.2.1)) (fun q hq => ?_), h.2.2⟩
  obtain ⟨i, hi⟩ := List.getElem?_of_mem (e.mem_iff.mpr hq)
  exact h.2.1.2 i q hi
theorem arr_cgR {cA : ClassId} {n : Nat} {f f' : Nat → Option Nat} (h : ∀ j, j < n → f j = f' j) : vp_cell cA (n, .inr (.inr (.inr (.inr f)))) = vp_cell cA (n, .inr (.inr (.inr (.inr f')))) := by
  rw [vp_cell_q, vp_cell_q]
  unfold arrV
  congr 1
  apply Array.ext
  · simp
  · intro i h1 h2
    simp at h1 ⊢
    rw [h i h1]
theorem Hp.arrR {g : GG} {A : Nat → Prop} {s : State} {H : Heap} {locs : List Loc} {ws : va_W} (h : Hp g A s H locs ws) (q0 : Nat) {a : Nat} {cA : ClassId} {n : Nat} {f : Nat → Option Nat} (f' : Nat → Option Nat) (he : ws[q0]? = some (a, .inl (cA, n, .inr (.inr (.inr (.inr f)))))) (hf : ∀ j, j < n → f j = f' j) : Hp g A s H locs (ws.set q0 (a, .inl (cA, n, .inr (.inr (.inr (.inr f')))))) := by
  refine ⟨fun k q hq => ?_, h.2.1.set he, h.2.2⟩
  by_cases hk : k = q0
  · subst hk
    have hlt : k < (ws.set k (a, .inl (cA, n, .inr (.inr (.inr (.inr f')))))).length := (List.getElem?_eq_some_iff.mp hq).1
    rw [List.length_set] at hlt
    rw [List.getElem?_set_self hlt] at hq
    cases hq
    have := h.1 k _ he
    show H[a]? = some _
    rw [← arr_cgR hf]
    exact this
  · rw [List.getElem?_set_ne (fun e => hk e.symm)] at hq
    exact h.1 k q hq
set_option maxHeartbeats 4000000 in
set_option maxRecDepth 100000 in
theorem c_X6_init (l : Launch) (g : GG) (x : Nat) : CtN l g yX6_init cX6_init 1 2 7 4632 [.ref x] [(x, .inr (6, [.int 0, .null, .null, .null, .int 0, .null, .null, .null, .int 0, .null]))] (fun u : Nat → Nat => mW g (fun j => bif Nat.beq j 0 then x else u j) 0 0 0 (mBares (nI 3) (nI 2) (nI 0)) z0 z0 z0 z0 z0 z0) := by
  refine CtN.start (by decide +kernel) (Nat.le_of_ble_eq_true rfl) (by simp [Value.category]) ?_
  intro p0 e R s m args below meth c A Q K hnm hRc hRs hr h ls hl
  have hl : Lq ls 1 [some (.ref x)] := hl
  refine r_aln K hl 0 dX6_init_0 rfl rfl ?_
  refine r_oi K hl mlX6_1 (by decide) (Nat.le_of_ble_eq_true rfl) dX6_init_1 ?_
  refine r_aln K hl 0 dX6_init_4 rfl rfl ?_
  refine r_sp K (nI 512) dX6_init_5 ks_512 ?_
  refine r_newI K h (by omega) (by omega) (by omega) dX6_init_8 (fun q1 H h => ?_)
  refine r_putF K hnm h ffX6_7 pfX6_1 (fun r hr => by cases hr; rfl) 0 [_, _, _, _, _, _, _, _, _, _] [_, _] rfl rfl rfl (Nat.le_of_ble_eq_true rfl) rfl rfl dX6_init_10 (fun H locs h => ?_)
  refine r_aln K hl 0 dX6_init_13 rfl rfl ?_
  refine r_sp K (nI 512) dX6_init_14 ks_512 ?_
  refine r_newI K h (by omega) (by omega) (by omega) dX6_init_17 (fun q2 H h => ?_)
  refine r_putF K hnm h ffX6_13 pfX6_2 (fun r hr => by cases hr; rfl) 0 [_, _, _, _, _, _, _, _, _, _] [_, _, _] rfl rfl rfl (Nat.le_of_ble_eq_true rfl) rfl rfl dX6_init_19 (fun H locs h => ?_)
  refine r_aln K hl 0 dX6_init_22 rfl rfl ?_
  refine r_sp K (nI 2560) dX6_init_23 ks_2560 ?_
  refine r_newI K h (by omega) (by omega) (by omega) dX6_init_26 (fun q3 H h => ?_)
  refine r_putF K hnm h ffX6_16 pfX6_3 (fun r hr => by cases hr; rfl) 0 [_, _, _, _, _, _, _, _, _, _] [_, _, _, _] rfl rfl rfl (Nat.le_of_ble_eq_true rfl) rfl rfl dX6_init_28 (fun H locs h => ?_)
  refine r_aln K hl 0 dX6_init_31 rfl rfl ?_
  refine r_sp K (nI 1024) dX6_init_32 ks_1024 ?_
  refine r_newI K h (by omega) (by omega) (by omega) dX6_init_35 (fun q4 H h => ?_)
  refine r_putF K hnm h ffX6_19 pfX6_5 (fun r hr => by cases hr; rfl) 0 [_, _, _, _, _, _, _, _, _, _] [_, _, _, _, _] rfl rfl rfl (Nat.le_of_ble_eq_true rfl) rfl rfl dX6_init_37 (fun H locs h => ?_)
  refine r_aln K hl 0 dX6_init_40 rfl rfl ?_
  refine r_ic K (nI 2) dX6_init_41 k_2 ?_
  refine r_newZ K h (by omega) (by omega) (by omega) dX6_init_42 (fun q5 H h => ?_)
  refine r_putF K hnm h ffX6_22 pfX6_6 (fun r hr => by cases hr; rfl) 0 [_, _, _, _, _, _, _, _, _, _] [_, _, _, _, _, _] rfl rfl rfl (Nat.le_of_ble_eq_true rfl) rfl rfl dX6_init_44 (fun H locs h => ?_)
  refine r_aln K hl 0 dX6_init_47 rfl rfl ?_
  refine r_bp K (nI 18) dX6_init_48 kb_18 ?_
  refine r_newI K h (by omega) (by omega) (by omega) dX6_init_50 (fun q6 H h => ?_)
  refine r_putF K hnm h ffX6_26 pfX6_7 (fun r hr => by cases hr; rfl) 0 [_, _, _, _, _, _, _, _, _, _] [_, _, _, _, _, _, _] rfl rfl rfl (Nat.le_of_ble_eq_true rfl) rfl rfl dX6_init_52 (fun H locs h => ?_)
  refine r_aln K hl 0 dX6_init_55 rfl rfl ?_
  refine r_ic K (nI 4) dX6_init_56 k_4 ?_
  refine r_newI K h (by omega) (by omega) (by omega) dX6_init_57 (fun q7 H h => ?_)
  refine r_putF K hnm h ffX6_29 pfX6_9 (fun r hr => by cases hr; rfl) 0 [_, _, _, _, _, _, _, _, _, _] [_, _, _, _, _, _, _, _] rfl rfl rfl (Nat.le_of_ble_eq_true rfl) rfl rfl dX6_init_59 (fun H locs h => ?_)
  refine r_aln K hl 0 dX6_init_62 rfl rfl ?_
  refine r_get K h ffX6_7 0 rfl rfl dX6_init_63 ?_
  refine r_ic K (nI 3) dX6_init_66 k_3 ?_
  refine r_ic K (nI 2) dX6_init_67 k_2 ?_
  refine r_ic K (nI 0) dX6_init_68 k_0 ?_
  refine r_callS K h hl (c_X6_bares l g q1 z0 (nI 3) (nI 2) (nI 0)) mc_X6_bares st_X6_bares mlX6_32 [1] (by decide +kernel) rfl rfl [_, _, _, _, _, _, _, _] rfl (by decide) (by decide) rfl rfl (Nat.le_of_ble_eq_true rfl) ⟨by omega, by omega⟩ dX6_init_69 (fun H locs h => ?_)
  refine W.eq (g2 := F0 m 72 ls []) rfl ?_
  exact hr (fun j => ([x, q1, q2, q3, q4, q5, q6, q7] : List Nat).getD j 0) _ _ _ _ dX6_init_72 h

set_option maxHeartbeats 4000000 in
set_option maxRecDepth 100000 in
theorem c_X4_init (l : Launch) (g : GG) (x : Nat) : CtN l g yX4_init cX4_init 2 3 44 582 [.ref x] [(x, .inr (4, [.int 0, .int 0, .int 0, .int 0, .int 0, .null, .null, .null, .null]))] (fun u : Nat → Nat => wW g (fun j => bif Nat.beq j 0 then x else u j) (fun _ => z0)) := by
  refine CtN.start (by decide +kernel) (Nat.le_of_ble_eq_true rfl) (by simp [Value.category]) ?_
  intro p0 e R s m args below meth c A Q K hnm hRc hRs hr h ls hl
  have hl : Lq ls 2 [some (.ref x), none] := hl
  refine r_aln K hl 0 dX4_init_0 rfl rfl ?_
  refine r_oi K hl mlX4_3 (by decide) (Nat.le_of_ble_eq_true rfl) dX4_init_1 ?_
  refine r_aln K hl 0 dX4_init_4 rfl rfl ?_
  refine r_new K h wwX2 tyX2 tyX2_ok clX4_9 isX2 inX2 (ci := 2) rfl (fs := [.null, .null, .null]) (fun j hj => by rcases (show j = 0 ∨ j = 1 ∨ j = 2 by omega) with rfl | rfl | rfl <;> rfl) (by omega) (by omega) dX4_init_5 (fun q1 H h => ?_)
  refine r_dup K dX4_init_8 rfl ?_
  refine r_ctorN [_] K h rfl hl (c_X2_init l g q1) mc_X2_init im_X2_init (fun z => z.1) rfl (by decide) (by decide) rfl (Nat.le_of_ble_eq_true rfl) ⟨by omega, by omega⟩ dX4_init_9 (fun u1 H locs h => ?_)
  refine r_putF K hnm h ffX4_12 pfX4_5 (fun r hr => by cases hr; rfl) 0 [_, _, _, _, _, _, _, _, _] [_, _, _, _, _] rfl rfl rfl (Nat.le_of_ble_eq_true rfl) rfl rfl dX4_init_12 (fun H locs h => ?_)
  refine r_aln K hl 0 dX4_init_15 rfl rfl ?_
  refine r_ic K (nI 4) dX4_init_16 k_4 ?_
  refine r_newA K h (k := 2) rfl (fun z => z.2.2.1) clX4_18 (by omega) (by omega) (by omega) dX4_init_17 (fun q2 H h => ?_)
  refine r_putF K hnm h ffX4_20 pfX4_6 (fun r hr => by cases hr; rfl) 0 [_, _, _, _, _, _, _, _, _] [_, _, _, _, _, _] rfl rfl rfl (Nat.le_of_ble_eq_true rfl) rfl rfl dX4_init_20 (fun H locs h => ?_)
  refine r_aln K hl 0 dX4_init_23 rfl rfl ?_
  refine r_new K h wwX1 tyX1 tyX1_ok clX4_24 isX1 inX1 (ci := 1) rfl (fs := [.int 0, .null]) (fun j hj => by rcases (show j = 0 ∨ j = 1 by omega) with rfl | rfl <;> rfl) (by omega) (by omega) dX4_init_24 (fun q3 H h => ?_)
  refine r_dup K dX4_init_27 rfl ?_
  refine r_ctorN [_, _, _, _, _, _] K h rfl hl (c_X1_init l g q3) mc_X1_init im_X1_init (fun z => z.2.1) rfl (by decide) (by decide) rfl (Nat.le_of_ble_eq_true rfl) ⟨by omega, by omega⟩ dX4_init_28 (fun u2 H locs h => ?_)
  refine r_putF K hnm h ffX4_27 pfX4_7 (fun r hr => by cases hr; rfl) 0 [_, _, _, _, _, _, _, _, _] [_, _, _, _, _, _, _, _] rfl rfl rfl (Nat.le_of_ble_eq_true rfl) rfl rfl dX4_init_31 (fun H locs h => ?_)
  refine r_aln K hl 0 dX4_init_34 rfl rfl ?_
  refine r_new K h wwX3 tyX3 tyX3_ok clX4_31 isX3 inX3 (ci := 3) rfl (fs := [.int 0, .null, .null, .null, .null]) (fun j hj => by rcases (show j = 0 ∨ j = 1 ∨ j = 2 ∨ j = 3 ∨ j = 4 by omega) with rfl | rfl | rfl | rfl | rfl <;> rfl) (by omega) (by omega) dX4_init_35 (fun q4 H h => ?_)
  refine r_dup K dX4_init_38 rfl ?_
  refine r_ctorN [_, _, _, _, _, _, _, _] K h rfl hl (c_X3_init l g q4) mc_X3_init im_X3_init (fun z => z.2.2.1) rfl (by decide) (by decide) rfl (Nat.le_of_ble_eq_true rfl) ⟨by omega, by omega⟩ dX4_init_39 (fun u3 H locs h => ?_)
  refine r_putF K hnm h ffX4_34 pfX4_8 (fun r hr => by cases hr; rfl) 0 [_, _, _, _, _, _, _, _, _] [_, _, _, _, _, _, _, _, _, _, _, _, _] rfl rfl rfl (Nat.le_of_ble_eq_true rfl) rfl rfl dX4_init_42 (fun H locs h => ?_)
  refine r_ic K (nI 0) dX4_init_45 k_0 ?_
  refine r_isn K hl 1 [_, _] dX4_init_46 rfl (by decide) rfl (fun ls hl => ?_)
  refine r_iln K hl 1 dX4_init_47 rfl rfl ?_
  refine r_ic K (nI 4) dX4_init_48 k_4 ?_
  refine r_cgeN K 71 dX4_init_49 (by decide) (by omega) (by omega) (fun c => absurd c (by decide)) (fun c49 => ?_)
  refine r_aln K hl 0 dX4_init_52 rfl rfl ?_
  refine r_get K h ffX4_20 0 rfl rfl dX4_init_53 ?_
  refine r_iln K hl 1 dX4_init_56 rfl rfl ?_
  refine r_new K h wwX0 tyX0 tyX0_ok clX4_18 isX0 inX0 (ci := 0) rfl (fs := [.int 0, .int 0, .int 0, .int 0, .int 0, .int 0, .int 0, .int 0, .null, .null, .null, .null]) (fun j hj => by rcases (show j = 0 ∨ j = 1 ∨ j = 2 ∨ j = 3 ∨ j = 4 ∨ j = 5 ∨ j = 6 ∨ j = 7 ∨ j = 8 ∨ j = 9 ∨ j = 10 ∨ j = 11 by omega) with rfl | rfl | rfl | rfl | rfl | rfl | rfl | rfl | rfl | rfl | rfl | rfl <;> rfl) (by omega) (by omega) dX4_init_57 (fun q5 H h => ?_)
  refine r_dup K dX4_init_60 rfl ?_
  refine r_ctorN [_, _, _, _, _, _, _, _, _, _, _, _, _] K h rfl hl (c_X0_init l g q5) mc_X0_init im_X0_init (fun z => z.2.2.2.1) rfl (by decide) (by decide) rfl (Nat.le_of_ble_eq_true rfl) ⟨by omega, by omega⟩ dX4_init_61 (fun v0 H locs h => ?_)
  refine r_ast K h 5 2 13 0 [_, _, _, _, _, _, _, _, _, _, _, _, _, _, _, _, _, _, _, _, _] rfl rfl rfl rfl (by omega) (by decide) rfl dX4_init_64 (fun H locs h => ?_)
  refine r_incN K hl (k := 1) [_, _] dX4_init_65 rfl (by decide) rfl (fun ls hl => ?_)
  refine r_go K 47 dX4_init_68 (by decide) ?_
  refine r_iln K hl 1 dX4_init_47 rfl rfl ?_
  refine r_ic K (nI 4) dX4_init_48 k_4 ?_
  refine r_cgeN K 71 dX4_init_49 (by decide) (by omega) (by omega) (fun c => absurd c (by decide)) (fun c49 => ?_)
  refine r_aln K hl 0 dX4_init_52 rfl rfl ?_
  refine r_get K h ffX4_20 0 rfl rfl dX4_init_53 ?_
  refine r_iln K hl 1 dX4_init_56 rfl rfl ?_
  refine r_new K h wwX0 tyX0 tyX0_ok clX4_18 isX0 inX0 (ci := 0) rfl (fs := [.int 0, .int 0, .int 0, .int 0, .int 0, .int 0, .int 0, .int 0, .null, .null, .null, .null]) (fun j hj => by rcases (show j = 0 ∨ j = 1 ∨ j = 2 ∨ j = 3 ∨ j = 4 ∨ j = 5 ∨ j = 6 ∨ j = 7 ∨ j = 8 ∨ j = 9 ∨ j = 10 ∨ j = 11 by omega) with rfl | rfl | rfl | rfl | rfl | rfl | rfl | rfl | rfl | rfl | rfl | rfl <;> rfl) (by omega) (by omega) dX4_init_57 (fun q6 H h => ?_)
  refine r_dup K dX4_init_60 rfl ?_
  refine r_ctorN [_, _, _, _, _, _, _, _, _, _, _, _, _, _, _, _, _, _, _, _, _] K h rfl hl (c_X0_init l g q6) mc_X0_init im_X0_init (fun z => z.2.2.2.1) rfl (by decide) (by decide) rfl (Nat.le_of_ble_eq_true rfl) ⟨by omega, by omega⟩ dX4_init_61 (fun v1 H locs h => ?_)
  refine r_ast K h 5 2 21 0 [_, _, _, _, _, _, _, _, _, _, _, _, _, _, _, _, _, _, _, _, _, _, _, _, _, _, _, _, _] rfl rfl rfl rfl (by omega) (by decide) rfl dX4_init_64 (fun H locs h => ?_)
  refine r_incN K hl (k := 1) [_, _] dX4_init_65 rfl (by decide) rfl (fun ls hl => ?_)
  refine r_go K 47 dX4_init_68 (by decide) ?_
  refine r_iln K hl 1 dX4_init_47 rfl rfl ?_
  refine r_ic K (nI 4) dX4_init_48 k_4 ?_
  refine r_cgeN K 71 dX4_init_49 (by decide) (by omega) (by omega) (fun c => absurd c (by decide)) (fun c49 => ?_)
  refine r_aln K hl 0 dX4_init_52 rfl rfl ?_
  refine r_get K h ffX4_20 0 rfl rfl dX4_init_53 ?_
  refine r_iln K hl 1 dX4_init_56 rfl rfl ?_
  refine r_new K h wwX0 tyX0 tyX0_ok clX4_18 isX0 inX0 (ci := 0) rfl (fs := [.int 0, .int 0, .int 0, .int 0, .int 0, .int 0, .int 0, .int 0, .null, .null, .null, .null]) (fun j hj => by rcases (show j = 0 ∨ j = 1 ∨ j = 2 ∨ j = 3 ∨ j = 4 ∨ j = 5 ∨ j = 6 ∨ j = 7 ∨ j = 8 ∨ j = 9 ∨ j = 10 ∨ j = 11 by omega) with rfl | rfl | rfl | rfl | rfl | rfl | rfl | rfl | rfl | rfl | rfl | rfl <;> rfl) (by omega) (by omega) dX4_init_57 (fun q7 H h => ?_)
  refine r_dup K dX4_init_60 rfl ?_
  refine r_ctorN [_, _, _, _, _, _, _, _, _, _, _, _, _, _, _, _, _, _, _, _, _, _, _, _, _, _, _, _, _] K h rfl hl (c_X0_init l g q7) mc_X0_init im_X0_init (fun z => z.2.2.2.1) rfl (by decide) (by decide) rfl (Nat.le_of_ble_eq_true rfl) ⟨by omega, by omega⟩ dX4_init_61 (fun v2 H locs h => ?_)
  refine r_ast K h 5 2 29 0 [_, _, _, _, _, _, _, _, _, _, _, _, _, _, _, _, _, _, _, _, _, _, _, _, _, _, _, _, _, _, _, _, _, _, _, _, _] rfl rfl rfl rfl (by omega) (by decide) rfl dX4_init_64 (fun H locs h => ?_)
  refine r_incN K hl (k := 1) [_, _] dX4_init_65 rfl (by decide) rfl (fun ls hl => ?_)
  refine r_go K 47 dX4_init_68 (by decide) ?_
  refine r_iln K hl 1 dX4_init_47 rfl rfl ?_
  refine r_ic K (nI 4) dX4_init_48 k_4 ?_
  refine r_cgeN K 71 dX4_init_49 (by decide) (by omega) (by omega) (fun c => absurd c (by decide)) (fun c49 => ?_)
  refine r_aln K hl 0 dX4_init_52 rfl rfl ?_
  refine r_get K h ffX4_20 0 rfl rfl dX4_init_53 ?_
  refine r_iln K hl 1 dX4_init_56 rfl rfl ?_
  refine r_new K h wwX0 tyX0 tyX0_ok clX4_18 isX0 inX0 (ci := 0) rfl (fs := [.int 0, .int 0, .int 0, .int 0, .int 0, .int 0, .int 0, .int 0, .null, .null, .null, .null]) (fun j hj => by rcases (show j = 0 ∨ j = 1 ∨ j = 2 ∨ j = 3 ∨ j = 4 ∨ j = 5 ∨ j = 6 ∨ j = 7 ∨ j = 8 ∨ j = 9 ∨ j = 10 ∨ j = 11 by omega) with rfl | rfl | rfl | rfl | rfl | rfl | rfl | rfl | rfl | rfl | rfl | rfl <;> rfl) (by omega) (by omega) dX4_init_57 (fun q8 H h => ?_)
  refine r_dup K dX4_init_60 rfl ?_
  refine r_ctorN [_, _, _, _, _, _, _, _, _, _, _, _, _, _, _, _, _, _, _, _, _, _, _, _, _, _, _, _, _, _, _, _, _, _, _, _, _] K h rfl hl (c_X0_init l g q8) mc_X0_init im_X0_init (fun z => z.2.2.2.1) rfl (by decide) (by decide) rfl (Nat.le_of_ble_eq_true rfl) ⟨by omega, by omega⟩ dX4_init_61 (fun v3 H locs h => ?_)
  refine r_ast K h 5 2 37 0 [_, _, _, _, _, _, _, _, _, _, _, _, _, _, _, _, _, _, _, _, _, _, _, _, _, _, _, _, _, _, _, _, _, _, _, _, _, _, _, _, _, _, _, _, _] rfl rfl rfl rfl (by omega) (by decide) rfl dX4_init_64 (fun H locs h => ?_)
  refine r_incN K hl (k := 1) [_, _] dX4_init_65 rfl (by decide) rfl (fun ls hl => ?_)
  refine r_go K 47 dX4_init_68 (by decide) ?_
  refine r_iln K hl 1 dX4_init_47 rfl rfl ?_
  refine r_ic K (nI 4) dX4_init_48 k_4 ?_
  refine r_cgeN K 71 dX4_init_49 (by decide) (by omega) (by omega) (fun c49 => ?_) (fun c => absurd c (by decide))
  have ⟨a, ha⟩ : ∃ a : Nat → Nat, a = fun j => ([x, q1, u1.1, u1.2.1, u1.2.2, q2, q5, (v0 1), (v0 2), (v0 3), (v0 4), (v0 5), (v0 6), (v0 7), q6, (v1 1), (v1 2), (v1 3), (v1 4), (v1 5), (v1 6), (v1 7), q7, (v2 1), (v2 2), (v2 3), (v2 4), (v2 5), (v2 6), (v2 7), q8, (v3 1), (v3 2), (v3 3), (v3 4), (v3 5), (v3 6), (v3 7), q3, u2, q4, u3.1, u3.2.1, u3.2.2.1, u3.2.2.2] : List Nat).getD j 0 := ⟨_, rfl⟩
  have h := h.arrR 5 (fun i => some (a (6 + 8 * i))) rfl (fun j hj => by subst ha; rcases (show j = 0 ∨ j = 1 ∨ j = 2 ∨ j = 3 by omega) with rfl | rfl | rfl | rfl <;> rfl)
  have h := h.to (show _ = sA g a (fun _ => z0) ++ (sC g a (fun _ => z0) ++ (sR g a ++ (sL g a (fun _ => z0) ++ (sH g a (fun _ => z0) ++ (sT g a (fun _ => z0) 0 ++ (sT g a (fun _ => z0) 1 ++ (sT g a (fun _ => z0) 2 ++ sT g a (fun _ => z0) 3))))))) by subst ha; rfl)
  have h := h.perm (ws' := wW g a (fun _ => z0)) (perm_cnt fun c hc => by rw [wW_seg]; simp only [hc]; omega)
  have ea : (fun j => bif Nat.beq j 0 then x else a j) = a := by
    funext j
    cases j with
    | zero => subst ha; rfl
    | succ j => rfl
  exact hr a _ _ _ _ dX4_init_71 (h.to (show wW g a (fun _ => z0) = wW g (fun j => bif Nat.beq j 0 then x else a j) (fun _ => z0) by rw [ea]))

