theorem narZ {x : Int32} (h : x = nI 0 ∨ x = nI 1) : narrow .boolean (.int x) = .int x ∧ fits .boolean (.int x) = true := by rcases h with h | h <;> rw [h] <;> exact ⟨rfl, by decide⟩

set_option maxHeartbeats 4000000 in
set_option maxRecDepth 100000 in
theorem c_X0_copyFrom (l : Launch) (g : GG) (b b2 : Nat → Nat) (k ph mv ah rv rs rw k2 ph2 mv2 ah2 rv2 rs2 rw2 : Row) (hz : k2 6 = nI 0 ∨ k2 6 = nI 1) : Ct l g yX0_copyFrom cX0_copyFrom 2 none 3 [.ref (b 0), .ref (b2 0)] (actW g b k ph mv ah rv rs rw ++ actW g b2 k2 ph2 mv2 ah2 rv2 rs2 rw2) none (actW g b k2 ph2 mv2 ah2 rv2 rs2 rw2 ++ actW g b2 k2 ph2 mv2 ah2 rv2 rs2 rw2) := by
  refine Ct.start (by decide +kernel) (Nat.le_of_ble_eq_true rfl) (by simp [Value.category]) (Or.inl ⟨rfl, rfl⟩) ?_
  intro p0 e R s m args below meth c A Q K hr h ls hl
  have hl : Lq ls 2 [some (.ref (b 0)), some (.ref (b2 0))] := hl
  have h := h.to (show _ = [oAct b k, aI g (b 1) 4 ph, aI g (b 2) 4 mv, aI g (b 3) 4 ah, oCells (b 4) (b 5) (b 6) (b 7), aI g (b 5) 4 rv, aI g (b 6) 4 rs, aI g (b 7) 16 rw, oAct b2 k2, aI g (b2 1) 4 ph2, aI g (b2 2) 4 mv2, aI g (b2 3) 4 ah2, oCells (b2 4) (b2 5) (b2 6) (b2 7), aI g (b2 5) 4 rv2, aI g (b2 6) 4 rs2, aI g (b2 7) 16 rw2] from rfl)
  refine r_aln K hl 0 dX0_copyFrom_0 rfl rfl ?_
  refine r_aln K hl 1 dX0_copyFrom_1 rfl rfl ?_
  refine r_get K h ffX0_28 8 rfl rfl dX0_copyFrom_2 ?_
  refine r_put K h ffX0_28 pfX0_0 0 [_, _, _, _, _, _, _, _, _, _, _, _] [_, _, _, _, _, _, _, _, _, _, _, _, _, _, _, _] rfl rfl rfl (Nat.le_of_ble_eq_true rfl) rfl rfl dX0_copyFrom_5 (fun H locs h => ?_)
  refine r_aln K hl 0 dX0_copyFrom_8 rfl rfl ?_
  refine r_aln K hl 1 dX0_copyFrom_9 rfl rfl ?_
  refine r_get K h ffX0_32 8 rfl rfl dX0_copyFrom_10 ?_
  refine r_put K h ffX0_32 pfX0_1 0 [_, _, _, _, _, _, _, _, _, _, _, _] [_, _, _, _, _, _, _, _, _, _, _, _, _, _, _, _] rfl rfl rfl (Nat.le_of_ble_eq_true rfl) rfl rfl dX0_copyFrom_13 (fun H locs h => ?_)
  refine r_aln K hl 0 dX0_copyFrom_16 rfl rfl ?_
  refine r_aln K hl 1 dX0_copyFrom_17 rfl rfl ?_
  refine r_get K h ffX0_35 8 rfl rfl dX0_copyFrom_18 ?_
  refine r_put K h ffX0_35 pfX0_2 0 [_, _, _, _, _, _, _, _, _, _, _, _] [_, _, _, _, _, _, _, _, _, _, _, _, _, _, _, _] rfl rfl rfl (Nat.le_of_ble_eq_true rfl) rfl rfl dX0_copyFrom_21 (fun H locs h => ?_)
  refine r_aln K hl 0 dX0_copyFrom_24 rfl rfl ?_
  refine r_aln K hl 1 dX0_copyFrom_25 rfl rfl ?_
  refine r_get K h ffX0_38 8 rfl rfl dX0_copyFrom_26 ?_
  refine r_put K h ffX0_38 pfX0_3 0 [_, _, _, _, _, _, _, _, _, _, _, _] [_, _, _, _, _, _, _, _, _, _, _, _, _, _, _, _] rfl rfl rfl (Nat.le_of_ble_eq_true rfl) rfl rfl dX0_copyFrom_29 (fun H locs h => ?_)
  refine r_aln K hl 0 dX0_copyFrom_32 rfl rfl ?_
  refine r_aln K hl 1 dX0_copyFrom_33 rfl rfl ?_
  refine r_get K h ffX0_41 8 rfl rfl dX0_copyFrom_34 ?_
  refine r_put K h ffX0_41 pfX0_4 0 [_, _, _, _, _, _, _, _, _, _, _, _] [_, _, _, _, _, _, _, _, _, _, _, _, _, _, _, _] rfl rfl rfl (Nat.le_of_ble_eq_true rfl) rfl rfl dX0_copyFrom_37 (fun H locs h => ?_)
  refine r_aln K hl 0 dX0_copyFrom_40 rfl rfl ?_
  refine r_aln K hl 1 dX0_copyFrom_41 rfl rfl ?_
  refine r_get K h ffX0_44 8 rfl rfl dX0_copyFrom_42 ?_
  refine r_put K h ffX0_44 pfX0_5 0 [_, _, _, _, _, _, _, _, _, _, _, _] [_, _, _, _, _, _, _, _, _, _, _, _, _, _, _, _] rfl rfl rfl (Nat.le_of_ble_eq_true rfl) rfl rfl dX0_copyFrom_45 (fun H locs h => ?_)
  refine r_aln K hl 0 dX0_copyFrom_48 rfl rfl ?_
  refine r_aln K hl 1 dX0_copyFrom_49 rfl rfl ?_
  refine r_get K h ffX0_47 8 rfl rfl dX0_copyFrom_50 ?_
  refine r_put K h ffX0_47 pfX0_6 0 [_, _, _, _, _, _, _, _, _, _, _, _] [_, _, _, _, _, _, _, _, _, _, _, _, _, _, _, _] rfl (narZ hz).1 (narZ hz).2 (Nat.le_of_ble_eq_true rfl) rfl rfl dX0_copyFrom_53 (fun H locs h => ?_)
  refine r_aln K hl 0 dX0_copyFrom_56 rfl rfl ?_
  refine r_aln K hl 1 dX0_copyFrom_57 rfl rfl ?_
  refine r_get K h ffX0_51 8 rfl rfl dX0_copyFrom_58 ?_
  refine r_put K h ffX0_51 pfX0_7 0 [_, _, _, _, _, _, _, _, _, _, _, _] [_, _, _, _, _, _, _, _, _, _, _, _, _, _, _, _] rfl rfl rfl (Nat.le_of_ble_eq_true rfl) rfl rfl dX0_copyFrom_61 (fun H locs h => ?_)
  refine r_aln K hl 1 dX0_copyFrom_64 rfl rfl ?_
  refine r_get K h ffX0_9 8 rfl rfl dX0_copyFrom_65 ?_
  refine r_aln K hl 0 dX0_copyFrom_68 rfl rfl ?_
  refine r_get K h ffX0_9 0 rfl rfl dX0_copyFrom_69 ?_
  refine r_callSN K h hl (c_X5_copyAll l g (b2 1) (b 1) 4 ph2 ph (by decide)) mc_X5_copyAll st_X5_copyAll nnX0_63 [9, 1] rfl rfl rfl [_, _, _, _, _, _, _, _, _, _, _, _, _, _, _, _] rfl (by decide) (by decide) rfl rfl (Nat.le_of_ble_eq_true rfl) ⟨Nat.zero_le _, Nat.zero_le _⟩ dX0_copyFrom_72 (fun H locs h => ?_)
  refine W.eq (g2 := F0 m 75 ls []) rfl ?_
  refine r_aln K hl 1 dX0_copyFrom_75 rfl rfl ?_
  refine r_get K h ffX0_15 8 rfl rfl dX0_copyFrom_76 ?_
  refine r_aln K hl 0 dX0_copyFrom_79 rfl rfl ?_
  refine r_get K h ffX0_15 0 rfl rfl dX0_copyFrom_80 ?_
  refine r_callSN K h hl (c_X5_copyAll l g (b2 2) (b 2) 4 mv2 mv (by decide)) mc_X5_copyAll st_X5_copyAll nnX0_63 [10, 2] rfl rfl rfl [_, _, _, _, _, _, _, _, _, _, _, _, _, _, _, _] rfl (by decide) (by decide) rfl rfl (Nat.le_of_ble_eq_true rfl) ⟨Nat.zero_le _, Nat.zero_le _⟩ dX0_copyFrom_83 (fun H locs h => ?_)
  refine W.eq (g2 := F0 m 86 ls []) rfl ?_
  refine r_aln K hl 1 dX0_copyFrom_86 rfl rfl ?_
  refine r_get K h ffX0_18 8 rfl rfl dX0_copyFrom_87 ?_
  refine r_aln K hl 0 dX0_copyFrom_90 rfl rfl ?_
  refine r_get K h ffX0_18 0 rfl rfl dX0_copyFrom_91 ?_
  refine r_callSN K h hl (c_X5_copyAll l g (b2 3) (b 3) 4 ah2 ah (by decide)) mc_X5_copyAll st_X5_copyAll nnX0_63 [11, 3] rfl rfl rfl [_, _, _, _, _, _, _, _, _, _, _, _, _, _, _, _] rfl (by decide) (by decide) rfl rfl (Nat.le_of_ble_eq_true rfl) ⟨Nat.zero_le _, Nat.zero_le _⟩ dX0_copyFrom_94 (fun H locs h => ?_)
  refine W.eq (g2 := F0 m 97 ls []) rfl ?_
  refine r_aln K hl 0 dX0_copyFrom_97 rfl rfl ?_
  refine r_get K h ffX0_24 0 rfl rfl dX0_copyFrom_98 ?_
  refine r_aln K hl 1 dX0_copyFrom_101 rfl rfl ?_
  refine r_get K h ffX0_24 8 rfl rfl dX0_copyFrom_102 ?_
  refine r_callV K h hl (c_X2_copyFrom l g (b 4) (b 5) (b 6) (b 7) (b2 4) (b2 5) (b2 6) (b2 7) rv rs rw rv2 rs2 rw2) mc_X2_copyFrom vm_X2_copyFrom mlX0_67 4 rfl rfl rfl [4, 5, 6, 7, 12, 13, 14, 15] rfl rfl rfl [_, _, _, _, _, _, _, _, _, _, _, _, _, _, _, _] rfl (by decide) (by decide) rfl rfl (Nat.le_of_ble_eq_true rfl) ⟨Nat.zero_le _, Nat.zero_le _⟩ dX0_copyFrom_105 (fun H locs h => ?_)
  refine W.eq (g2 := F0 m 108 ls []) rfl ?_
  exact hr.2 _ _ _ _ dX0_copyFrom_108 h rfl

set_option maxHeartbeats 4000000 in
set_option maxRecDepth 100000 in
theorem c_X0_readOne (l : Launch) (g : GG) (b : Nat → Nat) (k ph mv ah rv rs rw : Row) (x0 x1 x2 x3 : Nat) (f1 f2 f3 : Row) (nc : Nat) (hnc : nc < 4) (hk4 : k 4 = nI nc) : Ct l g yX0_readOne cX0_readOne 2 none 2 [.ref (b 0), .ref x0] (actW g b k ph mv ah rv rs rw ++ [oCells x0 x1 x2 x3, aI g x1 4 f1, aI g x2 4 f2, aI g x3 16 f3]) none (actW g b (upd k 4 (nI (nc + 1))) ph mv ah (upd rv nc (f1 nc)) (upd rs nc (f2 nc)) (va_cpy f3 rw (nc * 4) (nc * 4) 4) ++ [oCells x0 x1 x2 x3, aI g x1 4 f1, aI g x2 4 f2, aI g x3 16 f3]) := by
  refine Ct.start (by decide +kernel) (Nat.le_of_ble_eq_true rfl) (by simp [Value.category]) (Or.inl ⟨rfl, rfl⟩) ?_
  intro p0 e R s m args below meth c A Q K hr h ls hl
  have hl : Lq ls 2 [some (.ref (b 0)), some (.ref x0)] := hl
  have h := h.to (show _ = [oAct b k, aI g (b 1) 4 ph, aI g (b 2) 4 mv, aI g (b 3) 4 ah, oCells (b 4) (b 5) (b 6) (b 7), aI g (b 5) 4 rv, aI g (b 6) 4 rs, aI g (b 7) 16 rw, oCells x0 x1 x2 x3, aI g x1 4 f1, aI g x2 4 f2, aI g x3 16 f3] from rfl)
  have h := h.to (show _ = [(b 0, .inr (0, [.int (k 0), .int (k 1), .int (k 2), .int (k 3), .int (nI nc), .int (k 5), .int (k 6), .int (k 7), .ref (b 1), .ref (b 2), .ref (b 3), .ref (b 4)])), aI g (b 1) 4 ph, aI g (b 2) 4 mv, aI g (b 3) 4 ah, oCells (b 4) (b 5) (b 6) (b 7), aI g (b 5) 4 rv, aI g (b 6) 4 rs, aI g (b 7) 16 rw, oCells x0 x1 x2 x3, aI g x1 4 f1, aI g x2 4 f2, aI g x3 16 f3] by rw [oAct, hk4])
  refine r_aln K hl 0 dX0_readOne_0 rfl rfl ?_
  refine r_get K h ffX0_24 0 rfl rfl dX0_readOne_1 ?_
  refine r_aln K hl 1 dX0_readOne_4 rfl rfl ?_
  refine r_aln K hl 0 dX0_readOne_5 rfl rfl ?_
  refine r_get K h ffX0_41 0 rfl rfl dX0_readOne_6 ?_
  refine r_callV K h hl (c_X2_copyOne l g (b 4) (b 5) (b 6) (b 7) x0 x1 x2 x3 rv rs rw f1 f2 f3 nc hnc) mc_X2_copyOne vm_X2_copyOne mlX0_71 4 rfl rfl rfl [4, 5, 6, 7, 8, 9, 10, 11] rfl rfl rfl [_, _, _, _, _, _, _, _, _, _, _, _] rfl (by decide) (by decide) rfl rfl (Nat.le_of_ble_eq_true rfl) ⟨Nat.zero_le _, Nat.zero_le _⟩ dX0_readOne_9 (fun H locs h => ?_)
  refine W.eq (g2 := F0 m 12 ls []) rfl ?_
  refine r_aln K hl 0 dX0_readOne_12 rfl rfl ?_
  refine r_dup K dX0_readOne_13 rfl ?_
  refine r_get K h ffX0_41 0 rfl rfl dX0_readOne_14 ?_
  refine r_ic K (nI 1) dX0_readOne_17 k_1 ?_
  refine r_addN K dX0_readOne_18 ?_
  refine r_put K h ffX0_41 pfX0_4 0 [_, _, _, _, _, _, _, _, _, _, _, _] [_, _, _, _, _, _, _, _, _, _, _, _] rfl rfl rfl (Nat.le_of_ble_eq_true rfl) rfl rfl dX0_readOne_19 (fun H locs h => ?_)
  exact hr.2 _ _ _ _ dX0_readOne_22 h rfl

theorem cMv_o {mv rs ah : Row} {n c : Nat} (h : n ≤ c) : cMv mv rs ah n c = mv c := if_neg (by omega)
theorem cMv_st {mv rs ah : Row} {i : Nat} (h : ¬ rs i = ah i) : upd (cMv mv rs ah i) i (mv i + nI 1) = cMv mv rs ah (i + 1) := by
  funext j
  unfold upd cMv
  by_cases e : j = i
  · subst e; rw [if_pos rfl, if_pos ⟨by omega, h⟩]
  · rw [if_neg e]
    by_cases q : j < i ∧ rs j ≠ ah j
    · rw [if_pos q, if_pos ⟨by omega, q.2⟩]
    · rw [if_neg q, if_neg (fun r => q ⟨by omega, r.2⟩)]
theorem cMv_sf {mv rs ah : Row} {i : Nat} (h : rs i = ah i) : cMv mv rs ah i = cMv mv rs ah (i + 1) := by
  funext j
  unfold cMv
  by_cases q : j < i ∧ rs j ≠ ah j
  · rw [if_pos q, if_pos ⟨by omega, q.2⟩]
  · rw [if_neg q, if_neg]
    intro r
    refine q ⟨?_, r.2⟩
    by_cases e : j = i
    · subst e; exact absurd h r.2
    · have := r.1; omega

set_option maxHeartbeats 4000000 in
set_option maxRecDepth 100000 in
theorem c_X0_countMoves (l : Launch) (g : GG) (b : Nat → Nat) (k ph mv ah rv rs rw : Row) (n : Nat) (hn : n ≤ 4) : Ct l g yX0_countMoves cX0_countMoves 4 (some .boolean) 0 [.ref (b 0), .int (nI n)] (actW g b (k) (ph) (mv) (ah) (rv) (rs) (rw)) (some (.int (bI (cAny rs ah n)))) (actW g b (k) (ph) (cMv mv rs ah n) (ah) (rv) (rs) (rw)) := by
  refine Ct.start (by decide +kernel) (Nat.le_of_ble_eq_true rfl) (by simp [Value.category]) (Or.inr ⟨.boolean, _, rfl, rfl, narB _⟩) ?_
  intro p0 e R s m args below meth c A Q K hr h ls hl
  have hl : Lq ls 4 [some (.ref (b 0)), some (.int (nI n)), none, none] := hl
  refine r_ic K (nI 0) dX0_countMoves_0 k_0 ?_
  refine r_isn K hl 2 [_, _, _, _] dX0_countMoves_1 rfl (by decide) rfl (fun ls hl => ?_)
  refine r_ic K (nI 0) dX0_countMoves_2 k_0 ?_
  refine r_isn K hl 3 [_, _, _, _] dX0_countMoves_3 rfl (by decide) rfl (fun ls hl => ?_)
  have loop : ∀ (j i : Nat), i + j = n → ∀ (H : Heap) (locs : List Loc), Hp g A s H locs (actW g b (k) (ph) (cMv mv rs ah i) (ah) (rv) (rs) (rw)) → ∀ ls, Lq ls 4 [some (.ref (b 0)), some (.int (nI n)), some (.int (bI (cAny rs ah i))), some (.int (nI i))] → W p0 l e R s m args below meth c H locs 0 0 Q (F0 m 4 ls []) := by
    intro j
    induction j with
    | zero =>
      intro i hk H locs h ls hl
      obtain rfl : i = n := by omega
      refine r_iln K hl 3 dX0_countMoves_4 rfl rfl ?_
      refine r_iln K hl 1 dX0_countMoves_5 rfl rfl ?_
      refine r_cgeN K 45 dX0_countMoves_6 (by decide) (by omega) (by omega) (fun c6 => ?_) (fun c => absurd c (by omega))
      refine r_iln K hl 2 dX0_countMoves_45 rfl rfl ?_
      exact hr.1 _ _ _ _ _ dX0_countMoves_46 h rfl
    | succ j ih =>
      intro i hk H locs h ls hl
      refine r_iln K hl 3 dX0_countMoves_4 rfl rfl ?_
      refine r_iln K hl 1 dX0_countMoves_5 rfl rfl ?_
      refine r_cgeN K 45 dX0_countMoves_6 (by decide) (by omega) (by omega) (fun c => absurd c (by omega)) (fun c6 => ?_)
      refine r_aln K hl 0 dX0_countMoves_9 rfl rfl ?_
      refine r_get K h ffX0_24 0 rfl rfl dX0_countMoves_10 ?_
      refine r_get K h ffX0_93 4 rfl rfl dX0_countMoves_13 ?_
      refine r_iln K hl 3 dX0_countMoves_16 rfl rfl ?_
      refine r_ial K h 6 rfl (by omega) (by decide) dX0_countMoves_17 ?_
      refine r_aln K hl 0 dX0_countMoves_18 rfl rfl ?_
      refine r_get K h ffX0_18 0 rfl rfl dX0_countMoves_19 ?_
      refine r_iln K hl 3 dX0_countMoves_22 rfl rfl ?_
      refine r_ial K h 3 rfl (by omega) (by decide) dX0_countMoves_23 ?_
      refine r_ceq K 39 dX0_countMoves_24 (by decide) (fun c24 => ?_) (fun c24 => ?_)
      · refine r_incN K hl (k := 1) [_, _, _, _] dX0_countMoves_39 rfl (by decide) rfl (fun ls hl => ?_)
        refine r_go K 4 dX0_countMoves_42 (by decide) ?_
        exact ih (i + 1) (by omega) _ _ (h.to (by rw [cMv_sf c24])) _ (by rw [cAny, decide_eq_false (fun q => q c24), Bool.or_false]; exact hl)
      · refine r_ic K (nI 1) dX0_countMoves_27 k_1 ?_
        refine r_isn K hl 2 [_, _, _, _] dX0_countMoves_28 rfl (by decide) rfl (fun ls hl => ?_)
        refine r_aln K hl 0 dX0_countMoves_29 rfl rfl ?_
        refine r_get K h ffX0_15 0 rfl rfl dX0_countMoves_30 ?_
        refine r_iln K hl 3 dX0_countMoves_33 rfl rfl ?_
        refine r_dup2 K dX0_countMoves_34 rfl rfl ?_
        refine r_ialE K h 2 rfl (by omega) (by decide) (cMv_o (Nat.le_refl i)) dX0_countMoves_35 ?_
        refine r_ic K (nI 1) dX0_countMoves_36 k_1 ?_
        refine r_add K dX0_countMoves_37 ?_
        refine r_ias K h 2 [_, _, _, _, _, _, _, _] rfl (by omega) (by decide) rfl dX0_countMoves_38 (fun H locs h => ?_)
        refine r_incN K hl (k := 1) [_, _, _, _] dX0_countMoves_39 rfl (by decide) rfl (fun ls hl => ?_)
        refine r_go K 4 dX0_countMoves_42 (by decide) ?_
        exact ih (i + 1) (by omega) _ _ (h.to (by rw [cMv_st c24])) _ (by rw [cAny, decide_eq_true c24, Bool.or_true]; exact hl)
  exact loop n 0 (by omega) _ _ (h.to (by rw [show cMv mv rs ah 0 = mv from funext (fun j => cMv_o (Nat.zero_le j))])) _ hl

set_option maxHeartbeats 4000000 in
set_option maxRecDepth 100000 in
theorem c_X0_lowestMoved (l : Launch) (g : GG) (b : Nat → Nat) (k ph mv ah rv rs rw : Row) (n : Nat) (m1 : Int32) (hn : n ≤ 4) : Ct l g yX0_lowestMoved cX0_lowestMoved 4 (some .int) 0 [.ref (b 0), .int (nI n), .int m1] (actW g b (k) (ph) (mv) (ah) (rv) (rs) (rw)) (some (.int (lentI (cLow mv m1 0 n)))) (actW g b (k) (ph) (mv) (ah) (rv) (rs) (rw)) := by
  refine Ct.start (by decide +kernel) (Nat.le_of_ble_eq_true rfl) (by simp [Value.category]) (Or.inr ⟨.int, _, rfl, rfl, rfl⟩) ?_
  intro p0 e R s m args below meth c A Q K hr h ls hl
  have hl : Lq ls 4 [some (.ref (b 0)), some (.int (nI n)), some (.int m1), none] := hl
  refine r_ic K (nI 0) dX0_lowestMoved_0 k_0 ?_
  refine r_isn K hl 3 [_, _, _, _] dX0_lowestMoved_1 rfl (by decide) rfl (fun ls hl => ?_)
  have loop : ∀ (j i : Nat), i + j = n → cLow mv m1 i j = cLow mv m1 0 n → ∀ (H : Heap) (locs : List Loc), Hp g A s H locs (actW g b (k) (ph) (mv) (ah) (rv) (rs) (rw)) → ∀ ls, Lq ls 4 [some (.ref (b 0)), some (.int (nI n)), some (.int m1), some (.int (nI i))] → W p0 l e R s m args below meth c H locs 0 0 Q (F0 m 2 ls []) := by
    intro j
    induction j with
    | zero =>
      intro i hk e1 H locs h ls hl
      refine r_iln K hl 3 dX0_lowestMoved_2 rfl rfl ?_
      refine r_iln K hl 1 dX0_lowestMoved_3 rfl rfl ?_
      refine r_cgeN K 25 dX0_lowestMoved_4 (by decide) (by omega) (by omega) (fun c4 => ?_) (fun c => absurd c (by omega))
      refine r_bp K (-9) dX0_lowestMoved_25 kb_m9 ?_
      exact hr.1 _ _ _ _ _ dX0_lowestMoved_27 h (by rw [← e1]; rfl)
    | succ j ih =>
      intro i hk e1 H locs h ls hl
      refine r_iln K hl 3 dX0_lowestMoved_2 rfl rfl ?_
      refine r_iln K hl 1 dX0_lowestMoved_3 rfl rfl ?_
      refine r_cgeN K 25 dX0_lowestMoved_4 (by decide) (by omega) (by omega) (fun c => absurd c (by omega)) (fun c4 => ?_)
      refine r_aln K hl 0 dX0_lowestMoved_7 rfl rfl ?_
      refine r_get K h ffX0_15 0 rfl rfl dX0_lowestMoved_8 ?_
      refine r_iln K hl 3 dX0_lowestMoved_11 rfl rfl ?_
      refine r_ial K h 2 rfl (by omega) (by decide) dX0_lowestMoved_12 ?_
      refine r_iln K hl 2 dX0_lowestMoved_13 rfl rfl ?_
      refine r_clt K 19 dX0_lowestMoved_14 (by decide) (fun c14 => ?_) (fun c14 => ?_)
      · refine r_incN K hl (k := 1) [_, _, _, _] dX0_lowestMoved_19 rfl (by decide) rfl (fun ls hl => ?_)
        refine r_go K 2 dX0_lowestMoved_22 (by decide) ?_
        exact ih (i + 1) (by omega) (by rw [← e1, cLow, if_neg (Int32.not_le.mpr c14)]) _ _ h _ hl
      · refine r_iln K hl 3 dX0_lowestMoved_17 rfl rfl ?_
        exact hr.1 _ _ _ _ _ dX0_lowestMoved_18 h (by rw [← e1, cLow, if_pos (Int32.not_lt.mp c14)]; rfl)
  exact loop n 0 (by omega) rfl _ _ h _ hl

set_option maxHeartbeats 4000000 in
set_option maxRecDepth 100000 in
theorem c_X0_takePhoto_v (l : Launch) (g : GG) (b : Nat → Nat) (k ph mv ah rv rs rw : Row) : Ct l g yX0_takePhoto cX0_takePhoto 4 none 1 [.ref (b 0), .ref (b 5), .int (nI 0), .int (-9)] (actW g b (k) (ph) (mv) (ah) (rv) (rs) (rw)) none (actW g b (upd (upd k 7 (-9)) 6 (nI 1)) (rv) (mv) (ah) (rv) (rs) (rw)) := by
  refine Ct.start (by decide +kernel) (Nat.le_of_ble_eq_true rfl) (by simp [Value.category]) (Or.inl ⟨rfl, rfl⟩) ?_
  intro p0 e R s m args below meth c A Q K hr h ls hl
  have hl : Lq ls 4 [some (.ref (b 0)), some (.ref (b 5)), some (.int (nI 0)), some (.int (-9))] := hl
  refine r_aln K hl 1 dX0_takePhoto_0 rfl rfl ?_
  refine r_iln K hl 2 dX0_takePhoto_1 rfl rfl ?_
  refine r_aln K hl 0 dX0_takePhoto_2 rfl rfl ?_
  refine r_get K h ffX0_9 0 rfl rfl dX0_takePhoto_3 ?_
  refine r_ic K (nI 0) dX0_takePhoto_6 k_0 ?_
  refine r_ic K (nI 4) dX0_takePhoto_7 k_4 ?_
  refine r_cpy K h hl 5 1 rv [_, _, _, _, _, _, _, _] mlX0_96 rfl rfl (by omega) (by omega) ⟨by decide, by decide⟩ (fun j hj => by rw [cpy_i (by omega) (by omega), Nat.zero_add, Nat.sub_zero]) rfl (by decide) (Nat.le_of_ble_eq_true rfl) dX0_takePhoto_8 (fun H locs h => ?_)
  refine r_aln K hl 0 dX0_takePhoto_11 rfl rfl ?_
  refine r_iln K hl 3 dX0_takePhoto_12 rfl rfl ?_
  refine r_put K h ffX0_51 pfX0_7 0 [_, _, _, _, _, _, _, _, _, _, _, _] [_, _, _, _, _, _, _, _] rfl rfl rfl (Nat.le_of_ble_eq_true rfl) rfl rfl dX0_takePhoto_13 (fun H locs h => ?_)
  refine r_aln K hl 0 dX0_takePhoto_16 rfl rfl ?_
  refine r_ic K (nI 1) dX0_takePhoto_17 k_1 ?_
  refine r_put K h ffX0_47 pfX0_6 0 [_, _, _, _, _, _, _, _, _, _, _, _] [_, _, _, _, _, _, _, _] rfl rfl rfl (Nat.le_of_ble_eq_true rfl) rfl rfl dX0_takePhoto_18 (fun H locs h => ?_)
  exact hr.2 _ _ _ _ dX0_takePhoto_21 h rfl

set_option maxHeartbeats 4000000 in
set_option maxRecDepth 100000 in
theorem c_X0_takePhoto_w (l : Launch) (g : GG) (b : Nat → Nat) (k ph mv ah rv rs rw : Row) (q : Nat) (hq : q < 4) : Ct l g yX0_takePhoto cX0_takePhoto 4 none 1 [.ref (b 0), .ref (b 7), .int (nI (q * 4)), .int (nI q)] (actW g b (k) (ph) (mv) (ah) (rv) (rs) (rw)) none (actW g b (upd (upd k 7 (nI q)) 6 (nI 1)) (fun j => rw (q * 4 + j)) (mv) (ah) (rv) (rs) (rw)) := by
  refine Ct.start (by decide +kernel) (Nat.le_of_ble_eq_true rfl) (by simp [Value.category]) (Or.inl ⟨rfl, rfl⟩) ?_
  intro p0 e R s m args below meth c A Q K hr h ls hl
  have hl : Lq ls 4 [some (.ref (b 0)), some (.ref (b 7)), some (.int (nI (q * 4))), some (.int (nI q))] := hl
  refine r_aln K hl 1 dX0_takePhoto_0 rfl rfl ?_
  refine r_iln K hl 2 dX0_takePhoto_1 rfl rfl ?_
  refine r_aln K hl 0 dX0_takePhoto_2 rfl rfl ?_
  refine r_get K h ffX0_9 0 rfl rfl dX0_takePhoto_3 ?_
  refine r_ic K (nI 0) dX0_takePhoto_6 k_0 ?_
  refine r_ic K (nI 4) dX0_takePhoto_7 k_4 ?_
  refine r_cpy K h hl 7 1 (fun j => rw (q * 4 + j)) [_, _, _, _, _, _, _, _] mlX0_96 rfl rfl (by omega) (by omega) ⟨by decide, by decide⟩ (fun j hj => by rw [cpy_i (by omega) (by omega), Nat.sub_zero]) rfl (by decide) (Nat.le_of_ble_eq_true rfl) dX0_takePhoto_8 (fun H locs h => ?_)
  refine r_aln K hl 0 dX0_takePhoto_11 rfl rfl ?_
  refine r_iln K hl 3 dX0_takePhoto_12 rfl rfl ?_
  refine r_put K h ffX0_51 pfX0_7 0 [_, _, _, _, _, _, _, _, _, _, _, _] [_, _, _, _, _, _, _, _] rfl rfl rfl (Nat.le_of_ble_eq_true rfl) rfl rfl dX0_takePhoto_13 (fun H locs h => ?_)
  refine r_aln K hl 0 dX0_takePhoto_16 rfl rfl ?_
  refine r_ic K (nI 1) dX0_takePhoto_17 k_1 ?_
  refine r_put K h ffX0_47 pfX0_6 0 [_, _, _, _, _, _, _, _, _, _, _, _] [_, _, _, _, _, _, _, _] rfl rfl rfl (Nat.le_of_ble_eq_true rfl) rfl rfl dX0_takePhoto_18 (fun H locs h => ?_)
  exact hr.2 _ _ _ _ dX0_takePhoto_21 h rfl

set_option maxHeartbeats 4000000 in
set_option maxRecDepth 100000 in
theorem c_X0_endCollect_0 (l : Launch) (g : GG) (b : Nat → Nat) (k ph mv ah rv rs rw : Row) (n wh : Nat) (m1 : Int32) (hn : n ≤ 4) (hk5 : k 5 = nI wh) (hwl : wh < 1000) (hw : wh = 0) : Ct l g yX0_endCollect cX0_endCollect 5 none 2 [.ref (b 0), .int (nI n), .int m1] (actW g b (k) (ph) (mv) (ah) (rv) (rs) (rw)) none (actW g b (upd (upd k 4 (nI 0)) 5 (nI (wh + 1))) (ph) (mv) (rs) (rv) (rs) (rw)) := by
  refine Ct.start (by decide +kernel) (Nat.le_of_ble_eq_true rfl) (by simp [Value.category]) (Or.inl ⟨rfl, rfl⟩) ?_
  intro p0 e R s m args below meth c A Q K hr h ls hl
  have hl : Lq ls 5 [some (.ref (b 0)), some (.int (nI n)), some (.int m1), none, none] := hl
  have h := h.to (show _ = [(b 0, .inr (0, [.int (k 0), .int (k 1), .int (k 2), .int (k 3), .int (k 4), .int (nI wh), .int (k 6), .int (k 7), .ref (b 1), .ref (b 2), .ref (b 3), .ref (b 4)])), aI g (b 1) 4 ph, aI g (b 2) 4 mv, aI g (b 3) 4 ah, oCells (b 4) (b 5) (b 6) (b 7), aI g (b 5) 4 rv, aI g (b 6) 4 rs, aI g (b 7) 16 rw] by rw [actW, oAct, hk5])
  refine r_aln K hl 0 dX0_endCollect_0 rfl rfl ?_
  refine r_ic K (nI 0) dX0_endCollect_1 k_0 ?_
  refine r_put K h ffX0_41 pfX0_4 0 [_, _, _, _, _, _, _, _, _, _, _, _] [_, _, _, _, _, _, _, _] rfl rfl rfl (Nat.le_of_ble_eq_true rfl) rfl rfl dX0_endCollect_2 (fun H locs h => ?_)
  refine r_aln K hl 0 dX0_endCollect_5 rfl rfl ?_
  refine r_dup K dX0_endCollect_6 rfl ?_
  refine r_get K h ffX0_44 0 rfl rfl dX0_endCollect_7 ?_
  refine r_ic K (nI 1) dX0_endCollect_10 k_1 ?_
  refine r_addN K dX0_endCollect_11 ?_
  refine r_put K h ffX0_44 pfX0_5 0 [_, _, _, _, _, _, _, _, _, _, _, _] [_, _, _, _, _, _, _, _] rfl rfl rfl (Nat.le_of_ble_eq_true rfl) rfl rfl dX0_endCollect_12 (fun H locs h => ?_)
  refine r_aln K hl 0 dX0_endCollect_15 rfl rfl ?_
  refine r_get K h ffX0_44 0 rfl rfl dX0_endCollect_16 ?_
  refine r_ic K (nI 1) dX0_endCollect_19 k_1 ?_
  refine r_cleN K 82 dX0_endCollect_20 (by decide) (by omega) (by omega) (fun c20 => ?_) (fun c => absurd c (by omega))
  refine r_aln K hl 0 dX0_endCollect_82 rfl rfl ?_
  refine r_get K h ffX0_24 0 rfl rfl dX0_endCollect_83 ?_
  refine r_get K h ffX0_93 4 rfl rfl dX0_endCollect_86 ?_
  refine r_aln K hl 0 dX0_endCollect_89 rfl rfl ?_
  refine r_get K h ffX0_18 0 rfl rfl dX0_endCollect_90 ?_
  refine r_callSN K h hl (c_X5_copyAll l g (b 6) (b 3) 4 rs ah (by decide)) mc_X5_copyAll st_X5_copyAll nnX0_63 [6, 3] rfl rfl rfl [_, _, _, _, _, _, _, _] rfl (by decide) (by decide) rfl rfl (Nat.le_of_ble_eq_true rfl) ⟨Nat.zero_le _, Nat.zero_le _⟩ dX0_endCollect_93 (fun H locs h => ?_)
  refine W.eq (g2 := F0 m 96 ls []) rfl ?_
  exact hr.2 _ _ _ _ dX0_endCollect_96 h rfl

set_option maxHeartbeats 4000000 in
set_option maxRecDepth 100000 in
theorem c_X0_endCollect_v (l : Launch) (g : GG) (b : Nat → Nat) (k ph mv ah rv rs rw : Row) (n wh : Nat) (m1 : Int32) (hn : n ≤ 4) (hk5 : k 5 = nI wh) (hwl : wh < 1000) (hw : 1 ≤ wh) (hany : cAny rs ah n = false) : Ct l g yX0_endCollect cX0_endCollect 5 none 2 [.ref (b 0), .int (nI n), .int m1] (actW g b (k) (ph) (mv) (ah) (rv) (rs) (rw)) none (actW g b (upd (upd (upd (upd k 4 (nI 0)) 5 (nI (wh + 1))) 7 (-9)) 6 (nI 1)) (rv) (cMv mv rs ah n) (rs) (rv) (rs) (rw)) := by
  refine Ct.start (by decide +kernel) (Nat.le_of_ble_eq_true rfl) (by simp [Value.category]) (Or.inl ⟨rfl, rfl⟩) ?_
  intro p0 e R s m args below meth c A Q K hr h ls hl
  have hl : Lq ls 5 [some (.ref (b 0)), some (.int (nI n)), some (.int m1), none, none] := hl
  have h := h.to (show _ = [(b 0, .inr (0, [.int (k 0), .int (k 1), .int (k 2), .int (k 3), .int (k 4), .int (nI wh), .int (k 6), .int (k 7), .ref (b 1), .ref (b 2), .ref (b 3), .ref (b 4)])), aI g (b 1) 4 ph, aI g (b 2) 4 mv, aI g (b 3) 4 ah, oCells (b 4) (b 5) (b 6) (b 7), aI g (b 5) 4 rv, aI g (b 6) 4 rs, aI g (b 7) 16 rw] by rw [actW, oAct, hk5])
  refine r_aln K hl 0 dX0_endCollect_0 rfl rfl ?_
  refine r_ic K (nI 0) dX0_endCollect_1 k_0 ?_
  refine r_put K h ffX0_41 pfX0_4 0 [_, _, _, _, _, _, _, _, _, _, _, _] [_, _, _, _, _, _, _, _] rfl rfl rfl (Nat.le_of_ble_eq_true rfl) rfl rfl dX0_endCollect_2 (fun H locs h => ?_)
  refine r_aln K hl 0 dX0_endCollect_5 rfl rfl ?_
  refine r_dup K dX0_endCollect_6 rfl ?_
  refine r_get K h ffX0_44 0 rfl rfl dX0_endCollect_7 ?_
  refine r_ic K (nI 1) dX0_endCollect_10 k_1 ?_
  refine r_addN K dX0_endCollect_11 ?_
  refine r_put K h ffX0_44 pfX0_5 0 [_, _, _, _, _, _, _, _, _, _, _, _] [_, _, _, _, _, _, _, _] rfl rfl rfl (Nat.le_of_ble_eq_true rfl) rfl rfl dX0_endCollect_12 (fun H locs h => ?_)
  refine r_aln K hl 0 dX0_endCollect_15 rfl rfl ?_
  refine r_get K h ffX0_44 0 rfl rfl dX0_endCollect_16 ?_
  refine r_ic K (nI 1) dX0_endCollect_19 k_1 ?_
  refine r_cleN K 82 dX0_endCollect_20 (by decide) (by omega) (by omega) (fun c => absurd c (by omega)) (fun c20 => ?_)
  have h := h.to (show _ = (actW g b (upd (upd k 4 (nI 0)) 5 (nI (wh + 1))) (ph) (mv) (ah) (rv) (rs) (rw)) from rfl)
  refine r_aln K hl 0 dX0_endCollect_23 rfl rfl ?_
  refine r_iln K hl 1 dX0_endCollect_24 rfl rfl ?_
  refine r_callV K h hl (c_X0_countMoves l g b _ ph mv ah rv rs rw n hn) mc_X0_countMoves vm_X0_countMoves mlX0_75 0 rfl rfl rfl [0, 1, 2, 3, 4, 5, 6, 7] rfl rfl rfl [_, _, _, _, _, _, _, _] rfl (by decide) (by decide) rfl rfl (Nat.le_of_ble_eq_true rfl) ⟨Nat.zero_le _, Nat.zero_le _⟩ dX0_endCollect_25 (fun H locs h => ?_)
  refine W.eq (g2 := F0 m 28 ls [_]) rfl ?_
  refine r_isn K hl 3 [_, _, _, _, _] dX0_endCollect_28 rfl (by decide) rfl (fun ls hl => ?_)
  refine r_aln K hl 0 dX0_endCollect_29 rfl rfl ?_
  refine r_iln K hl 1 dX0_endCollect_30 rfl rfl ?_
  refine r_iln K hl 2 dX0_endCollect_31 rfl rfl ?_
  refine r_callV K h hl (c_X0_lowestMoved l g b _ ph (cMv mv rs ah n) ah rv rs rw n m1 hn) mc_X0_lowestMoved vm_X0_lowestMoved mlX0_79 0 rfl rfl rfl [0, 1, 2, 3, 4, 5, 6, 7] rfl rfl rfl [_, _, _, _, _, _, _, _] rfl (by decide) (by decide) rfl rfl (Nat.le_of_ble_eq_true rfl) ⟨Nat.zero_le _, Nat.zero_le _⟩ dX0_endCollect_32 (fun H locs h => ?_)
  refine W.eq (g2 := F0 m 35 ls [_]) rfl ?_
  refine r_is K hl 4 [_, _, _, _, _] dX0_endCollect_35 (by decide) rfl (fun ls hl => ?_)
  refine r_iln K hl 3 dX0_endCollect_37 rfl rfl ?_
  refine r_zneB K 58 dX0_endCollect_38 (by decide) (fun c => absurd ((hany).symm.trans c) (by decide)) (fun _ => ?_)
  refine r_aln K hl 0 dX0_endCollect_41 rfl rfl ?_
  refine r_aln K hl 0 dX0_endCollect_42 rfl rfl ?_
  refine r_get K h ffX0_24 0 rfl rfl dX0_endCollect_43 ?_
  refine r_get K h ffX0_83 4 rfl rfl dX0_endCollect_46 ?_
  refine r_ic K (nI 0) dX0_endCollect_49 k_0 ?_
  refine r_bp K (-9) dX0_endCollect_50 kb_m9 ?_
  refine r_callV K h hl (c_X0_takePhoto_v l g b (upd (upd k 4 (nI 0)) 5 (nI (wh + 1))) ph (cMv mv rs ah n) ah rv rs rw) mc_X0_takePhoto vm_X0_takePhoto mlX0_86 0 rfl rfl rfl [0, 1, 2, 3, 4, 5, 6, 7] rfl rfl rfl [_, _, _, _, _, _, _, _] rfl (by decide) (by decide) rfl rfl (Nat.le_of_ble_eq_true rfl) ⟨Nat.zero_le _, Nat.zero_le _⟩ dX0_endCollect_52 (fun H locs h => ?_)
  refine W.eq (g2 := F0 m 55 ls []) rfl ?_
  refine r_go K 82 dX0_endCollect_55 (by decide) ?_
  refine r_aln K hl 0 dX0_endCollect_82 rfl rfl ?_
  refine r_get K h ffX0_24 0 rfl rfl dX0_endCollect_83 ?_
  refine r_get K h ffX0_93 4 rfl rfl dX0_endCollect_86 ?_
  refine r_aln K hl 0 dX0_endCollect_89 rfl rfl ?_
  refine r_get K h ffX0_18 0 rfl rfl dX0_endCollect_90 ?_
  refine r_callSN K h hl (c_X5_copyAll l g (b 6) (b 3) 4 rs ah (by decide)) mc_X5_copyAll st_X5_copyAll nnX0_63 [6, 3] rfl rfl rfl [_, _, _, _, _, _, _, _] rfl (by decide) (by decide) rfl rfl (Nat.le_of_ble_eq_true rfl) ⟨Nat.zero_le _, Nat.zero_le _⟩ dX0_endCollect_93 (fun H locs h => ?_)
  refine W.eq (g2 := F0 m 96 ls []) rfl ?_
  exact hr.2 _ _ _ _ dX0_endCollect_96 h rfl

set_option maxHeartbeats 4000000 in
set_option maxRecDepth 100000 in
theorem c_X0_endCollect_w (l : Launch) (g : GG) (b : Nat → Nat) (k ph mv ah rv rs rw : Row) (n wh : Nat) (m1 : Int32) (hn : n ≤ 4) (hk5 : k 5 = nI wh) (hwl : wh < 1000) (q : Nat) (hw : 1 ≤ wh) (hany : cAny rs ah n = true) (hq : cLow (cMv mv rs ah n) m1 0 n = some q) : Ct l g yX0_endCollect cX0_endCollect 5 none 2 [.ref (b 0), .int (nI n), .int m1] (actW g b (k) (ph) (mv) (ah) (rv) (rs) (rw)) none (actW g b (upd (upd (upd (upd k 4 (nI 0)) 5 (nI (wh + 1))) 7 (nI q)) 6 (nI 1)) (fun j => rw (q * 4 + j)) (cMv mv rs ah n) (rs) (rv) (rs) (rw)) := by
  refine Ct.start (by decide +kernel) (Nat.le_of_ble_eq_true rfl) (by simp [Value.category]) (Or.inl ⟨rfl, rfl⟩) ?_
  intro p0 e R s m args below meth c A Q K hr h ls hl
  have hl : Lq ls 5 [some (.ref (b 0)), some (.int (nI n)), some (.int m1), none, none] := hl
  have h := h.to (show _ = [(b 0, .inr (0, [.int (k 0), .int (k 1), .int (k 2), .int (k 3), .int (k 4), .int (nI wh), .int (k 6), .int (k 7), .ref (b 1), .ref (b 2), .ref (b 3), .ref (b 4)])), aI g (b 1) 4 ph, aI g (b 2) 4 mv, aI g (b 3) 4 ah, oCells (b 4) (b 5) (b 6) (b 7), aI g (b 5) 4 rv, aI g (b 6) 4 rs, aI g (b 7) 16 rw] by rw [actW, oAct, hk5])
  refine r_aln K hl 0 dX0_endCollect_0 rfl rfl ?_
  refine r_ic K (nI 0) dX0_endCollect_1 k_0 ?_
  refine r_put K h ffX0_41 pfX0_4 0 [_, _, _, _, _, _, _, _, _, _, _, _] [_, _, _, _, _, _, _, _] rfl rfl rfl (Nat.le_of_ble_eq_true rfl) rfl rfl dX0_endCollect_2 (fun H locs h => ?_)
  refine r_aln K hl 0 dX0_endCollect_5 rfl rfl ?_
  refine r_dup K dX0_endCollect_6 rfl ?_
  refine r_get K h ffX0_44 0 rfl rfl dX0_endCollect_7 ?_
  refine r_ic K (nI 1) dX0_endCollect_10 k_1 ?_
  refine r_addN K dX0_endCollect_11 ?_
  refine r_put K h ffX0_44 pfX0_5 0 [_, _, _, _, _, _, _, _, _, _, _, _] [_, _, _, _, _, _, _, _] rfl rfl rfl (Nat.le_of_ble_eq_true rfl) rfl rfl dX0_endCollect_12 (fun H locs h => ?_)
  refine r_aln K hl 0 dX0_endCollect_15 rfl rfl ?_
  refine r_get K h ffX0_44 0 rfl rfl dX0_endCollect_16 ?_
  refine r_ic K (nI 1) dX0_endCollect_19 k_1 ?_
  refine r_cleN K 82 dX0_endCollect_20 (by decide) (by omega) (by omega) (fun c => absurd c (by omega)) (fun c20 => ?_)
  have h := h.to (show _ = (actW g b (upd (upd k 4 (nI 0)) 5 (nI (wh + 1))) (ph) (mv) (ah) (rv) (rs) (rw)) from rfl)
  refine r_aln K hl 0 dX0_endCollect_23 rfl rfl ?_
  refine r_iln K hl 1 dX0_endCollect_24 rfl rfl ?_
  refine r_callV K h hl (c_X0_countMoves l g b _ ph mv ah rv rs rw n hn) mc_X0_countMoves vm_X0_countMoves mlX0_75 0 rfl rfl rfl [0, 1, 2, 3, 4, 5, 6, 7] rfl rfl rfl [_, _, _, _, _, _, _, _] rfl (by decide) (by decide) rfl rfl (Nat.le_of_ble_eq_true rfl) ⟨Nat.zero_le _, Nat.zero_le _⟩ dX0_endCollect_25 (fun H locs h => ?_)
  refine W.eq (g2 := F0 m 28 ls [_]) rfl ?_
  refine r_isn K hl 3 [_, _, _, _, _] dX0_endCollect_28 rfl (by decide) rfl (fun ls hl => ?_)
  refine r_aln K hl 0 dX0_endCollect_29 rfl rfl ?_
  refine r_iln K hl 1 dX0_endCollect_30 rfl rfl ?_
  refine r_iln K hl 2 dX0_endCollect_31 rfl rfl ?_
  refine r_callV K h hl (c_X0_lowestMoved l g b _ ph (cMv mv rs ah n) ah rv rs rw n m1 hn) mc_X0_lowestMoved vm_X0_lowestMoved mlX0_79 0 rfl rfl rfl [0, 1, 2, 3, 4, 5, 6, 7] rfl rfl rfl [_, _, _, _, _, _, _, _] rfl (by decide) (by decide) rfl rfl (Nat.le_of_ble_eq_true rfl) ⟨Nat.zero_le _, Nat.zero_le _⟩ dX0_endCollect_32 (fun H locs h => ?_)
  refine W.eq (g2 := F0 m 35 ls [_]) rfl ?_
  refine r_is K hl 4 [_, _, _, _, _] dX0_endCollect_35 (by decide) rfl (fun ls hl => ?_)
  refine r_iln K hl 3 dX0_endCollect_37 rfl rfl ?_
  rw [hq] at hl
  have hq4 : q < 4 := by have := cLow_lt n 0 q hq; omega
  have hl : Lq ls 5 [some (.ref (b 0)), some (.int (nI n)), some (.int m1), some (.int (bI (cAny rs ah n))), some (.int (nI q))] := hl
  refine r_zneB K 58 dX0_endCollect_38 (by decide) (fun _ => ?_) (fun c => absurd ((hany).symm.trans c) (by decide))
  refine r_il K hl 4 dX0_endCollect_58 rfl ?_
  refine r_bp K (-9) dX0_endCollect_60 kb_m9 ?_
  refine r_ceq K 82 dX0_endCollect_62 (by decide) (fun c => absurd c (lent_ne (by omega))) (fun c62 => ?_)
  refine r_aln K hl 0 dX0_endCollect_65 rfl rfl ?_
  refine r_aln K hl 0 dX0_endCollect_66 rfl rfl ?_
  refine r_get K h ffX0_24 0 rfl rfl dX0_endCollect_67 ?_
  refine r_get K h ffX0_90 4 rfl rfl dX0_endCollect_70 ?_
  refine r_il K hl 4 dX0_endCollect_73 rfl ?_
  refine r_ic K (nI 4) dX0_endCollect_75 k_4 ?_
  refine r_mulN K dX0_endCollect_76 ?_
  refine r_il K hl 4 dX0_endCollect_77 rfl ?_
  refine r_callV K h hl (c_X0_takePhoto_w l g b (upd (upd k 4 (nI 0)) 5 (nI (wh + 1))) ph (cMv mv rs ah n) ah rv rs rw q hq4) mc_X0_takePhoto vm_X0_takePhoto mlX0_86 0 rfl rfl rfl [0, 1, 2, 3, 4, 5, 6, 7] rfl rfl rfl [_, _, _, _, _, _, _, _] rfl (by decide) (by decide) rfl rfl (Nat.le_of_ble_eq_true rfl) ⟨Nat.zero_le _, Nat.zero_le _⟩ dX0_endCollect_79 (fun H locs h => ?_)
  refine W.eq (g2 := F0 m 82 ls []) rfl ?_
  refine r_aln K hl 0 dX0_endCollect_82 rfl rfl ?_
  refine r_get K h ffX0_24 0 rfl rfl dX0_endCollect_83 ?_
  refine r_get K h ffX0_93 4 rfl rfl dX0_endCollect_86 ?_
  refine r_aln K hl 0 dX0_endCollect_89 rfl rfl ?_
  refine r_get K h ffX0_18 0 rfl rfl dX0_endCollect_90 ?_
  refine r_callSN K h hl (c_X5_copyAll l g (b 6) (b 3) 4 rs ah (by decide)) mc_X5_copyAll st_X5_copyAll nnX0_63 [6, 3] rfl rfl rfl [_, _, _, _, _, _, _, _] rfl (by decide) (by decide) rfl rfl (Nat.le_of_ble_eq_true rfl) ⟨Nat.zero_le _, Nat.zero_le _⟩ dX0_endCollect_93 (fun H locs h => ?_)
  refine W.eq (g2 := F0 m 96 ls []) rfl ?_
  exact hr.2 _ _ _ _ dX0_endCollect_96 h rfl

set_option maxHeartbeats 4000000 in
set_option maxRecDepth 100000 in
theorem c_X0_endCollect_n (l : Launch) (g : GG) (b : Nat → Nat) (k ph mv ah rv rs rw : Row) (n wh : Nat) (m1 : Int32) (hn : n ≤ 4) (hk5 : k 5 = nI wh) (hwl : wh < 1000) (hw : 1 ≤ wh) (hany : cAny rs ah n = true) (hq : cLow (cMv mv rs ah n) m1 0 n = none) : Ct l g yX0_endCollect cX0_endCollect 5 none 2 [.ref (b 0), .int (nI n), .int m1] (actW g b (k) (ph) (mv) (ah) (rv) (rs) (rw)) none (actW g b (upd (upd k 4 (nI 0)) 5 (nI (wh + 1))) (ph) (cMv mv rs ah n) (rs) (rv) (rs) (rw)) := by
  refine Ct.start (by decide +kernel) (Nat.le_of_ble_eq_true rfl) (by simp [Value.category]) (Or.inl ⟨rfl, rfl⟩) ?_
  intro p0 e R s m args below meth c A Q K hr h ls hl
  have hl : Lq ls 5 [some (.ref (b 0)), some (.int (nI n)), some (.int m1), none, none] := hl
  have h := h.to (show _ = [(b 0, .inr (0, [.int (k 0), .int (k 1), .int (k 2), .int (k 3), .int (k 4), .int (nI wh), .int (k 6), .int (k 7), .ref (b 1), .ref (b 2), .ref (b 3), .ref (b 4)])), aI g (b 1) 4 ph, aI g (b 2) 4 mv, aI g (b 3) 4 ah, oCells (b 4) (b 5) (b 6) (b 7), aI g (b 5) 4 rv, aI g (b 6) 4 rs, aI g (b 7) 16 rw] by rw [actW, oAct, hk5])
  refine r_aln K hl 0 dX0_endCollect_0 rfl rfl ?_
  refine r_ic K (nI 0) dX0_endCollect_1 k_0 ?_
  refine r_put K h ffX0_41 pfX0_4 0 [_, _, _, _, _, _, _, _, _, _, _, _] [_, _, _, _, _, _, _, _] rfl rfl rfl (Nat.le_of_ble_eq_true rfl) rfl rfl dX0_endCollect_2 (fun H locs h => ?_)
  refine r_aln K hl 0 dX0_endCollect_5 rfl rfl ?_
  refine r_dup K dX0_endCollect_6 rfl ?_
  refine r_get K h ffX0_44 0 rfl rfl dX0_endCollect_7 ?_
  refine r_ic K (nI 1) dX0_endCollect_10 k_1 ?_
  refine r_addN K dX0_endCollect_11 ?_
  refine r_put K h ffX0_44 pfX0_5 0 [_, _, _, _, _, _, _, _, _, _, _, _] [_, _, _, _, _, _, _, _] rfl rfl rfl (Nat.le_of_ble_eq_true rfl) rfl rfl dX0_endCollect_12 (fun H locs h => ?_)
  refine r_aln K hl 0 dX0_endCollect_15 rfl rfl ?_
  refine r_get K h ffX0_44 0 rfl rfl dX0_endCollect_16 ?_
  refine r_ic K (nI 1) dX0_endCollect_19 k_1 ?_
  refine r_cleN K 82 dX0_endCollect_20 (by decide) (by omega) (by omega) (fun c => absurd c (by omega)) (fun c20 => ?_)
  have h := h.to (show _ = (actW g b (upd (upd k 4 (nI 0)) 5 (nI (wh + 1))) (ph) (mv) (ah) (rv) (rs) (rw)) from rfl)
  refine r_aln K hl 0 dX0_endCollect_23 rfl rfl ?_
  refine r_iln K hl 1 dX0_endCollect_24 rfl rfl ?_
  refine r_callV K h hl (c_X0_countMoves l g b _ ph mv ah rv rs rw n hn) mc_X0_countMoves vm_X0_countMoves mlX0_75 0 rfl rfl rfl [0, 1, 2, 3, 4, 5, 6, 7] rfl rfl rfl [_, _, _, _, _, _, _, _] rfl (by decide) (by decide) rfl rfl (Nat.le_of_ble_eq_true rfl) ⟨Nat.zero_le _, Nat.zero_le _⟩ dX0_endCollect_25 (fun H locs h => ?_)
  refine W.eq (g2 := F0 m 28 ls [_]) rfl ?_
  refine r_isn K hl 3 [_, _, _, _, _] dX0_endCollect_28 rfl (by decide) rfl (fun ls hl => ?_)
  refine r_aln K hl 0 dX0_endCollect_29 rfl rfl ?_
  refine r_iln K hl 1 dX0_endCollect_30 rfl rfl ?_
  refine r_iln K hl 2 dX0_endCollect_31 rfl rfl ?_
  refine r_callV K h hl (c_X0_lowestMoved l g b _ ph (cMv mv rs ah n) ah rv rs rw n m1 hn) mc_X0_lowestMoved vm_X0_lowestMoved mlX0_79 0 rfl rfl rfl [0, 1, 2, 3, 4, 5, 6, 7] rfl rfl rfl [_, _, _, _, _, _, _, _] rfl (by decide) (by decide) rfl rfl (Nat.le_of_ble_eq_true rfl) ⟨Nat.zero_le _, Nat.zero_le _⟩ dX0_endCollect_32 (fun H locs h => ?_)
  refine W.eq (g2 := F0 m 35 ls [_]) rfl ?_
  refine r_is K hl 4 [_, _, _, _, _] dX0_endCollect_35 (by decide) rfl (fun ls hl => ?_)
  refine r_iln K hl 3 dX0_endCollect_37 rfl rfl ?_
  rw [hq] at hl
  have hl : Lq ls 5 [some (.ref (b 0)), some (.int (nI n)), some (.int m1), some (.int (bI (cAny rs ah n))), some (.int (-9))] := hl
  refine r_zneB K 58 dX0_endCollect_38 (by decide) (fun _ => ?_) (fun c => absurd ((hany).symm.trans c) (by decide))
  refine r_il K hl 4 dX0_endCollect_58 rfl ?_
  refine r_bp K (-9) dX0_endCollect_60 kb_m9 ?_
  refine r_ceq K 82 dX0_endCollect_62 (by decide) (fun c62 => ?_) (fun c => absurd rfl c)
  refine r_aln K hl 0 dX0_endCollect_82 rfl rfl ?_
  refine r_get K h ffX0_24 0 rfl rfl dX0_endCollect_83 ?_
  refine r_get K h ffX0_93 4 rfl rfl dX0_endCollect_86 ?_
  refine r_aln K hl 0 dX0_endCollect_89 rfl rfl ?_
  refine r_get K h ffX0_18 0 rfl rfl dX0_endCollect_90 ?_
  refine r_callSN K h hl (c_X5_copyAll l g (b 6) (b 3) 4 rs ah (by decide)) mc_X5_copyAll st_X5_copyAll nnX0_63 [6, 3] rfl rfl rfl [_, _, _, _, _, _, _, _] rfl (by decide) (by decide) rfl rfl (Nat.le_of_ble_eq_true rfl) ⟨Nat.zero_le _, Nat.zero_le _⟩ dX0_endCollect_93 (fun H locs h => ?_)
  refine W.eq (g2 := F0 m 96 ls []) rfl ?_
  exact hr.2 _ _ _ _ dX0_endCollect_96 h rfl
