set_option maxHeartbeats 4000000 in
set_option maxRecDepth 100000 in
theorem c_X1_copyFrom (l : Launch) (g : GG) (x0 x1 y0 y1 : Nat) (sz : Int32) (fa fb : Row) (ph : Nat) (hph : ph ≤ 24) : Ct l g yX1_copyFrom cX1_copyFrom 2 none 1 [.ref x0, .ref y0] [oAlb x0 x1 (sz), aI g x1 264 (fa), oAlb y0 y1 (nI ph), aI g y1 264 fb] none [oAlb x0 x1 (nI ph), aI g x1 264 (va_cpy fb fa 0 0 (ph * 11)), oAlb y0 y1 (nI ph), aI g y1 264 fb] := by
  refine Ct.start (by decide +kernel) (Nat.le_of_ble_eq_true rfl) (by simp [Value.category]) (Or.inl ⟨rfl, rfl⟩) ?_
  intro p0 e R s m args below meth c A Q K hr h ls hl
  have hl : Lq ls 2 [some (.ref x0), some (.ref y0)] := hl
  refine r_aln K hl 0 dX1_copyFrom_0 rfl rfl ?_
  refine r_aln K hl 1 dX1_copyFrom_1 rfl rfl ?_
  refine r_get K h ffX1_15 2 rfl rfl dX1_copyFrom_2 ?_
  refine r_put K h ffX1_15 pfX1_0 0 [_, _] [_, _, _, _] rfl rfl rfl (Nat.le_of_ble_eq_true rfl) rfl rfl dX1_copyFrom_5 (fun H locs h => ?_)
  refine r_aln K hl 1 dX1_copyFrom_8 rfl rfl ?_
  refine r_get K h ffX1_11 2 rfl rfl dX1_copyFrom_9 ?_
  refine r_ic K (nI 0) dX1_copyFrom_12 k_0 ?_
  refine r_aln K hl 0 dX1_copyFrom_13 rfl rfl ?_
  refine r_get K h ffX1_11 0 rfl rfl dX1_copyFrom_14 ?_
  refine r_ic K (nI 0) dX1_copyFrom_17 k_0 ?_
  refine r_aln K hl 0 dX1_copyFrom_18 rfl rfl ?_
  refine r_get K h ffX1_15 0 rfl rfl dX1_copyFrom_19 ?_
  refine r_bp K (nI 11) dX1_copyFrom_22 kb_11 ?_
  refine r_mulN K dX1_copyFrom_24 ?_
  refine r_cpy K h hl 3 1 (va_cpy fb fa 0 0 (ph * 11)) [_, _, _, _] mlX1_19 rfl rfl (by omega) (by omega) ⟨by decide, by decide⟩ (fun j hj => rfl) rfl (by decide) (Nat.le_of_ble_eq_true rfl) dX1_copyFrom_25 (fun H locs h => ?_)
  exact hr.2 _ _ _ _ dX1_copyFrom_28 h rfl

set_option maxHeartbeats 4000000 in
set_option maxRecDepth 100000 in
theorem c_X1_fact (l : Launch) (g : GG) (x0 x1 : Nat) (sz : Int32) (fa : Row) (i k : Nat) (hi : i < 24) (hk : k < 11) : Ct l g yX1_fact cX1_fact 3 (some .int) 0 [.ref x0, .int (nI i), .int (nI k)] [oAlb x0 x1 (sz), aI g x1 264 (fa)] (some (.int (fa (i * 11 + k)))) [oAlb x0 x1 (sz), aI g x1 264 (fa)] := by
  refine Ct.start (by decide +kernel) (Nat.le_of_ble_eq_true rfl) (by simp [Value.category]) (Or.inr ⟨.int, _, rfl, rfl, rfl⟩) ?_
  intro p0 e R s m args below meth c A Q K hr h ls hl
  have hl : Lq ls 3 [some (.ref x0), some (.int (nI i)), some (.int (nI k))] := hl
  refine r_aln K hl 0 dX1_fact_0 rfl rfl ?_
  refine r_get K h ffX1_11 0 rfl rfl dX1_fact_1 ?_
  refine r_iln K hl 1 dX1_fact_4 rfl rfl ?_
  refine r_bp K (nI 11) dX1_fact_5 kb_11 ?_
  refine r_mulN K dX1_fact_7 ?_
  refine r_iln K hl 2 dX1_fact_8 rfl rfl ?_
  refine r_addN K dX1_fact_9 ?_
  refine r_ial K h 1 rfl (by omega) (by decide) dX1_fact_10 ?_
  exact hr.1 _ _ _ _ _ dX1_fact_11 h rfl

set_option maxHeartbeats 4000000 in
set_option maxRecDepth 100000 in
theorem c_X1_add_full (l : Launch) (g : GG) (x0 x1 : Nat) (b : Nat → Nat) (fa k pv : Row) (x en mo : Int32) : Ct l g yX1_add cX1_add 6 none 1 [.ref x0, .int x, .ref (b 0), .int en, .int mo] [oAlb x0 x1 (nI 24), aI g x1 264 (fa), oAct b k, aI g (b 1) 4 pv] none [oAlb x0 x1 (nI 24), aI g x1 264 (fa), oAct b k, aI g (b 1) 4 pv] := by
  refine Ct.start (by decide +kernel) (Nat.le_of_ble_eq_true rfl) (by simp [Value.category]) (Or.inl ⟨rfl, rfl⟩) ?_
  intro p0 e R s m args below meth c A Q K hr h ls hl
  have hl : Lq ls 6 [some (.ref x0), some (.int x), some (.ref (b 0)), some (.int en), some (.int mo), none] := hl
  refine r_aln K hl 0 dX1_add_0 rfl rfl ?_
  refine r_get K h ffX1_15 0 rfl rfl dX1_add_1 ?_
  refine r_bp K (nI 24) dX1_add_4 kb_24 ?_
  refine r_cltN K 10 dX1_add_6 (by decide) (by omega) (by omega) (fun c => absurd c (by omega)) (fun c6 => ?_)
  exact hr.2 _ _ _ _ dX1_add_9 h rfl

set_option maxHeartbeats 4000000 in
set_option maxRecDepth 100000 in
theorem c_X1_add_ok (l : Launch) (g : GG) (x0 x1 : Nat) (b : Nat → Nat) (fa k pv : Row) (x en mo : Int32) (ph : Nat) (hph : ph < 24) : Ct l g yX1_add cX1_add 6 none 1 [.ref x0, .int x, .ref (b 0), .int en, .int mo] [oAlb x0 x1 (nI ph), aI g x1 264 (fa), oAct b k, aI g (b 1) 4 pv] none [oAlb x0 x1 (nI (ph + 1)), aI g x1 264 (cFa fa ph x k en mo pv), oAct b k, aI g (b 1) 4 pv] := by
  refine Ct.start (by decide +kernel) (Nat.le_of_ble_eq_true rfl) (by simp [Value.category]) (Or.inl ⟨rfl, rfl⟩) ?_
  intro p0 e R s m args below meth c A Q K hr h ls hl
  have hl : Lq ls 6 [some (.ref x0), some (.int x), some (.ref (b 0)), some (.int en), some (.int mo), none] := hl
  refine r_aln K hl 0 dX1_add_0 rfl rfl ?_
  refine r_get K h ffX1_15 0 rfl rfl dX1_add_1 ?_
  refine r_bp K (nI 24) dX1_add_4 kb_24 ?_
  refine r_cltN K 10 dX1_add_6 (by decide) (by omega) (by omega) (fun c6 => ?_) (fun c => absurd c (by omega))
  refine r_aln K hl 0 dX1_add_10 rfl rfl ?_
  refine r_get K h ffX1_15 0 rfl rfl dX1_add_11 ?_
  refine r_bp K (nI 11) dX1_add_14 kb_11 ?_
  refine r_mulN K dX1_add_16 ?_
  refine r_is K hl 5 [_, _, _, _, _, _] dX1_add_17 (by decide) rfl (fun ls hl => ?_)
  refine r_aln K hl 0 dX1_add_19 rfl rfl ?_
  refine r_get K h ffX1_11 0 rfl rfl dX1_add_20 ?_
  refine r_il K hl 5 dX1_add_23 rfl ?_
  refine r_ic K (nI 0) dX1_add_25 k_0 ?_
  refine r_addN K dX1_add_26 ?_
  refine r_iln K hl 1 dX1_add_27 rfl rfl ?_
  refine r_ias K h 1 [_, _, _, _] rfl (by omega) (by decide) rfl dX1_add_28 (fun H locs h => ?_)
  refine r_aln K hl 0 dX1_add_29 rfl rfl ?_
  refine r_get K h ffX1_11 0 rfl rfl dX1_add_30 ?_
  refine r_il K hl 5 dX1_add_33 rfl ?_
  refine r_ic K (nI 1) dX1_add_35 k_1 ?_
  refine r_addN K dX1_add_36 ?_
  refine r_aln K hl 2 dX1_add_37 rfl rfl ?_
  refine r_get K h ffX1_25 2 rfl rfl dX1_add_38 ?_
  refine r_ias K h 1 [_, _, _, _] rfl (by omega) (by decide) rfl dX1_add_41 (fun H locs h => ?_)
  refine r_aln K hl 0 dX1_add_42 rfl rfl ?_
  refine r_get K h ffX1_11 0 rfl rfl dX1_add_43 ?_
  refine r_il K hl 5 dX1_add_46 rfl ?_
  refine r_ic K (nI 2) dX1_add_48 k_2 ?_
  refine r_addN K dX1_add_49 ?_
  refine r_iln K hl 3 dX1_add_50 rfl rfl ?_
  refine r_ias K h 1 [_, _, _, _] rfl (by omega) (by decide) rfl dX1_add_51 (fun H locs h => ?_)
  refine r_aln K hl 0 dX1_add_52 rfl rfl ?_
  refine r_get K h ffX1_11 0 rfl rfl dX1_add_53 ?_
  refine r_il K hl 5 dX1_add_56 rfl ?_
  refine r_ic K (nI 3) dX1_add_58 k_3 ?_
  refine r_addN K dX1_add_59 ?_
  refine r_aln K hl 2 dX1_add_60 rfl rfl ?_
  refine r_get K h ffX1_30 2 rfl rfl dX1_add_61 ?_
  refine r_ias K h 1 [_, _, _, _] rfl (by omega) (by decide) rfl dX1_add_64 (fun H locs h => ?_)
  refine r_aln K hl 0 dX1_add_65 rfl rfl ?_
  refine r_get K h ffX1_11 0 rfl rfl dX1_add_66 ?_
  refine r_il K hl 5 dX1_add_69 rfl ?_
  refine r_ic K (nI 4) dX1_add_71 k_4 ?_
  refine r_addN K dX1_add_72 ?_
  refine r_aln K hl 2 dX1_add_73 rfl rfl ?_
  refine r_get K h ffX1_33 2 rfl rfl dX1_add_74 ?_
  refine r_ias K h 1 [_, _, _, _] rfl (by omega) (by decide) rfl dX1_add_77 (fun H locs h => ?_)
  refine r_aln K hl 0 dX1_add_78 rfl rfl ?_
  refine r_get K h ffX1_11 0 rfl rfl dX1_add_79 ?_
  refine r_il K hl 5 dX1_add_82 rfl ?_
  refine r_ic K (nI 5) dX1_add_84 k_5 ?_
  refine r_addN K dX1_add_85 ?_
  refine r_aln K hl 2 dX1_add_86 rfl rfl ?_
  refine r_get K h ffX1_36 2 rfl rfl dX1_add_87 ?_
  refine r_ic K (nI 2) dX1_add_90 k_2 ?_
  generalize hf5 : upd (upd (upd (upd (upd fa (ph * 11 + 0) x) (ph * 11 + 1) (k 2)) (ph * 11 + 2) en) (ph * 11 + 3) (k 3)) (ph * 11 + 4) (k 7) = f5 at h
  have J : ∀ v : Int32, v = (if k 0 = nI 2 then nI 1 else nI 0) → W p0 l e R s m args below meth c H locs 0 0 Q (F0 m 99 ls [.int v, .int (nI (ph * 11 + 5)), .ref x1]) := by
    intro v hv
    refine r_ias K h 1 [_, _, _, _] rfl (by omega) (by decide) rfl dX1_add_99 (fun H locs h => ?_)
    refine r_aln K hl 2 dX1_add_100 rfl rfl ?_
    refine r_get K h ffX1_39 2 rfl rfl dX1_add_101 ?_
    refine r_ic K (nI 0) dX1_add_104 k_0 ?_
    refine r_aln K hl 0 dX1_add_105 rfl rfl ?_
    refine r_get K h ffX1_11 0 rfl rfl dX1_add_106 ?_
    refine r_il K hl 5 dX1_add_109 rfl ?_
    refine r_bp K (nI 6) dX1_add_111 kb_6 ?_
    refine r_addN K dX1_add_113 ?_
    refine r_ic K (nI 4) dX1_add_114 k_4 ?_
    refine r_cpy K h hl 3 1 (va_cpy pv (upd f5 (ph * 11 + 5) v) 0 (ph * 11 + 6) 4) [_, _, _, _] mlX1_19 rfl rfl (by omega) (by omega) ⟨by decide, by decide⟩ (fun j hj => rfl) rfl (by decide) (Nat.le_of_ble_eq_true rfl) dX1_add_115 (fun H locs h => ?_)
    refine r_aln K hl 0 dX1_add_118 rfl rfl ?_
    refine r_get K h ffX1_11 0 rfl rfl dX1_add_119 ?_
    refine r_il K hl 5 dX1_add_122 rfl ?_
    refine r_bp K (nI 10) dX1_add_124 kb_10 ?_
    refine r_addN K dX1_add_126 ?_
    refine r_il K hl 4 dX1_add_127 rfl ?_
    refine r_ias K h 1 [_, _, _, _] rfl (by omega) (by decide) rfl dX1_add_129 (fun H locs h => ?_)
    refine r_aln K hl 0 dX1_add_130 rfl rfl ?_
    refine r_dup K dX1_add_131 rfl ?_
    refine r_get K h ffX1_15 0 rfl rfl dX1_add_132 ?_
    refine r_ic K (nI 1) dX1_add_135 k_1 ?_
    refine r_addN K dX1_add_136 ?_
    refine r_put K h ffX1_15 pfX1_0 0 [_, _] [_, _, _, _] rfl rfl rfl (Nat.le_of_ble_eq_true rfl) rfl rfl dX1_add_137 (fun H locs h => ?_)
    exact hr.2 _ _ _ _ dX1_add_140 (h.to (by dsimp only [cFa]; rw [hf5, ← hv])) rfl
  refine r_cne K 98 dX1_add_91 (by decide) (fun c91 => ?_) (fun c91 => ?_)
  · refine r_ic K (nI 0) dX1_add_98 k_0 ?_
    exact J _ (by rw [if_neg c91])
  · refine r_ic K (nI 1) dX1_add_94 k_1 ?_
    refine r_go K 99 dX1_add_95 (by decide) ?_
    exact J _ (by rw [if_pos c91])

set_option maxHeartbeats 4000000 in
set_option maxRecDepth 100000 in
theorem c_X1_countWith (l : Launch) (g : GG) (x0 x1 : Nat) (fa : Row) (ph k : Nat) (x : Int32) (hph : ph ≤ 24) (hk11 : k < 11) : Ct l g yX1_countWith cX1_countWith 5 (some .int) 1 [.ref x0, .int (nI k), .int x] [oAlb x0 x1 (nI ph), aI g x1 264 (fa)] (some (.int (nI (cCW fa k x ph)))) [oAlb x0 x1 (nI ph), aI g x1 264 (fa)] := by
  refine Ct.start (by decide +kernel) (Nat.le_of_ble_eq_true rfl) (by simp [Value.category]) (Or.inr ⟨.int, _, rfl, rfl, rfl⟩) ?_
  intro p0 e R s m args below meth c A Q K hr h ls hl
  have hl : Lq ls 5 [some (.ref x0), some (.int (nI k)), some (.int x), none, none] := hl
  refine r_ic K (nI 0) dX1_countWith_0 k_0 ?_
  refine r_isn K hl 3 [_, _, _, _, _] dX1_countWith_1 rfl (by decide) rfl (fun ls hl => ?_)
  refine r_ic K (nI 0) dX1_countWith_2 k_0 ?_
  refine r_is K hl 4 [_, _, _, _, _] dX1_countWith_3 (by decide) rfl (fun ls hl => ?_)
  have loop : ∀ (j i : Nat), i + j = ph → ∀ (H : Heap) (locs : List Loc), Hp g A s H locs [oAlb x0 x1 (nI ph), aI g x1 264 (fa)] → ∀ ls, Lq ls 5 [some (.ref x0), some (.int (nI k)), some (.int x), some (.int (nI (cCW fa k x i))), some (.int (nI i))] → W p0 l e R s m args below meth c H locs 0 0 Q (F0 m 5 ls []) := by
    intro j
    induction j with
    | zero =>
      intro i hk H locs h ls hl
      obtain rfl : i = ph := by omega
      refine r_il K hl 4 dX1_countWith_5 rfl ?_
      refine r_aln K hl 0 dX1_countWith_7 rfl rfl ?_
      refine r_get K h ffX1_15 0 rfl rfl dX1_countWith_8 ?_
      refine r_cgeN K 34 dX1_countWith_11 (by decide) (by omega) (by omega) (fun c11 => ?_) (fun c => absurd c (by omega))
      refine r_iln K hl 3 dX1_countWith_34 rfl rfl ?_
      exact hr.1 _ _ _ _ _ dX1_countWith_35 h rfl
    | succ j ih =>
      intro i hk H locs h ls hl
      refine r_il K hl 4 dX1_countWith_5 rfl ?_
      refine r_aln K hl 0 dX1_countWith_7 rfl rfl ?_
      refine r_get K h ffX1_15 0 rfl rfl dX1_countWith_8 ?_
      refine r_cgeN K 34 dX1_countWith_11 (by decide) (by omega) (by omega) (fun c => absurd c (by omega)) (fun c11 => ?_)
      refine r_aln K hl 0 dX1_countWith_14 rfl rfl ?_
      refine r_il K hl 4 dX1_countWith_15 rfl ?_
      refine r_iln K hl 1 dX1_countWith_17 rfl rfl ?_
      refine r_callV K h hl (c_X1_fact l g x0 x1 (nI ph) fa i k (by omega) hk11) mc_X1_fact vm_X1_fact mlX1_42 0 rfl rfl rfl [0, 1] rfl rfl rfl [_, _] rfl (by decide) (by decide) rfl rfl (Nat.le_of_ble_eq_true rfl) ⟨Nat.zero_le _, Nat.zero_le _⟩ dX1_countWith_18 (fun H locs h => ?_)
      refine W.eq (g2 := F0 m 21 ls [_]) rfl ?_
      refine r_iln K hl 2 dX1_countWith_21 rfl rfl ?_
      refine r_cne K 28 dX1_countWith_22 (by decide) (fun c22 => ?_) (fun c22 => ?_)
      · refine r_incN K hl (k := 1) [_, _, _, _, _] dX1_countWith_28 rfl (by decide) rfl (fun ls hl => ?_)
        refine r_go K 5 dX1_countWith_31 (by decide) ?_
        exact ih (i + 1) (by omega) _ _ h _ (by rw [cCW, if_neg c22]; exact hl)
      · refine r_incN K hl (k := 1) [_, _, _, _, _] dX1_countWith_25 rfl (by decide) rfl (fun ls hl => ?_)
        refine r_incN K hl (k := 1) [_, _, _, _, _] dX1_countWith_28 rfl (by decide) rfl (fun ls hl => ?_)
        refine r_go K 5 dX1_countWith_31 (by decide) ?_
        exact ih (i + 1) (by omega) _ _ h _ (by rw [cCW, if_pos c22]; exact hl)
  exact loop ph 0 (by omega) _ _ h _ hl

set_option maxHeartbeats 4000000 in
set_option maxRecDepth 100000 in
theorem c_X1_leastReadsAbove (l : Launch) (g : GG) (x0 x1 : Nat) (fa : Row) (ph : Nat) (x : Int32) (hph : ph ≤ 24) : Ct l g yX1_leastReadsAbove cX1_leastReadsAbove 5 (some .int) 1 [.ref x0, .int x] [oAlb x0 x1 (nI ph), aI g x1 264 (fa)] (some (.int (cLA fa x ph))) [oAlb x0 x1 (nI ph), aI g x1 264 (fa)] := by
  refine Ct.start (by decide +kernel) (Nat.le_of_ble_eq_true rfl) (by simp [Value.category]) (Or.inr ⟨.int, _, rfl, rfl, rfl⟩) ?_
  intro p0 e R s m args below meth c A Q K hr h ls hl
  have hl : Lq ls 5 [some (.ref x0), some (.int x), none, none, none] := hl
  refine r_bp K (-9) dX1_leastReadsAbove_0 kb_m9 ?_
  refine r_isn K hl 2 [_, _, _, _, _] dX1_leastReadsAbove_2 rfl (by decide) rfl (fun ls hl => ?_)
  refine r_ic K (nI 0) dX1_leastReadsAbove_3 k_0 ?_
  refine r_isn K hl 3 [_, _, _, _, _] dX1_leastReadsAbove_4 rfl (by decide) rfl (fun ls hl => ?_)
  have loop : ∀ (j i : Nat) (z : Option Value), i + j = ph → ∀ (H : Heap) (locs : List Loc), Hp g A s H locs [oAlb x0 x1 (nI ph), aI g x1 264 (fa)] → ∀ ls, Lq ls 5 [some (.ref x0), some (.int x), some (.int (cLA fa x i)), some (.int (nI i)), z] → W p0 l e R s m args below meth c H locs 0 0 Q (F0 m 5 ls []) := by
    intro j
    induction j with
    | zero =>
      intro i z hk H locs h ls hl
      obtain rfl : i = ph := by omega
      refine r_iln K hl 3 dX1_leastReadsAbove_5 rfl rfl ?_
      refine r_aln K hl 0 dX1_leastReadsAbove_6 rfl rfl ?_
      refine r_get K h ffX1_15 0 rfl rfl dX1_leastReadsAbove_7 ?_
      refine r_cgeN K 48 dX1_leastReadsAbove_10 (by decide) (by omega) (by omega) (fun c10 => ?_) (fun c => absurd c (by omega))
      refine r_iln K hl 2 dX1_leastReadsAbove_48 rfl rfl ?_
      exact hr.1 _ _ _ _ _ dX1_leastReadsAbove_49 h rfl
    | succ j ih =>
      intro i z hk H locs h ls hl
      refine r_iln K hl 3 dX1_leastReadsAbove_5 rfl rfl ?_
      refine r_aln K hl 0 dX1_leastReadsAbove_6 rfl rfl ?_
      refine r_get K h ffX1_15 0 rfl rfl dX1_leastReadsAbove_7 ?_
      refine r_cgeN K 48 dX1_leastReadsAbove_10 (by decide) (by omega) (by omega) (fun c => absurd c (by omega)) (fun c10 => ?_)
      refine r_aln K hl 0 dX1_leastReadsAbove_13 rfl rfl ?_
      refine r_iln K hl 3 dX1_leastReadsAbove_14 rfl rfl ?_
      refine r_ic K (nI 3) dX1_leastReadsAbove_15 k_3 ?_
      refine r_callV K h hl (c_X1_fact l g x0 x1 (nI ph) fa i 3 (by omega) (by omega)) mc_X1_fact vm_X1_fact mlX1_42 0 rfl rfl rfl [0, 1] rfl rfl rfl [_, _] rfl (by decide) (by decide) rfl rfl (Nat.le_of_ble_eq_true rfl) ⟨Nat.zero_le _, Nat.zero_le _⟩ dX1_leastReadsAbove_16 (fun H locs h => ?_)
      refine W.eq (g2 := F0 m 19 ls [_]) rfl ?_
      refine r_is K hl 4 [_, _, _, _, _] dX1_leastReadsAbove_19 (by decide) rfl (fun ls hl => ?_)
      refine r_il K hl 4 dX1_leastReadsAbove_21 rfl ?_
      refine r_iln K hl 1 dX1_leastReadsAbove_23 rfl rfl ?_
      refine r_cle K 42 dX1_leastReadsAbove_24 (by decide) (fun c24 => ?_) (fun c24 => ?_)
      · refine r_incN K hl (k := 1) [_, _, _, _, _] dX1_leastReadsAbove_42 rfl (by decide) rfl (fun ls hl => ?_)
        refine r_go K 5 dX1_leastReadsAbove_45 (by decide) ?_
        exact ih (i + 1) _ (by omega) _ _ h _ (by rw [cLA, if_neg (fun q => absurd q.1 (Int32.not_lt.mpr c24))]; exact hl)
      · refine r_iln K hl 2 dX1_leastReadsAbove_27 rfl rfl ?_
        refine r_bp K (-9) dX1_leastReadsAbove_28 kb_m9 ?_
        refine r_ceq K 39 dX1_leastReadsAbove_30 (by decide) (fun c30 => ?_) (fun c30 => ?_)
        · refine r_il K hl 4 dX1_leastReadsAbove_39 rfl ?_
          refine r_isn K hl 2 [_, _, _, _, _] dX1_leastReadsAbove_41 rfl (by decide) rfl (fun ls hl => ?_)
          refine r_incN K hl (k := 1) [_, _, _, _, _] dX1_leastReadsAbove_42 rfl (by decide) rfl (fun ls hl => ?_)
          refine r_go K 5 dX1_leastReadsAbove_45 (by decide) ?_
          exact ih (i + 1) _ (by omega) _ _ h _ (by rw [cLA, if_pos ⟨Int32.not_le.mp c24, Or.inl c30⟩]; exact hl)
        · refine r_il K hl 4 dX1_leastReadsAbove_33 rfl ?_
          refine r_iln K hl 2 dX1_leastReadsAbove_35 rfl rfl ?_
          refine r_cge K 42 dX1_leastReadsAbove_36 (by decide) (fun c36 => ?_) (fun c36 => ?_)
          · refine r_incN K hl (k := 1) [_, _, _, _, _] dX1_leastReadsAbove_42 rfl (by decide) rfl (fun ls hl => ?_)
            refine r_go K 5 dX1_leastReadsAbove_45 (by decide) ?_
            exact ih (i + 1) _ (by omega) _ _ h _ (by rw [cLA, if_neg (fun q => q.2.elim c30 (fun q => absurd q (Int32.not_lt.mpr c36)))]; exact hl)
          · refine r_il K hl 4 dX1_leastReadsAbove_39 rfl ?_
            refine r_isn K hl 2 [_, _, _, _, _] dX1_leastReadsAbove_41 rfl (by decide) rfl (fun ls hl => ?_)
            refine r_incN K hl (k := 1) [_, _, _, _, _] dX1_leastReadsAbove_42 rfl (by decide) rfl (fun ls hl => ?_)
            refine r_go K 5 dX1_leastReadsAbove_45 (by decide) ?_
            exact ih (i + 1) _ (by omega) _ _ h _ (by rw [cLA, if_pos ⟨Int32.not_le.mp c24, Or.inr (Int32.not_le.mp c36)⟩]; exact hl)
  exact loop ph 0 none (by omega) _ _ h _ hl

set_option maxHeartbeats 4000000 in
set_option maxRecDepth 100000 in
theorem c_X1_greatestReadsBelow (l : Launch) (g : GG) (x0 x1 : Nat) (fa : Row) (ph : Nat) (x : Int32) (hph : ph ≤ 24) : Ct l g yX1_greatestReadsBelow cX1_greatestReadsBelow 5 (some .int) 1 [.ref x0, .int x] [oAlb x0 x1 (nI ph), aI g x1 264 (fa)] (some (.int (cGB fa x ph))) [oAlb x0 x1 (nI ph), aI g x1 264 (fa)] := by
  refine Ct.start (by decide +kernel) (Nat.le_of_ble_eq_true rfl) (by simp [Value.category]) (Or.inr ⟨.int, _, rfl, rfl, rfl⟩) ?_
  intro p0 e R s m args below meth c A Q K hr h ls hl
  have hl : Lq ls 5 [some (.ref x0), some (.int x), none, none, none] := hl
  refine r_bp K (-9) dX1_greatestReadsBelow_0 kb_m9 ?_
  refine r_isn K hl 2 [_, _, _, _, _] dX1_greatestReadsBelow_2 rfl (by decide) rfl (fun ls hl => ?_)
  refine r_ic K (nI 0) dX1_greatestReadsBelow_3 k_0 ?_
  refine r_isn K hl 3 [_, _, _, _, _] dX1_greatestReadsBelow_4 rfl (by decide) rfl (fun ls hl => ?_)
  have loop : ∀ (j i : Nat) (z : Option Value), i + j = ph → ∀ (H : Heap) (locs : List Loc), Hp g A s H locs [oAlb x0 x1 (nI ph), aI g x1 264 (fa)] → ∀ ls, Lq ls 5 [some (.ref x0), some (.int x), some (.int (cGB fa x i)), some (.int (nI i)), z] → W p0 l e R s m args below meth c H locs 0 0 Q (F0 m 5 ls []) := by
    intro j
    induction j with
    | zero =>
      intro i z hk H locs h ls hl
      obtain rfl : i = ph := by omega
      refine r_iln K hl 3 dX1_greatestReadsBelow_5 rfl rfl ?_
      refine r_aln K hl 0 dX1_greatestReadsBelow_6 rfl rfl ?_
      refine r_get K h ffX1_15 0 rfl rfl dX1_greatestReadsBelow_7 ?_
      refine r_cgeN K 48 dX1_greatestReadsBelow_10 (by decide) (by omega) (by omega) (fun c10 => ?_) (fun c => absurd c (by omega))
      refine r_iln K hl 2 dX1_greatestReadsBelow_48 rfl rfl ?_
      exact hr.1 _ _ _ _ _ dX1_greatestReadsBelow_49 h rfl
    | succ j ih =>
      intro i z hk H locs h ls hl
      refine r_iln K hl 3 dX1_greatestReadsBelow_5 rfl rfl ?_
      refine r_aln K hl 0 dX1_greatestReadsBelow_6 rfl rfl ?_
      refine r_get K h ffX1_15 0 rfl rfl dX1_greatestReadsBelow_7 ?_
      refine r_cgeN K 48 dX1_greatestReadsBelow_10 (by decide) (by omega) (by omega) (fun c => absurd c (by omega)) (fun c10 => ?_)
      refine r_aln K hl 0 dX1_greatestReadsBelow_13 rfl rfl ?_
      refine r_iln K hl 3 dX1_greatestReadsBelow_14 rfl rfl ?_
      refine r_ic K (nI 3) dX1_greatestReadsBelow_15 k_3 ?_
      refine r_callV K h hl (c_X1_fact l g x0 x1 (nI ph) fa i 3 (by omega) (by omega)) mc_X1_fact vm_X1_fact mlX1_42 0 rfl rfl rfl [0, 1] rfl rfl rfl [_, _] rfl (by decide) (by decide) rfl rfl (Nat.le_of_ble_eq_true rfl) ⟨Nat.zero_le _, Nat.zero_le _⟩ dX1_greatestReadsBelow_16 (fun H locs h => ?_)
      refine W.eq (g2 := F0 m 19 ls [_]) rfl ?_
      refine r_is K hl 4 [_, _, _, _, _] dX1_greatestReadsBelow_19 (by decide) rfl (fun ls hl => ?_)
      refine r_il K hl 4 dX1_greatestReadsBelow_21 rfl ?_
      refine r_iln K hl 1 dX1_greatestReadsBelow_23 rfl rfl ?_
      refine r_cge K 42 dX1_greatestReadsBelow_24 (by decide) (fun c24 => ?_) (fun c24 => ?_)
      · refine r_incN K hl (k := 1) [_, _, _, _, _] dX1_greatestReadsBelow_42 rfl (by decide) rfl (fun ls hl => ?_)
        refine r_go K 5 dX1_greatestReadsBelow_45 (by decide) ?_
        exact ih (i + 1) _ (by omega) _ _ h _ (by rw [cGB, if_neg (fun q => absurd q.1 (Int32.not_lt.mpr c24))]; exact hl)
      · refine r_iln K hl 2 dX1_greatestReadsBelow_27 rfl rfl ?_
        refine r_bp K (-9) dX1_greatestReadsBelow_28 kb_m9 ?_
        refine r_ceq K 39 dX1_greatestReadsBelow_30 (by decide) (fun c30 => ?_) (fun c30 => ?_)
        · refine r_il K hl 4 dX1_greatestReadsBelow_39 rfl ?_
          refine r_isn K hl 2 [_, _, _, _, _] dX1_greatestReadsBelow_41 rfl (by decide) rfl (fun ls hl => ?_)
          refine r_incN K hl (k := 1) [_, _, _, _, _] dX1_greatestReadsBelow_42 rfl (by decide) rfl (fun ls hl => ?_)
          refine r_go K 5 dX1_greatestReadsBelow_45 (by decide) ?_
          exact ih (i + 1) _ (by omega) _ _ h _ (by rw [cGB, if_pos ⟨Int32.not_le.mp c24, Or.inl c30⟩]; exact hl)
        · refine r_il K hl 4 dX1_greatestReadsBelow_33 rfl ?_
          refine r_iln K hl 2 dX1_greatestReadsBelow_35 rfl rfl ?_
          refine r_cle K 42 dX1_greatestReadsBelow_36 (by decide) (fun c36 => ?_) (fun c36 => ?_)
          · refine r_incN K hl (k := 1) [_, _, _, _, _] dX1_greatestReadsBelow_42 rfl (by decide) rfl (fun ls hl => ?_)
            refine r_go K 5 dX1_greatestReadsBelow_45 (by decide) ?_
            exact ih (i + 1) _ (by omega) _ _ h _ (by rw [cGB, if_neg (fun q => q.2.elim c30 (fun q => absurd q (Int32.not_lt.mpr c36)))]; exact hl)
          · refine r_il K hl 4 dX1_greatestReadsBelow_39 rfl ?_
            refine r_isn K hl 2 [_, _, _, _, _] dX1_greatestReadsBelow_41 rfl (by decide) rfl (fun ls hl => ?_)
            refine r_incN K hl (k := 1) [_, _, _, _, _] dX1_greatestReadsBelow_42 rfl (by decide) rfl (fun ls hl => ?_)
            refine r_go K 5 dX1_greatestReadsBelow_45 (by decide) ?_
            exact ih (i + 1) _ (by omega) _ _ h _ (by rw [cGB, if_pos ⟨Int32.not_le.mp c24, Or.inr (Int32.not_le.mp c36)⟩]; exact hl)
  exact loop ph 0 none (by omega) _ _ h _ hl

set_option maxHeartbeats 4000000 in
set_option maxRecDepth 100000 in
theorem c_X3_copyFrom (l : Launch) (g : GG) (y0 y1 y2 y3 y4 z0 z1 z2 z3 z4 : Nat) (sz : Int32) (ti pls wv th ti2 pls2 wv2 th2 : Row) (wr : Nat) (hwr : wr ≤ 24) : Ct l g yX3_copyFrom cX3_copyFrom 2 none 1 [.ref y0, .ref z0] [oHis y0 y1 y2 y3 y4 (sz), aI g y1 24 (ti), aI g y2 24 (pls), aI g y3 24 (wv), aI g y4 4 th, oHis z0 z1 z2 z3 z4 (nI wr), aI g z1 24 ti2, aI g z2 24 pls2, aI g z3 24 wv2, aI g z4 4 th2] none [oHis y0 y1 y2 y3 y4 (nI wr), aI g y1 24 (va_cpy ti2 ti 0 0 wr), aI g y2 24 (va_cpy pls2 pls 0 0 wr), aI g y3 24 (va_cpy wv2 wv 0 0 wr), aI g y4 4 th, oHis z0 z1 z2 z3 z4 (nI wr), aI g z1 24 ti2, aI g z2 24 pls2, aI g z3 24 wv2, aI g z4 4 th2] := by
  refine Ct.start (by decide +kernel) (Nat.le_of_ble_eq_true rfl) (by simp [Value.category]) (Or.inl ⟨rfl, rfl⟩) ?_
  intro p0 e R s m args below meth c A Q K hr h ls hl
  have hl : Lq ls 2 [some (.ref y0), some (.ref z0)] := hl
  refine r_aln K hl 0 dX3_copyFrom_0 rfl rfl ?_
  refine r_aln K hl 1 dX3_copyFrom_1 rfl rfl ?_
  refine r_get K h ffX3_24 5 rfl rfl dX3_copyFrom_2 ?_
  refine r_put K h ffX3_24 pfX3_0 0 [_, _, _, _, _] [_, _, _, _, _, _, _, _, _, _] rfl rfl rfl (Nat.le_of_ble_eq_true rfl) rfl rfl dX3_copyFrom_5 (fun H locs h => ?_)
  refine r_aln K hl 1 dX3_copyFrom_8 rfl rfl ?_
  refine r_get K h ffX3_9 5 rfl rfl dX3_copyFrom_9 ?_
  refine r_ic K (nI 0) dX3_copyFrom_12 k_0 ?_
  refine r_aln K hl 0 dX3_copyFrom_13 rfl rfl ?_
  refine r_get K h ffX3_9 0 rfl rfl dX3_copyFrom_14 ?_
  refine r_ic K (nI 0) dX3_copyFrom_17 k_0 ?_
  refine r_aln K hl 0 dX3_copyFrom_18 rfl rfl ?_
  refine r_get K h ffX3_24 0 rfl rfl dX3_copyFrom_19 ?_
  refine r_cpy K h hl 6 1 (va_cpy ti2 ti 0 0 wr) [_, _, _, _, _, _, _, _, _, _] mlX3_28 rfl rfl (by omega) (by omega) ⟨by decide, by decide⟩ (fun j hj => rfl) rfl (by decide) (Nat.le_of_ble_eq_true rfl) dX3_copyFrom_22 (fun H locs h => ?_)
  refine r_aln K hl 1 dX3_copyFrom_25 rfl rfl ?_
  refine r_get K h ffX3_15 5 rfl rfl dX3_copyFrom_26 ?_
  refine r_ic K (nI 0) dX3_copyFrom_29 k_0 ?_
  refine r_aln K hl 0 dX3_copyFrom_30 rfl rfl ?_
  refine r_get K h ffX3_15 0 rfl rfl dX3_copyFrom_31 ?_
  refine r_ic K (nI 0) dX3_copyFrom_34 k_0 ?_
  refine r_aln K hl 0 dX3_copyFrom_35 rfl rfl ?_
  refine r_get K h ffX3_24 0 rfl rfl dX3_copyFrom_36 ?_
  refine r_cpy K h hl 7 2 (va_cpy pls2 pls 0 0 wr) [_, _, _, _, _, _, _, _, _, _] mlX3_28 rfl rfl (by omega) (by omega) ⟨by decide, by decide⟩ (fun j hj => rfl) rfl (by decide) (Nat.le_of_ble_eq_true rfl) dX3_copyFrom_39 (fun H locs h => ?_)
  refine r_aln K hl 1 dX3_copyFrom_42 rfl rfl ?_
  refine r_get K h ffX3_18 5 rfl rfl dX3_copyFrom_43 ?_
  refine r_ic K (nI 0) dX3_copyFrom_46 k_0 ?_
  refine r_aln K hl 0 dX3_copyFrom_47 rfl rfl ?_
  refine r_get K h ffX3_18 0 rfl rfl dX3_copyFrom_48 ?_
  refine r_ic K (nI 0) dX3_copyFrom_51 k_0 ?_
  refine r_aln K hl 0 dX3_copyFrom_52 rfl rfl ?_
  refine r_get K h ffX3_24 0 rfl rfl dX3_copyFrom_53 ?_
  refine r_cpy K h hl 8 3 (va_cpy wv2 wv 0 0 wr) [_, _, _, _, _, _, _, _, _, _] mlX3_28 rfl rfl (by omega) (by omega) ⟨by decide, by decide⟩ (fun j hj => rfl) rfl (by decide) (Nat.le_of_ble_eq_true rfl) dX3_copyFrom_56 (fun H locs h => ?_)
  exact hr.2 _ _ _ _ dX3_copyFrom_59 h rfl

set_option maxHeartbeats 4000000 in
set_option maxRecDepth 100000 in
theorem c_X3_add_full (l : Launch) (g : GG) (y0 y1 y2 y3 y4 : Nat) (ti pls wv th : Row) (t x v : Int32) : Ct l g yX3_add cX3_add 4 none 0 [.ref y0, .int t, .int x, .int v] [oHis y0 y1 y2 y3 y4 (nI 24), aI g y1 24 (ti), aI g y2 24 (pls), aI g y3 24 (wv), aI g y4 4 (th)] none [oHis y0 y1 y2 y3 y4 (nI 24), aI g y1 24 (ti), aI g y2 24 (pls), aI g y3 24 (wv), aI g y4 4 (th)] := by
  refine Ct.start (by decide +kernel) (Nat.le_of_ble_eq_true rfl) (by simp [Value.category]) (Or.inl ⟨rfl, rfl⟩) ?_
  intro p0 e R s m args below meth c A Q K hr h ls hl
  have hl : Lq ls 4 [some (.ref y0), some (.int t), some (.int x), some (.int v)] := hl
  refine r_aln K hl 0 dX3_add_0 rfl rfl ?_
  refine r_get K h ffX3_24 0 rfl rfl dX3_add_1 ?_
  refine r_bp K (nI 24) dX3_add_4 kb_24 ?_
  refine r_cltN K 10 dX3_add_6 (by decide) (by omega) (by omega) (fun c => absurd c (by omega)) (fun c6 => ?_)
  exact hr.2 _ _ _ _ dX3_add_9 h rfl

set_option maxHeartbeats 4000000 in
set_option maxRecDepth 100000 in
theorem c_X3_add_ok (l : Launch) (g : GG) (y0 y1 y2 y3 y4 : Nat) (ti pls wv th : Row) (t x v : Int32) (wr : Nat) (hwr : wr < 24) : Ct l g yX3_add cX3_add 4 none 0 [.ref y0, .int t, .int x, .int v] [oHis y0 y1 y2 y3 y4 (nI wr), aI g y1 24 (ti), aI g y2 24 (pls), aI g y3 24 (wv), aI g y4 4 (th)] none [oHis y0 y1 y2 y3 y4 (nI (wr + 1)), aI g y1 24 (upd ti wr t), aI g y2 24 (upd pls wr x), aI g y3 24 (upd wv wr v), aI g y4 4 (th)] := by
  refine Ct.start (by decide +kernel) (Nat.le_of_ble_eq_true rfl) (by simp [Value.category]) (Or.inl ⟨rfl, rfl⟩) ?_
  intro p0 e R s m args below meth c A Q K hr h ls hl
  have hl : Lq ls 4 [some (.ref y0), some (.int t), some (.int x), some (.int v)] := hl
  refine r_aln K hl 0 dX3_add_0 rfl rfl ?_
  refine r_get K h ffX3_24 0 rfl rfl dX3_add_1 ?_
  refine r_bp K (nI 24) dX3_add_4 kb_24 ?_
  refine r_cltN K 10 dX3_add_6 (by decide) (by omega) (by omega) (fun c6 => ?_) (fun c => absurd c (by omega))
  refine r_aln K hl 0 dX3_add_10 rfl rfl ?_
  refine r_get K h ffX3_9 0 rfl rfl dX3_add_11 ?_
  refine r_aln K hl 0 dX3_add_14 rfl rfl ?_
  refine r_get K h ffX3_24 0 rfl rfl dX3_add_15 ?_
  refine r_iln K hl 1 dX3_add_18 rfl rfl ?_
  refine r_ias K h 1 [_, _, _, _, _] rfl (by omega) (by decide) rfl dX3_add_19 (fun H locs h => ?_)
  refine r_aln K hl 0 dX3_add_20 rfl rfl ?_
  refine r_get K h ffX3_15 0 rfl rfl dX3_add_21 ?_
  refine r_aln K hl 0 dX3_add_24 rfl rfl ?_
  refine r_get K h ffX3_24 0 rfl rfl dX3_add_25 ?_
  refine r_iln K hl 2 dX3_add_28 rfl rfl ?_
  refine r_ias K h 2 [_, _, _, _, _] rfl (by omega) (by decide) rfl dX3_add_29 (fun H locs h => ?_)
  refine r_aln K hl 0 dX3_add_30 rfl rfl ?_
  refine r_get K h ffX3_18 0 rfl rfl dX3_add_31 ?_
  refine r_aln K hl 0 dX3_add_34 rfl rfl ?_
  refine r_get K h ffX3_24 0 rfl rfl dX3_add_35 ?_
  refine r_iln K hl 3 dX3_add_38 rfl rfl ?_
  refine r_ias K h 3 [_, _, _, _, _] rfl (by omega) (by decide) rfl dX3_add_39 (fun H locs h => ?_)
  refine r_aln K hl 0 dX3_add_40 rfl rfl ?_
  refine r_dup K dX3_add_41 rfl ?_
  refine r_get K h ffX3_24 0 rfl rfl dX3_add_42 ?_
  refine r_ic K (nI 1) dX3_add_45 k_1 ?_
  refine r_addN K dX3_add_46 ?_
  refine r_put K h ffX3_24 pfX3_0 0 [_, _, _, _, _] [_, _, _, _, _] rfl rfl rfl (Nat.le_of_ble_eq_true rfl) rfl rfl dX3_add_47 (fun H locs h => ?_)
  exact hr.2 _ _ _ _ dX3_add_50 h rfl

set_option maxHeartbeats 4000000 in
set_option maxRecDepth 100000 in
theorem c_X3_wereAs (l : Launch) (g : GG) (y0 y1 y2 y3 y4 : Nat) (ti pls wv th : Row) (z1 : Nat) (pv : Row) (sz : Int32) : Ct l g yX3_wereAs cX3_wereAs 3 (some .boolean) 0 [.ref y0, .ref z1] [oHis y0 y1 y2 y3 y4 (sz), aI g y1 24 ti, aI g y2 24 pls, aI g y3 24 wv, aI g y4 4 (th), aI g z1 4 pv] (some (.int (bI (eqK th pv 4)))) [oHis y0 y1 y2 y3 y4 (sz), aI g y1 24 ti, aI g y2 24 pls, aI g y3 24 wv, aI g y4 4 (th), aI g z1 4 pv] := by
  refine Ct.start (by decide +kernel) (Nat.le_of_ble_eq_true rfl) (by simp [Value.category]) (Or.inr ⟨.boolean, _, rfl, rfl, narB _⟩) ?_
  intro p0 e R s m args below meth c A Q K hr h ls hl
  have hl : Lq ls 3 [some (.ref y0), some (.ref z1), none] := hl
  refine r_ic K (nI 0) dX3_wereAs_0 k_0 ?_
  refine r_isn K hl 2 [_, _, _] dX3_wereAs_1 rfl (by decide) rfl (fun ls hl => ?_)
  have loop : ∀ (j k : Nat), k + j = 4 → eqK th pv k = true → ∀ (H : Heap) (locs : List Loc), Hp g A s H locs [oHis y0 y1 y2 y3 y4 (sz), aI g y1 24 ti, aI g y2 24 pls, aI g y3 24 wv, aI g y4 4 (th), aI g z1 4 pv] → ∀ ls, Lq ls 3 [some (.ref y0), some (.ref z1), some (.int (nI k))] → W p0 l e R s m args below meth c H locs 0 0 Q (F0 m 2 ls []) := by
    intro j
    induction j with
    | zero =>
      intro k hk hk2 H locs h ls hl
      obtain rfl : k = 4 := by omega
      refine r_iln K hl 2 dX3_wereAs_2 rfl rfl ?_
      refine r_ic K (nI 4) dX3_wereAs_3 k_4 ?_
      refine r_cgeN K 27 dX3_wereAs_4 (by decide) (by omega) (by omega) (fun c4 => ?_) (fun c => absurd c (by omega))
      refine r_ic K (nI 1) dX3_wereAs_27 k_1 ?_
      exact hr.1 _ _ _ _ _ dX3_wereAs_28 h (by rw [hk2]; rfl)
    | succ j ih =>
      intro k hk hk2 H locs h ls hl
      refine r_iln K hl 2 dX3_wereAs_2 rfl rfl ?_
      refine r_ic K (nI 4) dX3_wereAs_3 k_4 ?_
      refine r_cgeN K 27 dX3_wereAs_4 (by decide) (by omega) (by omega) (fun c => absurd c (by omega)) (fun c4 => ?_)
      refine r_aln K hl 0 dX3_wereAs_7 rfl rfl ?_
      refine r_get K h ffX3_21 0 rfl rfl dX3_wereAs_8 ?_
      refine r_iln K hl 2 dX3_wereAs_11 rfl rfl ?_
      refine r_ial K h 4 rfl (by omega) (by decide) dX3_wereAs_12 ?_
      refine r_aln K hl 1 dX3_wereAs_13 rfl rfl ?_
      refine r_iln K hl 2 dX3_wereAs_14 rfl rfl ?_
      refine r_ial K h 5 rfl (by omega) (by decide) dX3_wereAs_15 ?_
      refine r_ceq K 21 dX3_wereAs_16 (by decide) (fun c16 => ?_) (fun c16 => ?_)
      · refine r_incN K hl (k := 1) [_, _, _] dX3_wereAs_21 rfl (by decide) rfl (fun ls hl => ?_)
        refine r_go K 2 dX3_wereAs_24 (by decide) ?_
        exact ih (k + 1) (by omega) (by rw [eqK, hk2, decide_eq_true c16]; rfl) _ _ h _ hl
      · refine r_ic K (nI 0) dX3_wereAs_19 k_0 ?_
        exact hr.1 _ _ _ _ _ dX3_wereAs_20 h (by rw [show (4 : Nat) = k + 1 + (4 - (k + 1)) by omega, eqK_no (4 - (k + 1)) (k + 1) (by rw [eqK, decide_eq_false c16, Bool.and_false])]; rfl)
  exact loop 4 0 rfl rfl _ _ h _ hl

set_option maxHeartbeats 4000000 in
set_option maxRecDepth 100000 in
theorem c_X3_momentOf (l : Launch) (g : GG) (y0 y1 y2 y3 y4 : Nat) (ti pls wv th : Row) (z1 : Nat) (pv : Row) (bg : Int32) (sz : Nat) (pl : Nat → Nat) (hsz : sz ≤ 24) (hpl : ∀ i, i < sz → pls i = nI (pl i) ∧ pl i < 4) : Ct l g yX3_momentOf cX3_momentOf 4 (some .int) 1 [.ref y0, .ref z1, .int bg] [oHis y0 y1 y2 y3 y4 (nI sz), aI g y1 24 ti, aI g y2 24 pls, aI g y3 24 wv, aI g y4 4 (th), aI g z1 4 pv] (some (.int (cMom ti pl wv pv bg sz).1)) [oHis y0 y1 y2 y3 y4 (nI sz), aI g y1 24 ti, aI g y2 24 pls, aI g y3 24 wv, aI g y4 4 (thK pl wv (cMom ti pl wv pv bg sz).2), aI g z1 4 pv] := by
  refine Ct.start (by decide +kernel) (Nat.le_of_ble_eq_true rfl) (by simp [Value.category]) (Or.inr ⟨.int, _, rfl, rfl, rfl⟩) ?_
  intro p0 e R s m args below meth c A Q K hr h ls hl
  have hl : Lq ls 4 [some (.ref y0), some (.ref z1), some (.int bg), none] := hl
  refine r_aln K hl 0 dX3_momentOf_0 rfl rfl ?_
  refine r_get K h ffX3_21 0 rfl rfl dX3_momentOf_1 ?_
  refine r_ic K (nI 0) dX3_momentOf_4 k_0 ?_
  refine r_callS K h hl (c_fill l g y4 4 th (nI 0) (by decide)) mc_J7_fill_53178 st_J7_fill_53178 mlX3_34 [4] rfl rfl rfl [_, _, _, _, _, _] rfl (by decide) (by decide) rfl rfl (Nat.le_of_ble_eq_true rfl) ⟨Nat.zero_le _, Nat.zero_le _⟩ dX3_momentOf_5 (fun H locs h => ?_)
  refine W.eq (g2 := F0 m 8 ls []) rfl ?_
  refine r_ic K (nI 0) dX3_momentOf_8 k_0 ?_
  refine r_isn K hl 3 [_, _, _, _] dX3_momentOf_9 rfl (by decide) rfl (fun ls hl => ?_)
  have h := h.to (show _ = [oHis y0 y1 y2 y3 y4 (nI sz), aI g y1 24 ti, aI g y2 24 pls, aI g y3 24 wv, aI g y4 4 (thK pl wv 0), aI g z1 4 pv] from rfl)
  have J : ∀ (i : Nat), i = cLead ti bg sz 0 → i ≤ sz → ∀ (H : Heap) (locs : List Loc), Hp g A s H locs [oHis y0 y1 y2 y3 y4 (nI sz), aI g y1 24 ti, aI g y2 24 pls, aI g y3 24 wv, aI g y4 4 (thK pl wv i), aI g z1 4 pv] → ∀ ls, Lq ls 4 [some (.ref y0), some (.ref z1), some (.int bg), some (.int (nI i))] → W p0 l e R s m args below meth c H locs 0 0 Q (F0 m 51 ls []) := by
    intro i hi0 hile H locs h ls hl
    refine r_aln K hl 0 dX3_momentOf_51 rfl rfl ?_
    refine r_aln K hl 1 dX3_momentOf_52 rfl rfl ?_
    refine r_callV K h hl (c_X3_wereAs l g y0 y1 y2 y3 y4 ti pls wv (thK pl wv i) z1 pv (nI sz)) mc_X3_wereAs vm_X3_wereAs mlX3_40 0 rfl rfl rfl [0, 1, 2, 3, 4, 5] rfl rfl rfl [_, _, _, _, _, _] rfl (by decide) (by decide) rfl rfl (Nat.le_of_ble_eq_true rfl) ⟨Nat.zero_le _, Nat.zero_le _⟩ dX3_momentOf_53 (fun H locs h => ?_)
    refine W.eq (g2 := F0 m 56 ls [_]) rfl ?_
    refine r_zeqB K 61 dX3_momentOf_56 (by decide) (fun c56 => ?_) (fun c56 => ?_)
    · obtain ⟨i1, hi1⟩ : ∃ i1, i1 = i := ⟨i, rfl⟩
      have hL : cMom ti pl wv pv bg sz = cMo ti pl wv pv (sz - i1) i1 := by rw [hi1, cMom, ← hi0, c56]; rfl
      have loop2 : ∀ (j2 i : Nat), i + j2 = sz → cMo ti pl wv pv j2 i = cMo ti pl wv pv (sz - i1) i1 → ∀ (H : Heap) (locs : List Loc), Hp g A s H locs [oHis y0 y1 y2 y3 y4 (nI sz), aI g y1 24 ti, aI g y2 24 pls, aI g y3 24 wv, aI g y4 4 (thK pl wv i), aI g z1 4 pv] → ∀ ls, Lq ls 4 [some (.ref y0), some (.ref z1), some (.int bg), some (.int (nI i))] → W p0 l e R s m args below meth c H locs 0 0 Q (F0 m 61 ls []) := by
        intro j2
        induction j2 with
        | zero =>
          intro i hk2 e1 H locs h ls hl
          refine r_iln K hl 3 dX3_momentOf_61 rfl rfl ?_
          refine r_aln K hl 0 dX3_momentOf_62 rfl rfl ?_
          refine r_get K h ffX3_24 0 rfl rfl dX3_momentOf_63 ?_
          refine r_cgeN K 107 dX3_momentOf_66 (by decide) (by omega) (by omega) (fun c66 => ?_) (fun c => absurd c (by omega))
          refine r_bp K (-9) dX3_momentOf_107 kb_m9 ?_
          exact hr.1 _ _ _ _ _ dX3_momentOf_109 (h.to (by rw [hL, ← e1]; rfl)) (by rw [hL, ← e1]; rfl)
        | succ j2 ih2 =>
          intro i hk2 e1 H locs h ls hl
          refine r_iln K hl 3 dX3_momentOf_61 rfl rfl ?_
          refine r_aln K hl 0 dX3_momentOf_62 rfl rfl ?_
          refine r_get K h ffX3_24 0 rfl rfl dX3_momentOf_63 ?_
          refine r_cgeN K 107 dX3_momentOf_66 (by decide) (by omega) (by omega) (fun c => absurd c (by omega)) (fun c66 => ?_)
          refine r_aln K hl 0 dX3_momentOf_69 rfl rfl ?_
          refine r_get K h ffX3_21 0 rfl rfl dX3_momentOf_70 ?_
          refine r_aln K hl 0 dX3_momentOf_73 rfl rfl ?_
          refine r_get K h ffX3_15 0 rfl rfl dX3_momentOf_74 ?_
          refine r_iln K hl 3 dX3_momentOf_77 rfl rfl ?_
          refine r_ialE K h 2 rfl (by omega) (by decide) (hpl i (by omega)).1 dX3_momentOf_78 ?_
          refine r_aln K hl 0 dX3_momentOf_79 rfl rfl ?_
          refine r_get K h ffX3_18 0 rfl rfl dX3_momentOf_80 ?_
          refine r_iln K hl 3 dX3_momentOf_83 rfl rfl ?_
          refine r_ial K h 3 rfl (by omega) (by decide) dX3_momentOf_84 ?_
          refine r_ias K h 4 [_, _, _, _, _, _] rfl (hpl i (by omega)).2 (by decide) rfl dX3_momentOf_85 (fun H locs h => ?_)
          have h := h.to (show _ = [oHis y0 y1 y2 y3 y4 (nI sz), aI g y1 24 ti, aI g y2 24 pls, aI g y3 24 wv, aI g y4 4 (thK pl wv (i + 1)), aI g z1 4 pv] from rfl)
          refine r_aln K hl 0 dX3_momentOf_86 rfl rfl ?_
          refine r_aln K hl 1 dX3_momentOf_87 rfl rfl ?_
          refine r_callV K h hl (c_X3_wereAs l g y0 y1 y2 y3 y4 ti pls wv (thK pl wv (i + 1)) z1 pv (nI sz)) mc_X3_wereAs vm_X3_wereAs mlX3_40 0 rfl rfl rfl [0, 1, 2, 3, 4, 5] rfl rfl rfl [_, _, _, _, _, _] rfl (by decide) (by decide) rfl rfl (Nat.le_of_ble_eq_true rfl) ⟨Nat.zero_le _, Nat.zero_le _⟩ dX3_momentOf_88 (fun H locs h => ?_)
          refine W.eq (g2 := F0 m 91 ls [_]) rfl ?_
          refine r_zeqB K 101 dX3_momentOf_91 (by decide) (fun c91 => ?_) (fun c91 => ?_)
          · refine r_incN K hl (k := 1) [_, _, _, _] dX3_momentOf_101 rfl (by decide) rfl (fun ls hl => ?_)
            refine r_go K 61 dX3_momentOf_104 (by decide) ?_
            exact ih2 (i + 1) (by omega) (by rw [← e1, cMo, c91]; rfl) _ _ h _ hl
          · refine r_aln K hl 0 dX3_momentOf_94 rfl rfl ?_
            refine r_get K h ffX3_9 0 rfl rfl dX3_momentOf_95 ?_
            refine r_iln K hl 3 dX3_momentOf_98 rfl rfl ?_
            refine r_ial K h 1 rfl (by omega) (by decide) dX3_momentOf_99 ?_
            exact hr.1 _ _ _ _ _ dX3_momentOf_100 (h.to (by rw [hL, ← e1, cMo, if_pos c91])) (by rw [hL, ← e1, cMo, if_pos c91])
      exact loop2 (sz - i) i (by omega) (by rw [hi1]) _ _ h _ hl
    · refine r_iln K hl 2 dX3_momentOf_59 rfl rfl ?_
      exact hr.1 _ _ _ _ _ dX3_momentOf_60 (h.to (by rw [cMom, ← hi0, if_pos c56])) (by rw [cMom, ← hi0, if_pos c56])
  have loop : ∀ (j i : Nat), i + j = sz → cLead ti bg j i = cLead ti bg sz 0 → ∀ (H : Heap) (locs : List Loc), Hp g A s H locs [oHis y0 y1 y2 y3 y4 (nI sz), aI g y1 24 ti, aI g y2 24 pls, aI g y3 24 wv, aI g y4 4 (thK pl wv i), aI g z1 4 pv] → ∀ ls, Lq ls 4 [some (.ref y0), some (.ref z1), some (.int bg), some (.int (nI i))] → W p0 l e R s m args below meth c H locs 0 0 Q (F0 m 10 ls []) := by
    intro j
    induction j with
    | zero =>
      intro i hk e1 H locs h ls hl
      obtain rfl : i = sz := by omega
      refine r_iln K hl 3 dX3_momentOf_10 rfl rfl ?_
      refine r_aln K hl 0 dX3_momentOf_11 rfl rfl ?_
      refine r_get K h ffX3_24 0 rfl rfl dX3_momentOf_12 ?_
      refine r_cgeN K 51 dX3_momentOf_15 (by decide) (by omega) (by omega) (fun c15 => ?_) (fun c => absurd c (by omega))
      exact J i e1 (Nat.le_refl i) _ _ h _ hl
    | succ j ih =>
      intro i hk e1 H locs h ls hl
      refine r_iln K hl 3 dX3_momentOf_10 rfl rfl ?_
      refine r_aln K hl 0 dX3_momentOf_11 rfl rfl ?_
      refine r_get K h ffX3_24 0 rfl rfl dX3_momentOf_12 ?_
      refine r_cgeN K 51 dX3_momentOf_15 (by decide) (by omega) (by omega) (fun c => absurd c (by omega)) (fun c15 => ?_)
      refine r_aln K hl 0 dX3_momentOf_18 rfl rfl ?_
      refine r_get K h ffX3_9 0 rfl rfl dX3_momentOf_19 ?_
      refine r_iln K hl 3 dX3_momentOf_22 rfl rfl ?_
      refine r_ial K h 1 rfl (by omega) (by decide) dX3_momentOf_23 ?_
      refine r_iln K hl 2 dX3_momentOf_24 rfl rfl ?_
      refine r_cgt K 51 dX3_momentOf_25 (by decide) (fun c25 => ?_) (fun c25 => ?_)
      · exact J i (by rw [← e1, cLead, if_neg (Int32.not_le.mpr c25)]) (by omega) _ _ h _ hl
      · refine r_aln K hl 0 dX3_momentOf_28 rfl rfl ?_
        refine r_get K h ffX3_21 0 rfl rfl dX3_momentOf_29 ?_
        refine r_aln K hl 0 dX3_momentOf_32 rfl rfl ?_
        refine r_get K h ffX3_15 0 rfl rfl dX3_momentOf_33 ?_
        refine r_iln K hl 3 dX3_momentOf_36 rfl rfl ?_
        refine r_ialE K h 2 rfl (by omega) (by decide) (hpl i (by omega)).1 dX3_momentOf_37 ?_
        refine r_aln K hl 0 dX3_momentOf_38 rfl rfl ?_
        refine r_get K h ffX3_18 0 rfl rfl dX3_momentOf_39 ?_
        refine r_iln K hl 3 dX3_momentOf_42 rfl rfl ?_
        refine r_ial K h 3 rfl (by omega) (by decide) dX3_momentOf_43 ?_
        refine r_ias K h 4 [_, _, _, _, _, _] rfl (hpl i (by omega)).2 (by decide) rfl dX3_momentOf_44 (fun H locs h => ?_)
        refine r_incN K hl (k := 1) [_, _, _, _] dX3_momentOf_45 rfl (by decide) rfl (fun ls hl => ?_)
        refine r_go K 10 dX3_momentOf_48 (by decide) ?_
        exact ih (i + 1) (by omega) (by rw [← e1, cLead, if_pos (Int32.not_lt.mp c25)]) _ _ (h.to rfl) _ hl
  exact loop sz 0 (by omega) rfl _ _ h _ hl
