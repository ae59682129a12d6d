-- in: v lies from lo to hi
set_option maxHeartbeats 4000000 in
set_option maxRecDepth 100000 in
theorem c_X6_in (l : Launch) (g : GG) (v lo hi : Int32) : Ct l g yX6_in cX6_in 3 (some .boolean) 0 [.int v, .int lo, .int hi] [] (some (.int (bI (inB v lo hi)))) [] := by
  refine Ct.start (by decide +kernel) (Nat.le_of_ble_eq_true rfl) (by simp [Value.category]) (Or.inr ⟨.boolean, _, rfl, rfl, narB _⟩) ?_
  intro p0 e R s m args below meth c A Q K hr h ls hl
  have hl : Lq ls 3 [some (.int v), some (.int lo), some (.int hi)] := hl
  refine r_iln K hl 0 dX6_in_0 rfl rfl ?_
  refine r_iln K hl 1 dX6_in_1 rfl rfl ?_
  refine r_clt K 14 dX6_in_2 (by decide) (fun c2 => ?_) (fun c2 => ?_)
  · refine r_ic K (nI 0) dX6_in_14 k_0 ?_
    exact hr.1 _ _ _ _ _ dX6_in_15 h (by simp only [inB]; rw [decide_eq_false (fun q => absurd q.1 (Int32.not_le.mpr c2))]; rfl)
  · refine r_iln K hl 0 dX6_in_5 rfl rfl ?_
    refine r_iln K hl 2 dX6_in_6 rfl rfl ?_
    refine r_cgt K 14 dX6_in_7 (by decide) (fun c7 => ?_) (fun c7 => ?_)
    · refine r_ic K (nI 0) dX6_in_14 k_0 ?_
      exact hr.1 _ _ _ _ _ dX6_in_15 h (by simp only [inB]; rw [decide_eq_false (fun q => absurd q.2 (Int32.not_le.mpr c7))]; rfl)
    · refine r_ic K (nI 1) dX6_in_10 k_1 ?_
      refine r_go K 15 dX6_in_11 (by decide) ?_
      exact hr.1 _ _ _ _ _ dX6_in_15 h (by simp only [inB]; rw [decide_eq_true ⟨Int32.not_lt.mp c2, Int32.not_lt.mp c7⟩]; rfl)

set_option maxHeartbeats 4000000 in
set_option maxRecDepth 100000 in
theorem c_X6_writerAt (l : Launch) (g : GG) (p : Nat) : Ct l g yX6_writerAt cX6_writerAt 1 (some .int) 0 [.int (nI p)] [] (some (.int (nI (32 + 42 * p)))) [] := by
  refine Ct.start (by decide +kernel) (Nat.le_of_ble_eq_true rfl) (by simp [Value.category]) (Or.inr ⟨.int, _, rfl, rfl, rfl⟩) ?_
  intro p0 e R s m args below meth c A Q K hr h ls hl
  have hl : Lq ls 1 [some (.int (nI p))] := hl
  refine r_bp K (nI 32) dX6_writerAt_0 kb_32 ?_
  refine r_bp K (nI 42) dX6_writerAt_2 kb_42 ?_
  refine r_iln K hl 0 dX6_writerAt_4 rfl rfl ?_
  refine r_mulN K dX6_writerAt_5 ?_
  refine r_addN K dX6_writerAt_6 ?_
  exact hr.1 _ _ _ _ _ dX6_writerAt_7 h rfl

set_option maxHeartbeats 4000000 in
set_option maxRecDepth 100000 in
theorem c_X6_cellAt (l : Launch) (g : GG) (p : Nat) : Ct l g yX6_cellAt cX6_cellAt 1 (some .int) 0 [.int (nI p)] [] (some (.int (nI (8 + 6 * p)))) [] := by
  refine Ct.start (by decide +kernel) (Nat.le_of_ble_eq_true rfl) (by simp [Value.category]) (Or.inr ⟨.int, _, rfl, rfl, rfl⟩) ?_
  intro p0 e R s m args below meth c A Q K hr h ls hl
  have hl : Lq ls 1 [some (.int (nI p))] := hl
  refine r_bp K (nI 8) dX6_cellAt_0 kb_8 ?_
  refine r_bp K (nI 6) dX6_cellAt_2 kb_6 ?_
  refine r_iln K hl 0 dX6_cellAt_4 rfl rfl ?_
  refine r_mulN K dX6_cellAt_5 ?_
  refine r_addN K dX6_cellAt_6 ?_
  exact hr.1 _ _ _ _ _ dX6_cellAt_7 h rfl

set_option maxHeartbeats 4000000 in
set_option maxRecDepth 100000 in
theorem c_X6_bares (l : Launch) (g : GG) (a : Nat) (f : Row) (n mv wr : Int32) : Ct l g yX6_bares cX6_bares 5 none 0 [.ref a, .int n, .int mv, .int wr] [aI g a 512 f] none [aI g a 512 (mBares n mv wr)] := by
  refine Ct.start (by decide +kernel) (Nat.le_of_ble_eq_true rfl) (by simp [Value.category]) (Or.inl ⟨rfl, rfl⟩) ?_
  intro p0 e R s m args below meth c A Q K hr h ls hl
  have hl : Lq ls 5 [some (.ref a), some (.int n), some (.int mv), some (.int wr), none] := hl
  refine r_ic K (nI 0) dX6_bares_0 k_0 ?_
  refine r_is K hl 4 [_, _, _, _, _] dX6_bares_1 (by decide) rfl (fun ls hl => ?_)
  have loop : ∀ (j k : Nat) (fc : Row), k + j = 512 → (∀ t, t < k → fc t = 0) → ∀ (H : Heap) (locs : List Loc), Hp g A s H locs [aI g a 512 fc] → ∀ ls, Lq ls 5 [some (.ref a), some (.int n), some (.int mv), some (.int wr), some (.int (nI k))] → W p0 l e R s m args below meth c H locs 0 0 Q (F0 m 3 ls []) := by
    intro j
    induction j with
    | zero =>
      intro k fc hk hfc H locs h ls hl
      refine r_il K hl 4 dX6_bares_3 rfl ?_
      refine r_sp K (nI 512) dX6_bares_5 ks_512 ?_
      refine r_cgeN K 22 dX6_bares_8 (by decide) (by omega) (by omega) (fun c8 => ?_) (fun c => absurd c (by omega))
      refine r_aln K hl 0 dX6_bares_22 rfl rfl ?_
      refine r_ic K (nI 0) dX6_bares_23 k_0 ?_
      refine r_iln K hl 1 dX6_bares_24 rfl rfl ?_
      refine r_ias K h 0 [_] rfl (by omega) (by decide) rfl dX6_bares_25 (fun H locs h => ?_)
      refine r_aln K hl 0 dX6_bares_26 rfl rfl ?_
      refine r_ic K (nI 1) dX6_bares_27 k_1 ?_
      refine r_iln K hl 2 dX6_bares_28 rfl rfl ?_
      refine r_ias K h 0 [_] rfl (by omega) (by decide) rfl dX6_bares_29 (fun H locs h => ?_)
      refine r_aln K hl 0 dX6_bares_30 rfl rfl ?_
      refine r_ic K (nI 2) dX6_bares_31 k_2 ?_
      refine r_iln K hl 3 dX6_bares_32 rfl rfl ?_
      refine r_ias K h 0 [_] rfl (by omega) (by decide) rfl dX6_bares_33 (fun H locs h => ?_)
      refine hr.2 _ _ _ _ dX6_bares_34 ((h.arr 0 (mBares n mv wr) rfl (fun j hj => ?_)).to rfl) rfl
      simp only [mBares, upd]
      split <;> try rfl
      split <;> try rfl
      split <;> try rfl
      exact hfc j (by omega)
    | succ j ih =>
      intro k fc hk hfc H locs h ls hl
      refine r_il K hl 4 dX6_bares_3 rfl ?_
      refine r_sp K (nI 512) dX6_bares_5 ks_512 ?_
      refine r_cgeN K 22 dX6_bares_8 (by decide) (by omega) (by omega) (fun c => absurd c (by omega)) (fun c8 => ?_)
      refine r_aln K hl 0 dX6_bares_11 rfl rfl ?_
      refine r_il K hl 4 dX6_bares_12 rfl ?_
      refine r_ic K (nI 0) dX6_bares_14 k_0 ?_
      refine r_ias K h 0 [_] rfl (by omega) (by decide) rfl dX6_bares_15 (fun H locs h => ?_)
      refine r_incN K hl (k := 1) [_, _, _, _, _] dX6_bares_16 rfl (by decide) rfl (fun ls hl => ?_)
      refine r_go K 3 dX6_bares_19 (by decide) ?_
      refine ih (k + 1) _ (by omega) (fun t ht => ?_) _ _ h _ hl
      simp only [upd]
      split
      · rfl
      · exact hfc t (by omega)
  exact loop 512 0 f rfl (fun t ht => absurd ht (Nat.not_lt_zero t)) _ _ h _ hl

set_option maxHeartbeats 4000000 in
set_option maxRecDepth 100000 in
theorem c_X6_idles (l : Launch) (g : GG) (a : Nat) (f : Row) (p : Nat) (hp : p < 4) : Ct l g yX6_idles cX6_idles 3 none 1 [.ref a, .int (nI p)] [aI g a 512 f] none [aI g a 512 (mIdles f p)] := by
  refine Ct.start (by decide +kernel) (Nat.le_of_ble_eq_true rfl) (by simp [Value.category]) (Or.inl ⟨rfl, rfl⟩) ?_
  intro p0 e R s m args below meth c A Q K hr h ls hl
  have hl : Lq ls 3 [some (.ref a), some (.int (nI p)), none] := hl
  refine r_ic K (nI 0) dX6_idles_0 k_0 ?_
  refine r_isn K hl 2 [_, _, _] dX6_idles_1 rfl (by decide) rfl (fun ls hl => ?_)
  have loop : ∀ (j k : Nat) (fc : Row), k + j = 42 → (∀ t, t < 512 → fc t = if 32 + 42 * p ≤ t ∧ t < 32 + 42 * p + k then 0 else f t) → ∀ (H : Heap) (locs : List Loc), Hp g A s H locs [aI g a 512 fc] → ∀ ls, Lq ls 3 [some (.ref a), some (.int (nI p)), some (.int (nI k))] → W p0 l e R s m args below meth c H locs 0 0 Q (F0 m 2 ls []) := by
    intro j
    induction j with
    | zero =>
      intro k fc hk hfc H locs h ls hl
      refine r_iln K hl 2 dX6_idles_2 rfl rfl ?_
      refine r_bp K (nI 42) dX6_idles_3 kb_42 ?_
      refine r_cgeN K 23 dX6_idles_5 (by decide) (by omega) (by omega) (fun c5 => ?_) (fun c => absurd c (by omega))
      refine hr.2 _ _ _ _ dX6_idles_23 ((h.arr 0 (mIdles f p) rfl (fun j hj => ?_)).to rfl) rfl
      rw [hfc j hj, show k = 42 by omega]; rfl
    | succ j ih =>
      intro k fc hk hfc H locs h ls hl
      refine r_iln K hl 2 dX6_idles_2 rfl rfl ?_
      refine r_bp K (nI 42) dX6_idles_3 kb_42 ?_
      refine r_cgeN K 23 dX6_idles_5 (by decide) (by omega) (by omega) (fun c => absurd c (by omega)) (fun c5 => ?_)
      refine r_aln K hl 0 dX6_idles_8 rfl rfl ?_
      refine r_iln K hl 1 dX6_idles_9 rfl rfl ?_
      refine r_callS K h hl (c_X6_writerAt l g p) mc_X6_writerAt st_X6_writerAt mlX6_40 [] rfl rfl rfl [_] rfl (by decide) (by decide) rfl rfl (Nat.le_of_ble_eq_true rfl) ⟨Nat.zero_le _, Nat.zero_le _⟩ dX6_idles_10 (fun H locs h => ?_)
      refine W.eq (g2 := F0 m 13 ls [_, _]) rfl ?_
      refine r_iln K hl 2 dX6_idles_13 rfl rfl ?_
      refine r_addN K dX6_idles_14 ?_
      refine r_ic K (nI 0) dX6_idles_15 k_0 ?_
      refine r_ias K h 0 [_] rfl (by omega) (by decide) rfl dX6_idles_16 (fun H locs h => ?_)
      refine r_incN K hl (k := 1) [_, _, _] dX6_idles_17 rfl (by decide) rfl (fun ls hl => ?_)
      refine r_go K 2 dX6_idles_20 (by decide) ?_
      refine ih (k + 1) _ (by omega) (fun t ht => ?_) _ _ h _ hl
      simp only [upd]
      rw [hfc t ht]
      split
      · rw [if_pos (by omega)]; rfl
      · split
        · rw [if_pos (by omega)]
        · rw [if_neg (by omega)]
  exact loop 42 0 f rfl (fun t ht => by rw [if_neg (by omega)]) _ _ h _ hl
