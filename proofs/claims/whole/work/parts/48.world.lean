theorem has_le {x : Int32} {n : Nat} (h1 : 1 ≤ n) (hn : n < 1000) (h0 : ¬ x < 0) (h : ¬ nI n ≤ x) : x ≤ nI (n - 1) := by
  have a := Int32.lt_iff_toInt_lt.mp (Int32.not_le.mp h)
  rw [nI_toInt (by omega)] at a
  apply Int32.le_iff_toInt_le.mpr
  rw [nI_toInt (by omega)]
  omega

set_option maxHeartbeats 4000000 in
set_option maxRecDepth 100000 in
theorem c_X4_has (l : Launch) (g : GG) (a : Nat → Nat) (V : Nat → Row) (x : Int32) (n : Nat) (hn1 : 1 ≤ n) (hn : n ≤ 4) (hkn : V 0 0 = nI n) : Ct l g yX4_has cX4_has 2 (some .boolean) 0 [.ref (a 0), .int x] (wW g a V) (some (.int (bI (inB x (nI 0) (nI (n - 1)))))) (wW g a V) := by
  refine Ct.start (by decide +kernel) (Nat.le_of_ble_eq_true rfl) (by simp [Value.category]) (Or.inr ⟨.boolean, _, rfl, rfl, narB _⟩) ?_
  intro p0 e R s m args below meth c A Q K hr h ls hl
  have hl : Lq ls 2 [some (.ref (a 0)), some (.int x)] := hl
  refine r_iln K hl 1 dX4_has_0 rfl rfl ?_
  refine r_zlt K 16 dX4_has_1 (by decide) (fun c1 => ?_) (fun c1 => ?_)
  · refine r_ic K (nI 0) dX4_has_16 k_0 ?_
    exact hr.1 _ _ _ _ _ dX4_has_17 h (by simp only [inB]; rw [decide_eq_false (fun q => absurd q.1 (Int32.not_le.mpr c1))]; rfl)
  · refine r_iln K hl 1 dX4_has_4 rfl rfl ?_
    refine r_aln K hl 0 dX4_has_5 rfl rfl ?_
    refine r_getE K h ffX4_39 0 rfl rfl (congrArg Value.int hkn) dX4_has_6 ?_
    refine r_cge K 16 dX4_has_9 (by decide) (fun c9 => ?_) (fun c9 => ?_)
    · refine r_ic K (nI 0) dX4_has_16 k_0 ?_
      exact hr.1 _ _ _ _ _ dX4_has_17 h (by simp only [inB]; rw [decide_eq_false (fun q => absurd (Int32.le_trans c9 q.2) (Int32.not_le.mpr (nI_lt (by omega) (by omega))))]; rfl)
    · refine r_ic K (nI 1) dX4_has_12 k_1 ?_
      refine r_go K 17 dX4_has_13 (by decide) ?_
      exact hr.1 _ _ _ _ _ dX4_has_17 h (by simp only [inB]; obtain ⟨j, h1, h2⟩ := nI_of2 (x := x) (M := nI (n - 1)) (n := n - 1) (nI_toInt (by omega)) c1 (has_le (by omega) (by omega) c1 c9); rw [decide_eq_true ⟨Int32.not_lt.mp c1, by rw [h2]; exact nI_le h1 (by omega)⟩]; rfl)

set_option maxHeartbeats 4000000 in
set_option maxRecDepth 100000 in
theorem c_X4_isIdle (l : Launch) (g : GG) (a : Nat → Nat) (V : Nat → Row) (p : Nat) (hp : p < 4) : Ct l g yX4_isIdle cX4_isIdle 2 (some .boolean) 0 [.ref (a 0), .int (nI p)] (wW g a V) (some (.int (bI (decide (V (6 + 8 * p) 0 = 0))))) (wW g a V) := by
  refine Ct.start (by decide +kernel) (Nat.le_of_ble_eq_true rfl) (by simp [Value.category]) (Or.inr ⟨.boolean, _, rfl, rfl, narB _⟩) ?_
  intro p0 e R s m args below meth c A Q K hr h ls hl
  have hl : Lq ls 2 [some (.ref (a 0)), some (.int (nI p))] := hl
  rcases (by omega : p = 0 ∨ p = 1 ∨ p = 2 ∨ p = 3) with rfl | rfl | rfl | rfl
  · refine r_aln K hl 0 dX4_isIdle_0 rfl rfl ?_
    refine r_get K h ffX4_20 0 rfl rfl dX4_isIdle_1 ?_
    refine r_iln K hl 1 dX4_isIdle_4 rfl rfl ?_
    refine r_aal2 K h 5 rfl (by omega) (by decide) rfl dX4_isIdle_5 ?_
    refine r_get K h ffX4_79 6 rfl rfl dX4_isIdle_6 ?_
    refine r_zne K 16 dX4_isIdle_9 (by decide) (fun c9 => ?_) (fun c9 => ?_)
    · refine r_ic K (nI 0) dX4_isIdle_16 k_0 ?_
      exact hr.1 _ _ _ _ _ dX4_isIdle_17 h (congrArg (fun b => some (Value.int (bI b))) (decide_eq_false c9))
    · refine r_ic K (nI 1) dX4_isIdle_12 k_1 ?_
      refine r_go K 17 dX4_isIdle_13 (by decide) ?_
      exact hr.1 _ _ _ _ _ dX4_isIdle_17 h (congrArg (fun b => some (Value.int (bI b))) (decide_eq_true c9))
  · refine r_aln K hl 0 dX4_isIdle_0 rfl rfl ?_
    refine r_get K h ffX4_20 0 rfl rfl dX4_isIdle_1 ?_
    refine r_iln K hl 1 dX4_isIdle_4 rfl rfl ?_
    refine r_aal2 K h 5 rfl (by omega) (by decide) rfl dX4_isIdle_5 ?_
    refine r_get K h ffX4_79 14 rfl rfl dX4_isIdle_6 ?_
    refine r_zne K 16 dX4_isIdle_9 (by decide) (fun c9 => ?_) (fun c9 => ?_)
    · refine r_ic K (nI 0) dX4_isIdle_16 k_0 ?_
      exact hr.1 _ _ _ _ _ dX4_isIdle_17 h (congrArg (fun b => some (Value.int (bI b))) (decide_eq_false c9))
    · refine r_ic K (nI 1) dX4_isIdle_12 k_1 ?_
      refine r_go K 17 dX4_isIdle_13 (by decide) ?_
      exact hr.1 _ _ _ _ _ dX4_isIdle_17 h (congrArg (fun b => some (Value.int (bI b))) (decide_eq_true c9))
  · refine r_aln K hl 0 dX4_isIdle_0 rfl rfl ?_
    refine r_get K h ffX4_20 0 rfl rfl dX4_isIdle_1 ?_
    refine r_iln K hl 1 dX4_isIdle_4 rfl rfl ?_
    refine r_aal2 K h 5 rfl (by omega) (by decide) rfl dX4_isIdle_5 ?_
    refine r_get K h ffX4_79 22 rfl rfl dX4_isIdle_6 ?_
    refine r_zne K 16 dX4_isIdle_9 (by decide) (fun c9 => ?_) (fun c9 => ?_)
    · refine r_ic K (nI 0) dX4_isIdle_16 k_0 ?_
      exact hr.1 _ _ _ _ _ dX4_isIdle_17 h (congrArg (fun b => some (Value.int (bI b))) (decide_eq_false c9))
    · refine r_ic K (nI 1) dX4_isIdle_12 k_1 ?_
      refine r_go K 17 dX4_isIdle_13 (by decide) ?_
      exact hr.1 _ _ _ _ _ dX4_isIdle_17 h (congrArg (fun b => some (Value.int (bI b))) (decide_eq_true c9))
  · refine r_aln K hl 0 dX4_isIdle_0 rfl rfl ?_
    refine r_get K h ffX4_20 0 rfl rfl dX4_isIdle_1 ?_
    refine r_iln K hl 1 dX4_isIdle_4 rfl rfl ?_
    refine r_aal2 K h 5 rfl (by omega) (by decide) rfl dX4_isIdle_5 ?_
    refine r_get K h ffX4_79 30 rfl rfl dX4_isIdle_6 ?_
    refine r_zne K 16 dX4_isIdle_9 (by decide) (fun c9 => ?_) (fun c9 => ?_)
    · refine r_ic K (nI 0) dX4_isIdle_16 k_0 ?_
      exact hr.1 _ _ _ _ _ dX4_isIdle_17 h (congrArg (fun b => some (Value.int (bI b))) (decide_eq_false c9))
    · refine r_ic K (nI 1) dX4_isIdle_12 k_1 ?_
      refine r_go K 17 dX4_isIdle_13 (by decide) ?_
      exact hr.1 _ _ _ _ _ dX4_isIdle_17 h (congrArg (fun b => some (Value.int (bI b))) (decide_eq_true c9))

set_option maxHeartbeats 4000000 in
set_option maxRecDepth 100000 in
theorem c_X4_allIdle (l : Launch) (g : GG) (a : Nat → Nat) (V : Nat → Row) (n : Nat) (hn : n ≤ 4) (hkn : V 0 0 = nI n) : Ct l g yX4_allIdle cX4_allIdle 2 (some .boolean) 1 [.ref (a 0)] (wW g a V) (some (.int (bI (decide (∀ i, i < n → V (6 + 8 * i) 0 = 0))))) (wW g a V) := by
  refine Ct.start (by decide +kernel) (Nat.le_of_ble_eq_true rfl) (by simp [Value.category]) (Or.inr ⟨.boolean, _, rfl, rfl, narB _⟩) ?_
  intro p0 e R s m args below meth c A Q K hr h ls hl
  have hl : Lq ls 2 [some (.ref (a 0)), none] := hl
  refine r_ic K (nI 0) dX4_allIdle_0 k_0 ?_
  refine r_isn K hl 1 [_, _] dX4_allIdle_1 rfl (by decide) rfl (fun ls hl => ?_)
  have loop : ∀ (j k : Nat), k + j = n → (∀ i, i < k → V (6 + 8 * i) 0 = 0) → ∀ (H : Heap) (locs : List Loc), Hp g A s H locs (wW g a V) → ∀ ls, Lq ls 2 [some (.ref (a 0)), some (.int (nI k))] → W p0 l e R s m args below meth c H locs 0 0 Q (F0 m 2 ls []) := by
    intro j
    induction j with
    | zero =>
      intro k hk hz H locs h ls hl
      refine r_iln K hl 1 dX4_allIdle_2 rfl rfl ?_
      refine r_aln K hl 0 dX4_allIdle_3 rfl rfl ?_
      refine r_getE K h ffX4_39 0 rfl rfl (congrArg Value.int hkn) dX4_allIdle_4 ?_
      refine r_cgeN K 26 dX4_allIdle_7 (by decide) (by omega) (by omega) (fun c7 => ?_) (fun c => absurd c (by omega))
      refine r_ic K (nI 1) dX4_allIdle_26 k_1 ?_
      exact hr.1 _ _ _ _ _ dX4_allIdle_27 h (congrArg (fun b => some (Value.int (bI b))) (decide_eq_true (fun i hi => hz i (by omega))))
    | succ j ih =>
      intro k hk hz H locs h ls hl
      refine r_iln K hl 1 dX4_allIdle_2 rfl rfl ?_
      refine r_aln K hl 0 dX4_allIdle_3 rfl rfl ?_
      refine r_getE K h ffX4_39 0 rfl rfl (congrArg Value.int hkn) dX4_allIdle_4 ?_
      refine r_cgeN K 26 dX4_allIdle_7 (by decide) (by omega) (by omega) (fun c => absurd c (by omega)) (fun c7 => ?_)
      refine r_aln K hl 0 dX4_allIdle_10 rfl rfl ?_
      refine r_iln K hl 1 dX4_allIdle_11 rfl rfl ?_
      refine r_callVW K h hl (c_X4_isIdle l g a V k (by omega)) mc_X4_isIdle vm_X4_isIdle mlX4_82 0 rfl rfl rfl rfl [_, _, _, _, _, _, _, _, _, _, _, _, _, _, _, _, _, _, _, _, _, _, _, _, _, _, _, _, _, _, _, _, _, _, _, _, _, _, _, _, _, _, _, _, _] rfl (by decide) (by decide) rfl rfl (Nat.le_of_ble_eq_true rfl) ⟨Nat.zero_le _, Nat.zero_le _⟩ dX4_allIdle_12 (fun H locs h => ?_)
      refine W.eq (g2 := F0 m 15 ls [_]) rfl ?_
      refine r_zneB K 20 dX4_allIdle_15 (by decide) (fun c15 => ?_) (fun c15 => ?_)
      · refine r_incN K hl (k := 1) [_, _] dX4_allIdle_20 rfl (by decide) rfl (fun ls hl => ?_)
        refine r_go K 2 dX4_allIdle_23 (by decide) ?_
        refine ih (k + 1) (by omega) (fun i hi => ?_) H locs h ls hl
        rcases (by omega : i = k ∨ i < k) with rfl | e
        · exact of_decide_eq_true c15
        · exact hz i e
      · refine r_ic K (nI 0) dX4_allIdle_18 k_0 ?_
        exact hr.1 _ _ _ _ _ dX4_allIdle_19 h (congrArg (fun b => some (Value.int (bI b))) (decide_eq_false (fun q => absurd (q k (by omega)) (of_decide_eq_false c15))))
  exact loop n 0 (by omega) (fun i hi => absurd hi (by omega)) _ _ h _ hl

def idV (V : Nat → Row) (k : Nat) : Bool := decide (V (6 + 8 * (k - 1)) 0 = 0)
set_option maxHeartbeats 4000000 in
set_option maxRecDepth 100000 in
theorem c_X4_idleBits (l : Launch) (g : GG) (a : Nat → Nat) (V : Nat → Row) (n : Nat) (hn : n ≤ 4) (hkn : V 0 0 = nI n) : Ct l g yX4_idleBits cX4_idleBits 3 (some .int) 1 [.ref (a 0)] (wW g a V) (some (.int (nI (mskK (idV V) n)))) (wW g a V) := by
  refine Ct.start (by decide +kernel) (Nat.le_of_ble_eq_true rfl) (by simp [Value.category]) (Or.inr ⟨.int, _, rfl, rfl, rfl⟩) ?_
  intro p0 e R s m args below meth c A Q K hr h ls hl
  have hl : Lq ls 3 [some (.ref (a 0)), none, none] := hl
  refine r_ic K (nI 0) dX4_idleBits_0 k_0 ?_
  refine r_isn K hl 1 [_, _, _] dX4_idleBits_1 rfl (by decide) rfl (fun ls hl => ?_)
  refine r_ic K (nI 0) dX4_idleBits_2 k_0 ?_
  refine r_isn K hl 2 [_, _, _] dX4_idleBits_3 rfl (by decide) rfl (fun ls hl => ?_)
  have loop : ∀ (j k : Nat), k + j = n → ∀ (H : Heap) (locs : List Loc), Hp g A s H locs (wW g a V) → ∀ ls, Lq ls 3 [some (.ref (a 0)), some (.int (nI (mskK (idV V) k))), some (.int (nI k))] → W p0 l e R s m args below meth c H locs 0 0 Q (F0 m 4 ls []) := by
    intro j
    induction j with
    | zero =>
      intro k hk H locs h ls hl
      obtain rfl : k = n := by omega
      refine r_iln K hl 2 dX4_idleBits_4 rfl rfl ?_
      refine r_aln K hl 0 dX4_idleBits_5 rfl rfl ?_
      refine r_getE K h ffX4_39 0 rfl rfl (congrArg Value.int hkn) dX4_idleBits_6 ?_
      refine r_cgeN K 32 dX4_idleBits_9 (by decide) (by omega) (by omega) (fun c9 => ?_) (fun c => absurd c (by omega))
      refine r_iln K hl 1 dX4_idleBits_32 rfl rfl ?_
      exact hr.1 _ _ _ _ _ dX4_idleBits_33 h rfl
    | succ j ih =>
      intro k hk H locs h ls hl
      refine r_iln K hl 2 dX4_idleBits_4 rfl rfl ?_
      refine r_aln K hl 0 dX4_idleBits_5 rfl rfl ?_
      refine r_getE K h ffX4_39 0 rfl rfl (congrArg Value.int hkn) dX4_idleBits_6 ?_
      refine r_cgeN K 32 dX4_idleBits_9 (by decide) (by omega) (by omega) (fun c => absurd c (by omega)) (fun c9 => ?_)
      refine r_aln K hl 0 dX4_idleBits_12 rfl rfl ?_
      refine r_iln K hl 2 dX4_idleBits_13 rfl rfl ?_
      refine r_callVW K h hl (c_X4_isIdle l g a V k (by omega)) mc_X4_isIdle vm_X4_isIdle mlX4_82 0 rfl rfl rfl rfl [_, _, _, _, _, _, _, _, _, _, _, _, _, _, _, _, _, _, _, _, _, _, _, _, _, _, _, _, _, _, _, _, _, _, _, _, _, _, _, _, _, _, _, _, _] rfl (by decide) (by decide) rfl rfl (Nat.le_of_ble_eq_true rfl) ⟨Nat.zero_le _, Nat.zero_le _⟩ dX4_idleBits_14 (fun H locs h => ?_)
      refine W.eq (g2 := F0 m 17 ls [_]) rfl ?_
      refine r_zeqB K 26 dX4_idleBits_17 (by decide) (fun c17 => ?_) (fun c17 => ?_)
      · rw [show mskK (idV V) k = mskK (idV V) (k + 1) by rw [mskK, show idV V (k + 1) = false from c17]; rfl] at hl
        refine r_incN K hl (k := 1) [_, _, _] dX4_idleBits_26 rfl (by decide) rfl (fun ls hl => ?_)
        refine r_go K 4 dX4_idleBits_29 (by decide) ?_
        exact ih (k + 1) (by omega) H locs h ls hl
      · have hlt := mskK_lt (idV V) k
        have h16 : mskK (idV V) k < 16 := by rcases (by omega : k = 0 ∨ k = 1 ∨ k = 2 ∨ k = 3) with rfl | rfl | rfl | rfl <;> omega
        refine r_iln K hl 1 dX4_idleBits_20 rfl rfl ?_
        refine r_ic K (nI 1) dX4_idleBits_21 k_1 ?_
        refine r_iln K hl 2 dX4_idleBits_22 rfl rfl ?_
        refine r_shl K dX4_idleBits_23 ?_
        refine r_or K dX4_idleBits_24 ?_
        refine r_isn K hl 1 [_, _, _] dX4_idleBits_25 rfl (by decide) rfl (fun ls hl => ?_)
        rw [or_bit k (by omega) _ h16 hlt, show mskK (idV V) k + 2 ^ k = mskK (idV V) (k + 1) by rw [mskK, show idV V (k + 1) = true from c17]; rfl] at hl
        refine r_incN K hl (k := 1) [_, _, _] dX4_idleBits_26 rfl (by decide) rfl (fun ls hl => ?_)
        refine r_go K 4 dX4_idleBits_29 (by decide) ?_
        exact ih (k + 1) (by omega) H locs h ls hl
  exact loop n 0 (by omega) _ _ h _ hl

def cBeg (V : Nat → Row) (p : Nat) (kd v : Int32) : Nat → Row := setB (setB (setB (setB (setB (setB (setB (setB V 0 (upd (V 0) 4 (V 0 4 + nI 1))) (6 + 8 * p) (kB kd v (V 0 3))) (7 + 8 * p) z0) (8 + 8 * p) z0) (9 + 8 * p) z0) (11 + 8 * p) z0) (12 + 8 * p) z0) (13 + 8 * p) z0
set_option maxHeartbeats 4000000 in
set_option maxRecDepth 100000 in
theorem c_X4_beginAct (l : Launch) (g : GG) (a : Nat → Nat) (V : Nat → Row) (p : Nat) (hp : p < 4) (kd v : Int32) : Ct l g yX4_beginAct cX4_beginAct 4 none 3 [.ref (a 0), .int (nI p), .int kd, .int v] (wW g a V) none (wW g a (cBeg V p kd v)) := by
  refine Ct.start (by decide +kernel) (Nat.le_of_ble_eq_true rfl) (by simp [Value.category]) (Or.inl ⟨rfl, rfl⟩) ?_
  intro p0 e R s m args below meth c A Q K hr h ls hl
  have hl : Lq ls 4 [some (.ref (a 0)), some (.int (nI p)), some (.int kd), some (.int v)] := hl
  rcases (by omega : p = 0 ∨ p = 1 ∨ p = 2 ∨ p = 3) with rfl | rfl | rfl | rfl
  · refine r_aln K hl 0 dX4_beginAct_0 rfl rfl ?_
    refine r_get K h ffX4_20 0 rfl rfl dX4_beginAct_1 ?_
    refine r_iln K hl 1 dX4_beginAct_4 rfl rfl ?_
    refine r_aal2 K h 5 rfl (by omega) (by decide) rfl dX4_beginAct_5 ?_
    refine r_iln K hl 2 dX4_beginAct_6 rfl rfl ?_
    refine r_iln K hl 3 dX4_beginAct_7 rfl rfl ?_
    refine r_aln K hl 0 dX4_beginAct_8 rfl rfl ?_
    refine r_get K h ffX4_49 0 rfl rfl dX4_beginAct_9 ?_
    refine r_callV K h hl (c_X0_become l g (fun j => a (6 + j)) (V 6) (V 7) (V 8) (V 9) (V 11) (V 12) (V 13) kd v (V 0 3)) mc_X0_become vm_X0_become mlX4_58 6 rfl rfl rfl [6, 7, 8, 9, 10, 11, 12, 13] (by decide +kernel) rfl rfl [_, _, _, _, _, _, _, _, _, _, _, _, _, _, _, _, _, _, _, _, _, _, _, _, _, _, _, _, _, _, _, _, _, _, _, _, _, _, _, _, _, _, _, _, _] rfl (by decide) (by decide) rfl rfl (Nat.le_of_ble_eq_true rfl) ⟨Nat.zero_le _, Nat.zero_le _⟩ dX4_beginAct_12 (fun H locs h => ?_)
    refine W.eq (g2 := F0 m 15 ls []) rfl ?_
    refine r_aln K hl 0 dX4_beginAct_15 rfl rfl ?_
    refine r_dup K dX4_beginAct_16 rfl ?_
    refine r_get K h ffX4_52 0 rfl rfl dX4_beginAct_17 ?_
    refine r_ic K (nI 1) dX4_beginAct_20 k_1 ?_
    refine r_add K dX4_beginAct_21 ?_
    refine r_put K h ffX4_52 pfX4_4 0 [_, _, _, _, _, _, _, _, _] [_, _, _, _, _, _, _, _, _, _, _, _, _, _, _, _, _, _, _, _, _, _, _, _, _, _, _, _, _, _, _, _, _, _, _, _, _, _, _, _, _, _, _, _, _] rfl rfl rfl (Nat.le_of_ble_eq_true rfl) rfl rfl dX4_beginAct_22 (fun H locs h => ?_)
    exact hr.2 _ _ _ _ dX4_beginAct_25 h rfl
  · refine r_aln K hl 0 dX4_beginAct_0 rfl rfl ?_
    refine r_get K h ffX4_20 0 rfl rfl dX4_beginAct_1 ?_
    refine r_iln K hl 1 dX4_beginAct_4 rfl rfl ?_
    refine r_aal2 K h 5 rfl (by omega) (by decide) rfl dX4_beginAct_5 ?_
    refine r_iln K hl 2 dX4_beginAct_6 rfl rfl ?_
    refine r_iln K hl 3 dX4_beginAct_7 rfl rfl ?_
    refine r_aln K hl 0 dX4_beginAct_8 rfl rfl ?_
    refine r_get K h ffX4_49 0 rfl rfl dX4_beginAct_9 ?_
    refine r_callV K h hl (c_X0_become l g (fun j => a (14 + j)) (V 14) (V 15) (V 16) (V 17) (V 19) (V 20) (V 21) kd v (V 0 3)) mc_X0_become vm_X0_become mlX4_58 14 rfl rfl rfl [14, 15, 16, 17, 18, 19, 20, 21] (by decide +kernel) rfl rfl [_, _, _, _, _, _, _, _, _, _, _, _, _, _, _, _, _, _, _, _, _, _, _, _, _, _, _, _, _, _, _, _, _, _, _, _, _, _, _, _, _, _, _, _, _] rfl (by decide) (by decide) rfl rfl (Nat.le_of_ble_eq_true rfl) ⟨Nat.zero_le _, Nat.zero_le _⟩ dX4_beginAct_12 (fun H locs h => ?_)
    refine W.eq (g2 := F0 m 15 ls []) rfl ?_
    refine r_aln K hl 0 dX4_beginAct_15 rfl rfl ?_
    refine r_dup K dX4_beginAct_16 rfl ?_
    refine r_get K h ffX4_52 0 rfl rfl dX4_beginAct_17 ?_
    refine r_ic K (nI 1) dX4_beginAct_20 k_1 ?_
    refine r_add K dX4_beginAct_21 ?_
    refine r_put K h ffX4_52 pfX4_4 0 [_, _, _, _, _, _, _, _, _] [_, _, _, _, _, _, _, _, _, _, _, _, _, _, _, _, _, _, _, _, _, _, _, _, _, _, _, _, _, _, _, _, _, _, _, _, _, _, _, _, _, _, _, _, _] rfl rfl rfl (Nat.le_of_ble_eq_true rfl) rfl rfl dX4_beginAct_22 (fun H locs h => ?_)
    exact hr.2 _ _ _ _ dX4_beginAct_25 h rfl
  · refine r_aln K hl 0 dX4_beginAct_0 rfl rfl ?_
    refine r_get K h ffX4_20 0 rfl rfl dX4_beginAct_1 ?_
    refine r_iln K hl 1 dX4_beginAct_4 rfl rfl ?_
    refine r_aal2 K h 5 rfl (by omega) (by decide) rfl dX4_beginAct_5 ?_
    refine r_iln K hl 2 dX4_beginAct_6 rfl rfl ?_
    refine r_iln K hl 3 dX4_beginAct_7 rfl rfl ?_
    refine r_aln K hl 0 dX4_beginAct_8 rfl rfl ?_
    refine r_get K h ffX4_49 0 rfl rfl dX4_beginAct_9 ?_
    refine r_callV K h hl (c_X0_become l g (fun j => a (22 + j)) (V 22) (V 23) (V 24) (V 25) (V 27) (V 28) (V 29) kd v (V 0 3)) mc_X0_become vm_X0_become mlX4_58 22 rfl rfl rfl [22, 23, 24, 25, 26, 27, 28, 29] (by decide +kernel) rfl rfl [_, _, _, _, _, _, _, _, _, _, _, _, _, _, _, _, _, _, _, _, _, _, _, _, _, _, _, _, _, _, _, _, _, _, _, _, _, _, _, _, _, _, _, _, _] rfl (by decide) (by decide) rfl rfl (Nat.le_of_ble_eq_true rfl) ⟨Nat.zero_le _, Nat.zero_le _⟩ dX4_beginAct_12 (fun H locs h => ?_)
    refine W.eq (g2 := F0 m 15 ls []) rfl ?_
    refine r_aln K hl 0 dX4_beginAct_15 rfl rfl ?_
    refine r_dup K dX4_beginAct_16 rfl ?_
    refine r_get K h ffX4_52 0 rfl rfl dX4_beginAct_17 ?_
    refine r_ic K (nI 1) dX4_beginAct_20 k_1 ?_
    refine r_add K dX4_beginAct_21 ?_
    refine r_put K h ffX4_52 pfX4_4 0 [_, _, _, _, _, _, _, _, _] [_, _, _, _, _, _, _, _, _, _, _, _, _, _, _, _, _, _, _, _, _, _, _, _, _, _, _, _, _, _, _, _, _, _, _, _, _, _, _, _, _, _, _, _, _] rfl rfl rfl (Nat.le_of_ble_eq_true rfl) rfl rfl dX4_beginAct_22 (fun H locs h => ?_)
    exact hr.2 _ _ _ _ dX4_beginAct_25 h rfl
  · refine r_aln K hl 0 dX4_beginAct_0 rfl rfl ?_
    refine r_get K h ffX4_20 0 rfl rfl dX4_beginAct_1 ?_
    refine r_iln K hl 1 dX4_beginAct_4 rfl rfl ?_
    refine r_aal2 K h 5 rfl (by omega) (by decide) rfl dX4_beginAct_5 ?_
    refine r_iln K hl 2 dX4_beginAct_6 rfl rfl ?_
    refine r_iln K hl 3 dX4_beginAct_7 rfl rfl ?_
    refine r_aln K hl 0 dX4_beginAct_8 rfl rfl ?_
    refine r_get K h ffX4_49 0 rfl rfl dX4_beginAct_9 ?_
    refine r_callV K h hl (c_X0_become l g (fun j => a (30 + j)) (V 30) (V 31) (V 32) (V 33) (V 35) (V 36) (V 37) kd v (V 0 3)) mc_X0_become vm_X0_become mlX4_58 30 rfl rfl rfl [30, 31, 32, 33, 34, 35, 36, 37] (by decide +kernel) rfl rfl [_, _, _, _, _, _, _, _, _, _, _, _, _, _, _, _, _, _, _, _, _, _, _, _, _, _, _, _, _, _, _, _, _, _, _, _, _, _, _, _, _, _, _, _, _] rfl (by decide) (by decide) rfl rfl (Nat.le_of_ble_eq_true rfl) ⟨Nat.zero_le _, Nat.zero_le _⟩ dX4_beginAct_12 (fun H locs h => ?_)
    refine W.eq (g2 := F0 m 15 ls []) rfl ?_
    refine r_aln K hl 0 dX4_beginAct_15 rfl rfl ?_
    refine r_dup K dX4_beginAct_16 rfl ?_
    refine r_get K h ffX4_52 0 rfl rfl dX4_beginAct_17 ?_
    refine r_ic K (nI 1) dX4_beginAct_20 k_1 ?_
    refine r_add K dX4_beginAct_21 ?_
    refine r_put K h ffX4_52 pfX4_4 0 [_, _, _, _, _, _, _, _, _] [_, _, _, _, _, _, _, _, _, _, _, _, _, _, _, _, _, _, _, _, _, _, _, _, _, _, _, _, _, _, _, _, _, _, _, _, _, _, _, _, _, _, _, _, _] rfl rfl rfl (Nat.le_of_ble_eq_true rfl) rfl rfl dX4_beginAct_22 (fun H locs h => ?_)
    exact hr.2 _ _ _ _ dX4_beginAct_25 h rfl

