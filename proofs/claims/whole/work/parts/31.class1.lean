set_option maxHeartbeats 4000000 in
set_option maxRecDepth 100000 in
theorem c_X5_isWithin (l : Launch) (g : GG) (v lo hi : Int32) : Ct l g yX5_isWithin cX5_isWithin 3 (some .boolean) 0 [.int v, .int lo, .int hi] [] (some (.int (bI (inB v lo hi)))) [] := by
  refine Ct.start (by decide +kernel) (Nat.le_of_ble_eq_true rfl) (by simp [Value.category]) (Or.inr ⟨.boolean, _, rfl, rfl, narB _⟩) ?_
  intro p0 e R s m args below meth c A Q K hr h ls hl
  have hl : Lq ls 3 [some (.int v), some (.int lo), some (.int hi)] := hl
  refine r_iln K hl 0 dX5_isWithin_0 rfl rfl ?_
  refine r_iln K hl 1 dX5_isWithin_1 rfl rfl ?_
  refine r_clt K 14 dX5_isWithin_2 (by decide) (fun c2 => ?_) (fun c2 => ?_)
  · refine r_ic K (nI 0) dX5_isWithin_14 k_0 ?_
    exact hr.1 _ _ _ _ _ dX5_isWithin_15 h (by simp only [inB]; rw [decide_eq_false (fun q => absurd q.1 (Int32.not_le.mpr c2))]; rfl)
  · refine r_iln K hl 0 dX5_isWithin_5 rfl rfl ?_
    refine r_iln K hl 2 dX5_isWithin_6 rfl rfl ?_
    refine r_cgt K 14 dX5_isWithin_7 (by decide) (fun c7 => ?_) (fun c7 => ?_)
    · refine r_ic K (nI 0) dX5_isWithin_14 k_0 ?_
      exact hr.1 _ _ _ _ _ dX5_isWithin_15 h (by simp only [inB]; rw [decide_eq_false (fun q => absurd q.2 (Int32.not_le.mpr c7))]; rfl)
    · refine r_ic K (nI 1) dX5_isWithin_10 k_1 ?_
      refine r_go K 15 dX5_isWithin_11 (by decide) ?_
      exact hr.1 _ _ _ _ _ dX5_isWithin_15 h (by simp only [inB]; rw [decide_eq_true ⟨Int32.not_lt.mp c2, Int32.not_lt.mp c7⟩]; rfl)

set_option maxHeartbeats 4000000 in
set_option maxRecDepth 100000 in
theorem c_X5_isWrap (l : Launch) (g : GG) (x : Int32) : Ct l g yX5_isWrap cX5_isWrap 1 (some .boolean) 1 [.int x] [] (some (.int (bI (decide (x = 0) || inB x (nI 2) (nI 8))))) [] := by
  refine Ct.start (by decide +kernel) (Nat.le_of_ble_eq_true rfl) (by simp [Value.category]) (Or.inr ⟨.boolean, _, rfl, rfl, narB _⟩) ?_
  intro p0 e R s m args below meth c A Q K hr h ls hl
  have hl : Lq ls 1 [some (.int x)] := hl
  refine r_iln K hl 0 dX5_isWrap_0 rfl rfl ?_
  refine r_zeq K 14 dX5_isWrap_1 (by decide) (fun c1 => ?_) (fun c1 => ?_)
  · refine r_ic K (nI 1) dX5_isWrap_14 k_1 ?_
    refine r_go K 19 dX5_isWrap_15 (by decide) ?_
    exact hr.1 _ _ _ _ _ dX5_isWrap_19 h (by rw [decide_eq_true c1]; rfl)
  · refine r_iln K hl 0 dX5_isWrap_4 rfl rfl ?_
    refine r_ic K (nI 2) dX5_isWrap_5 k_2 ?_
    refine r_bp K (nI 8) dX5_isWrap_6 kb_8 ?_
    refine r_callS K h hl (c_X5_isWithin l g x (nI 2) (nI 8)) mc_X5_isWithin st_X5_isWithin mlX5_47 [] rfl rfl rfl [] rfl (by decide) (by decide) rfl rfl (Nat.le_of_ble_eq_true rfl) ⟨Nat.zero_le _, Nat.zero_le _⟩ dX5_isWrap_8 (fun H locs h => ?_)
    refine W.eq (g2 := F0 m 11 ls [_]) rfl ?_
    refine r_zeqB K 18 dX5_isWrap_11 (by decide) (fun c11 => ?_) (fun c11 => ?_)
    · refine r_ic K (nI 0) dX5_isWrap_18 k_0 ?_
      exact hr.1 _ _ _ _ _ dX5_isWrap_19 h (by rw [c11, decide_eq_false c1]; rfl)
    · refine r_ic K (nI 1) dX5_isWrap_14 k_1 ?_
      refine r_go K 19 dX5_isWrap_15 (by decide) ?_
      exact hr.1 _ _ _ _ _ dX5_isWrap_19 h (by rw [c11, Bool.or_true]; rfl)

set_option maxHeartbeats 4000000 in
set_option maxRecDepth 100000 in
theorem c_X5_isPace (l : Launch) (g : GG) (x : Int32) : Ct l g yX5_isPace cX5_isPace 1 (some .boolean) 1 [.int x] [] (some (.int (bI (inB x (nI 1) (nI 4))))) [] := by
  refine Ct.start (by decide +kernel) (Nat.le_of_ble_eq_true rfl) (by simp [Value.category]) (Or.inr ⟨.boolean, _, rfl, rfl, narB _⟩) ?_
  intro p0 e R s m args below meth c A Q K hr h ls hl
  have hl : Lq ls 1 [some (.int x)] := hl
  refine r_iln K hl 0 dX5_isPace_0 rfl rfl ?_
  refine r_ic K (nI 1) dX5_isPace_1 k_1 ?_
  refine r_ic K (nI 4) dX5_isPace_2 k_4 ?_
  refine r_callS K h hl (c_X5_isWithin l g x (nI 1) (nI 4)) mc_X5_isWithin st_X5_isWithin mlX5_47 [] rfl rfl rfl [] rfl (by decide) (by decide) rfl rfl (Nat.le_of_ble_eq_true rfl) ⟨Nat.zero_le _, Nat.zero_le _⟩ dX5_isPace_3 (fun H locs h => ?_)
  refine W.eq (g2 := F0 m 6 ls [_]) rfl ?_
  exact hr.1 _ _ _ _ _ dX5_isPace_6 h rfl

set_option maxHeartbeats 4000000 in
set_option maxRecDepth 100000 in
theorem c_X5_isIn (l : Launch) (g : GG) (β : Nat → Bool) (k : Nat) (hk : k < 4) : Ct l g yX5_isIn cX5_isIn 2 (some .boolean) 0 [.int (nI (mskK β 4)), .int (nI (k + 1))] [] (some (.int (bI (β (k + 1))))) [] := by
  refine Ct.start (by decide +kernel) (Nat.le_of_ble_eq_true rfl) (by simp [Value.category]) (Or.inr ⟨.boolean, _, rfl, rfl, narB _⟩) ?_
  intro p0 e R s m args below meth c A Q K hr h ls hl
  have hl : Lq ls 2 [some (.int (nI (mskK β 4))), some (.int (nI (k + 1)))] := hl
  refine r_iln K hl 0 dX5_isIn_0 rfl rfl ?_
  refine r_iln K hl 1 dX5_isIn_1 rfl rfl ?_
  refine r_ic K (nI 1) dX5_isIn_2 k_1 ?_
  refine r_subN K (by omega) dX5_isIn_3 ?_
  refine r_shr K dX5_isIn_4 ?_
  refine r_ic K (nI 1) dX5_isIn_5 k_1 ?_
  refine r_and K dX5_isIn_6 ?_
  refine r_ic K (nI 1) dX5_isIn_7 k_1 ?_
  have hbit := bit_k k (by omega) (mskK β 4) (mskK_lt β 4)
  rw [msk_bit β k (by omega)] at hbit
  rw [show k + 1 - 1 = k by omega]
  refine r_cne K 15 dX5_isIn_8 (by decide) (fun c8 => ?_) (fun c8 => ?_)
  · refine r_ic K (nI 0) dX5_isIn_15 k_0 ?_
    exact hr.1 _ _ _ _ _ dX5_isIn_16 h (by rw [Bool.eq_false_iff.mpr (fun z => c8 (hbit.mpr z))]; rfl)
  · refine r_ic K (nI 1) dX5_isIn_11 k_1 ?_
    refine r_go K 16 dX5_isIn_12 (by decide) ?_
    exact hr.1 _ _ _ _ _ dX5_isIn_16 h (by rw [hbit.mp c8]; rfl)

set_option maxHeartbeats 4000000 in
set_option maxRecDepth 100000 in
theorem c_X5_copyAll (l : Launch) (g : GG) (x y n : Nat) (f0 f1 : Row) (hn : n < 2 ^ 31) : Ct l g yX5_copyAll cX5_copyAll 2 none 1 [.ref x, .ref y] [aI g x n f0, aI g y n f1] none [aI g x n f0, aI g y n f0] := by
  refine Ct.start (by decide +kernel) (Nat.le_of_ble_eq_true rfl) (by simp [Value.category]) (Or.inl ⟨rfl, rfl⟩) ?_
  intro p0 e R s m args below meth c A Q K hr h ls hl
  have hl : Lq ls 2 [some (.ref x), some (.ref y)] := hl
  refine r_aln K hl 0 dX5_copyAll_0 rfl rfl ?_
  refine r_ic K (nI 0) dX5_copyAll_1 k_0 ?_
  refine r_aln K hl 1 dX5_copyAll_2 rfl rfl ?_
  refine r_ic K (nI 0) dX5_copyAll_3 k_0 ?_
  refine r_aln K hl 0 dX5_copyAll_4 rfl rfl ?_
  refine r_len K h 0 rfl dX5_copyAll_5 ?_
  refine r_aln K hl 1 dX5_copyAll_6 rfl rfl ?_
  refine r_len K h 1 rfl dX5_copyAll_7 ?_
  refine r_minS K hl mlX5_193 (by decide) (Nat.le_of_ble_eq_true rfl) (Nat.zero_le _) (Nat.zero_le _) dX5_copyAll_8 ?_
  refine r_cpy K h hl 0 1 f0 [_, _] mlX5_217 rfl rfl (by omega) (by omega) ⟨hn, hn⟩ (fun j hj => by rw [cpy_i (by omega) (by omega), Nat.zero_add, Nat.sub_zero]) rfl (by decide) (Nat.le_of_ble_eq_true rfl) dX5_copyAll_11 (fun H locs h => ?_)
  exact hr.2 _ _ _ _ dX5_copyAll_14 h rfl

set_option maxHeartbeats 4000000 in
set_option maxRecDepth 100000 in
theorem c_fill (l : Launch) (g : GG) (x n : Nat) (f : Row) (v : Int32) (hn : n < 2 ^ 31) : Ct l g yJ7_fill_53178 cJ7_fill_53178 4 none 0 [.ref x, .int v] [aI g x n f] none [aI g x n (fun _ => v)] := by
  refine Ct.start (by decide +kernel) (Nat.le_of_ble_eq_true rfl) (by simp [Value.category]) (Or.inl ⟨rfl, rfl⟩) ?_
  intro p0 e R s m args below meth c A Q K hr h ls hl
  have hl : Lq ls 4 [some (.ref x), some (.int v), none, none] := hl
  refine r_ic K (nI 0) dJ7_fill_53178_0 k_0 ?_
  refine r_isn K hl 2 [_, _, _, _] dJ7_fill_53178_1 rfl (by decide) rfl (fun ls hl => ?_)
  refine r_aln K hl 0 dJ7_fill_53178_2 rfl rfl ?_
  refine r_len K h 0 rfl dJ7_fill_53178_3 ?_
  refine r_isn K hl 3 [_, _, _, _] dJ7_fill_53178_4 rfl (by decide) rfl (fun ls hl => ?_)
  have loop : ∀ (j k : Nat) (fc : Row), k + j = n → (∀ t, t < k → fc t = v) → ∀ (H : Heap) (locs : List Loc), Hp g A s H locs [aI g x n fc] → ∀ ls, Lq ls 4 [some (.ref x), some (.int v), some (.int (nI k)), some (.int (nI n))] → W p0 l e R s m args below meth c H locs 0 0 Q (F0 m 5 ls []) := by
    intro j
    induction j with
    | zero =>
      intro k fc hk hf H locs h ls hl
      refine r_iln K hl 2 dJ7_fill_53178_5 rfl rfl ?_
      refine r_iln K hl 3 dJ7_fill_53178_6 rfl rfl ?_
      refine r_cgeN K 20 dJ7_fill_53178_7 (by decide) (by omega) (by omega) (fun c7 => ?_) (fun c => absurd c (by omega))
      exact hr.2 _ _ _ _ dJ7_fill_53178_20 ((h.arr 0 (fun _ => v) rfl (fun j hj => hf j (by omega))).to rfl) rfl
    | succ j ih =>
      intro k fc hk hf H locs h ls hl
      refine r_iln K hl 2 dJ7_fill_53178_5 rfl rfl ?_
      refine r_iln K hl 3 dJ7_fill_53178_6 rfl rfl ?_
      refine r_cgeN K 20 dJ7_fill_53178_7 (by decide) (by omega) (by omega) (fun c => absurd c (by omega)) (fun c7 => ?_)
      refine r_aln K hl 0 dJ7_fill_53178_10 rfl rfl ?_
      refine r_iln K hl 2 dJ7_fill_53178_11 rfl rfl ?_
      refine r_iln K hl 1 dJ7_fill_53178_12 rfl rfl ?_
      refine r_ias K h 0 [_] rfl (by omega) hn rfl dJ7_fill_53178_13 (fun H locs h => ?_)
      refine r_incN K hl (k := 1) [_, _, _, _] dJ7_fill_53178_14 rfl (by decide) rfl (fun ls hl => ?_)
      refine r_go K 5 dJ7_fill_53178_17 (by decide) ?_
      refine ih (k + 1) _ (by omega) (fun t ht => ?_) _ _ h _ hl
      unfold upd
      split
      · rfl
      · exact hf t (by omega)
  exact loop n 0 f (by omega) (fun t ht => by omega) _ _ h _ hl

def bcI (x : Int32) : Int32 :=
  let sh := fun (y : Int32) (k : Int32) => (y.toUInt32 >>> (k.toUInt32 &&& Int32.toUInt32 31)).toInt32
  let a := x - (sh x (nI 1) &&& 1431655765)
  let b := (a &&& 858993459) + (sh a (nI 2) &&& 858993459)
  let c := (b + sh b (nI 4)) &&& 252645135
  let d := c + sh c (nI 8)
  let e := d + sh d (nI 16)
  e &&& nI 63
def bcN (x : Nat) : Nat := x % 2 + x / 2 % 2 + x / 4 % 2 + x / 8 % 2
theorem bc_16 : ∀ x, x < 16 → bcI (nI x) = nI (bcN x) := by decide +kernel
theorem bc_1 : ∀ x, x < 16 → (bcN x ≤ 1 ↔ Nat.land x (x - 1) = 0) := by decide +kernel

set_option maxHeartbeats 4000000 in
set_option maxRecDepth 100000 in
theorem c_bitCount (l : Launch) (g : GG) (x : Nat) (hx : x < 16) : Ct l g yJ6_bitCount_0f7a4 cJ6_bitCount_0f7a4 1 (some .int) 0 [.int (nI x)] [] (some (.int (nI (bcN x)))) [] := by
  refine Ct.start (by decide +kernel) (Nat.le_of_ble_eq_true rfl) (by simp [Value.category]) (Or.inr ⟨.int, _, rfl, rfl, rfl⟩) ?_
  intro p0 e R s m args below meth c A Q K hr h ls hl
  have hl : Lq ls 1 [some (.int (nI x))] := hl
  refine r_iln K hl 0 dJ6_bitCount_0f7a4_0 rfl rfl ?_
  refine r_iln K hl 0 dJ6_bitCount_0f7a4_1 rfl rfl ?_
  refine r_ic K (nI 1) dJ6_bitCount_0f7a4_2 k_1 ?_
  refine r_ushr K dJ6_bitCount_0f7a4_3 ?_
  refine r_ldcw K coJ6_265 dJ6_bitCount_0f7a4_4 ?_
  refine r_and K dJ6_bitCount_0f7a4_7 ?_
  refine r_sub K dJ6_bitCount_0f7a4_8 ?_
  refine r_isn K hl 0 [_] dJ6_bitCount_0f7a4_9 rfl (by decide) rfl (fun ls hl => ?_)
  refine r_iln K hl 0 dJ6_bitCount_0f7a4_10 rfl rfl ?_
  refine r_ldcw K coJ6_266 dJ6_bitCount_0f7a4_11 ?_
  refine r_and K dJ6_bitCount_0f7a4_14 ?_
  refine r_iln K hl 0 dJ6_bitCount_0f7a4_15 rfl rfl ?_
  refine r_ic K (nI 2) dJ6_bitCount_0f7a4_16 k_2 ?_
  refine r_ushr K dJ6_bitCount_0f7a4_17 ?_
  refine r_ldcw K coJ6_266 dJ6_bitCount_0f7a4_18 ?_
  refine r_and K dJ6_bitCount_0f7a4_21 ?_
  refine r_add K dJ6_bitCount_0f7a4_22 ?_
  refine r_isn K hl 0 [_] dJ6_bitCount_0f7a4_23 rfl (by decide) rfl (fun ls hl => ?_)
  refine r_iln K hl 0 dJ6_bitCount_0f7a4_24 rfl rfl ?_
  refine r_iln K hl 0 dJ6_bitCount_0f7a4_25 rfl rfl ?_
  refine r_ic K (nI 4) dJ6_bitCount_0f7a4_26 k_4 ?_
  refine r_ushr K dJ6_bitCount_0f7a4_27 ?_
  refine r_add K dJ6_bitCount_0f7a4_28 ?_
  refine r_ldcw K coJ6_267 dJ6_bitCount_0f7a4_29 ?_
  refine r_and K dJ6_bitCount_0f7a4_32 ?_
  refine r_isn K hl 0 [_] dJ6_bitCount_0f7a4_33 rfl (by decide) rfl (fun ls hl => ?_)
  refine r_iln K hl 0 dJ6_bitCount_0f7a4_34 rfl rfl ?_
  refine r_iln K hl 0 dJ6_bitCount_0f7a4_35 rfl rfl ?_
  refine r_bp K (nI 8) dJ6_bitCount_0f7a4_36 kb_8 ?_
  refine r_ushr K dJ6_bitCount_0f7a4_38 ?_
  refine r_add K dJ6_bitCount_0f7a4_39 ?_
  refine r_isn K hl 0 [_] dJ6_bitCount_0f7a4_40 rfl (by decide) rfl (fun ls hl => ?_)
  refine r_iln K hl 0 dJ6_bitCount_0f7a4_41 rfl rfl ?_
  refine r_iln K hl 0 dJ6_bitCount_0f7a4_42 rfl rfl ?_
  refine r_bp K (nI 16) dJ6_bitCount_0f7a4_43 kb_16 ?_
  refine r_ushr K dJ6_bitCount_0f7a4_45 ?_
  refine r_add K dJ6_bitCount_0f7a4_46 ?_
  refine r_isn K hl 0 [_] dJ6_bitCount_0f7a4_47 rfl (by decide) rfl (fun ls hl => ?_)
  refine r_iln K hl 0 dJ6_bitCount_0f7a4_48 rfl rfl ?_
  refine r_bp K (nI 63) dJ6_bitCount_0f7a4_49 kb_63 ?_
  refine r_and K dJ6_bitCount_0f7a4_51 ?_
  exact hr.1 _ _ _ _ _ dJ6_bitCount_0f7a4_52 h (congrArg (fun z => some (Value.int z)) (bc_16 x hx).symm)

set_option maxHeartbeats 4000000 in
set_option maxRecDepth 100000 in
theorem c_X2_clear (l : Launch) (g : GG) (x0 x1 x2 x3 : Nat) (f1 f2 f3 : Row) : Ct l g yX2_clear cX2_clear 1 none 1 [.ref x0] [oCells x0 x1 x2 x3, aI g x1 4 f1, aI g x2 4 f2, aI g x3 16 f3] none [oCells x0 x1 x2 x3, aI g x1 4 z0, aI g x2 4 z0, aI g x3 16 z0] := by
  refine Ct.start (by decide +kernel) (Nat.le_of_ble_eq_true rfl) (by simp [Value.category]) (Or.inl ⟨rfl, rfl⟩) ?_
  intro p0 e R s m args below meth c A Q K hr h ls hl
  have hl : Lq ls 1 [some (.ref x0)] := hl
  refine r_aln K hl 0 dX2_clear_0 rfl rfl ?_
  refine r_get K h ffX2_9 0 rfl rfl dX2_clear_1 ?_
  refine r_ic K (nI 0) dX2_clear_4 k_0 ?_
  refine r_callS K h hl (c_fill l g x1 4 f1 (nI 0) (by decide)) mc_J7_fill_53178 st_J7_fill_53178 mlX2_21 [1] rfl rfl rfl [_, _, _, _] rfl (by decide) (by decide) rfl rfl (Nat.le_of_ble_eq_true rfl) ⟨Nat.zero_le _, Nat.zero_le _⟩ dX2_clear_5 (fun H locs h => ?_)
  refine W.eq (g2 := F0 m 8 ls []) rfl ?_
  refine r_aln K hl 0 dX2_clear_8 rfl rfl ?_
  refine r_get K h ffX2_15 0 rfl rfl dX2_clear_9 ?_
  refine r_ic K (nI 0) dX2_clear_12 k_0 ?_
  refine r_callS K h hl (c_fill l g x2 4 f2 (nI 0) (by decide)) mc_J7_fill_53178 st_J7_fill_53178 mlX2_21 [2] rfl rfl rfl [_, _, _, _] rfl (by decide) (by decide) rfl rfl (Nat.le_of_ble_eq_true rfl) ⟨Nat.zero_le _, Nat.zero_le _⟩ dX2_clear_13 (fun H locs h => ?_)
  refine W.eq (g2 := F0 m 16 ls []) rfl ?_
  refine r_aln K hl 0 dX2_clear_16 rfl rfl ?_
  refine r_get K h ffX2_18 0 rfl rfl dX2_clear_17 ?_
  refine r_ic K (nI 0) dX2_clear_20 k_0 ?_
  refine r_callS K h hl (c_fill l g x3 16 f3 (nI 0) (by decide)) mc_J7_fill_53178 st_J7_fill_53178 mlX2_21 [3] rfl rfl rfl [_, _, _, _] rfl (by decide) (by decide) rfl rfl (Nat.le_of_ble_eq_true rfl) ⟨Nat.zero_le _, Nat.zero_le _⟩ dX2_clear_21 (fun H locs h => ?_)
  refine W.eq (g2 := F0 m 24 ls []) rfl ?_
  exact hr.2 _ _ _ _ dX2_clear_24 h rfl

set_option maxHeartbeats 4000000 in
set_option maxRecDepth 100000 in
theorem c_X2_copyFrom (l : Launch) (g : GG) (x0 x1 x2 x3 y0 y1 y2 y3 : Nat) (f1 f2 f3 h1 h2 h3 : Row) : Ct l g yX2_copyFrom cX2_copyFrom 2 none 2 [.ref x0, .ref y0] [oCells x0 x1 x2 x3, aI g x1 4 f1, aI g x2 4 f2, aI g x3 16 f3, oCells y0 y1 y2 y3, aI g y1 4 h1, aI g y2 4 h2, aI g y3 16 h3] none [oCells x0 x1 x2 x3, aI g x1 4 h1, aI g x2 4 h2, aI g x3 16 h3, oCells y0 y1 y2 y3, aI g y1 4 h1, aI g y2 4 h2, aI g y3 16 h3] := by
  refine Ct.start (by decide +kernel) (Nat.le_of_ble_eq_true rfl) (by simp [Value.category]) (Or.inl ⟨rfl, rfl⟩) ?_
  intro p0 e R s m args below meth c A Q K hr h ls hl
  have hl : Lq ls 2 [some (.ref x0), some (.ref y0)] := hl
  refine r_aln K hl 1 dX2_copyFrom_0 rfl rfl ?_
  refine r_get K h ffX2_9 4 rfl rfl dX2_copyFrom_1 ?_
  refine r_aln K hl 0 dX2_copyFrom_4 rfl rfl ?_
  refine r_get K h ffX2_9 0 rfl rfl dX2_copyFrom_5 ?_
  refine r_callSN K h hl (c_X5_copyAll l g y1 x1 4 h1 f1 (by decide)) mc_X5_copyAll st_X5_copyAll nnX2_27 [5, 1] rfl rfl rfl [_, _, _, _, _, _, _, _] rfl (by decide) (by decide) rfl rfl (Nat.le_of_ble_eq_true rfl) ⟨Nat.zero_le _, Nat.zero_le _⟩ dX2_copyFrom_8 (fun H locs h => ?_)
  refine W.eq (g2 := F0 m 11 ls []) rfl ?_
  refine r_aln K hl 1 dX2_copyFrom_11 rfl rfl ?_
  refine r_get K h ffX2_15 4 rfl rfl dX2_copyFrom_12 ?_
  refine r_aln K hl 0 dX2_copyFrom_15 rfl rfl ?_
  refine r_get K h ffX2_15 0 rfl rfl dX2_copyFrom_16 ?_
  refine r_callSN K h hl (c_X5_copyAll l g y2 x2 4 h2 f2 (by decide)) mc_X5_copyAll st_X5_copyAll nnX2_27 [6, 2] rfl rfl rfl [_, _, _, _, _, _, _, _] rfl (by decide) (by decide) rfl rfl (Nat.le_of_ble_eq_true rfl) ⟨Nat.zero_le _, Nat.zero_le _⟩ dX2_copyFrom_19 (fun H locs h => ?_)
  refine W.eq (g2 := F0 m 22 ls []) rfl ?_
  refine r_aln K hl 1 dX2_copyFrom_22 rfl rfl ?_
  refine r_get K h ffX2_18 4 rfl rfl dX2_copyFrom_23 ?_
  refine r_aln K hl 0 dX2_copyFrom_26 rfl rfl ?_
  refine r_get K h ffX2_18 0 rfl rfl dX2_copyFrom_27 ?_
  refine r_callSN K h hl (c_X5_copyAll l g y3 x3 16 h3 f3 (by decide)) mc_X5_copyAll st_X5_copyAll nnX2_27 [7, 3] rfl rfl rfl [_, _, _, _, _, _, _, _] rfl (by decide) (by decide) rfl rfl (Nat.le_of_ble_eq_true rfl) ⟨Nat.zero_le _, Nat.zero_le _⟩ dX2_copyFrom_30 (fun H locs h => ?_)
  refine W.eq (g2 := F0 m 33 ls []) rfl ?_
  exact hr.2 _ _ _ _ dX2_copyFrom_33 h rfl

set_option maxHeartbeats 4000000 in
set_option maxRecDepth 100000 in
theorem c_X2_copyOne (l : Launch) (g : GG) (x0 x1 x2 x3 y0 y1 y2 y3 : Nat) (f1 f2 f3 h1 h2 h3 : Row) (q : Nat) (hq : q < 4) : Ct l g yX2_copyOne cX2_copyOne 3 none 1 [.ref x0, .ref y0, .int (nI q)] [oCells x0 x1 x2 x3, aI g x1 4 f1, aI g x2 4 f2, aI g x3 16 f3, oCells y0 y1 y2 y3, aI g y1 4 h1, aI g y2 4 h2, aI g y3 16 h3] none [oCells x0 x1 x2 x3, aI g x1 4 (upd f1 q (h1 q)), aI g x2 4 (upd f2 q (h2 q)), aI g x3 16 (va_cpy h3 f3 (q * 4) (q * 4) 4), oCells y0 y1 y2 y3, aI g y1 4 h1, aI g y2 4 h2, aI g y3 16 h3] := by
  refine Ct.start (by decide +kernel) (Nat.le_of_ble_eq_true rfl) (by simp [Value.category]) (Or.inl ⟨rfl, rfl⟩) ?_
  intro p0 e R s m args below meth c A Q K hr h ls hl
  have hl : Lq ls 3 [some (.ref x0), some (.ref y0), some (.int (nI q))] := hl
  refine r_aln K hl 0 dX2_copyOne_0 rfl rfl ?_
  refine r_get K h ffX2_9 0 rfl rfl dX2_copyOne_1 ?_
  refine r_iln K hl 2 dX2_copyOne_4 rfl rfl ?_
  refine r_aln K hl 1 dX2_copyOne_5 rfl rfl ?_
  refine r_get K h ffX2_9 4 rfl rfl dX2_copyOne_6 ?_
  refine r_iln K hl 2 dX2_copyOne_9 rfl rfl ?_
  refine r_ial K h 5 rfl (by omega) (by decide) dX2_copyOne_10 ?_
  refine r_ias K h 1 [_, _, _, _, _, _, _, _] rfl (by omega) (by decide) rfl dX2_copyOne_11 (fun H locs h => ?_)
  refine r_aln K hl 0 dX2_copyOne_12 rfl rfl ?_
  refine r_get K h ffX2_15 0 rfl rfl dX2_copyOne_13 ?_
  refine r_iln K hl 2 dX2_copyOne_16 rfl rfl ?_
  refine r_aln K hl 1 dX2_copyOne_17 rfl rfl ?_
  refine r_get K h ffX2_15 4 rfl rfl dX2_copyOne_18 ?_
  refine r_iln K hl 2 dX2_copyOne_21 rfl rfl ?_
  refine r_ial K h 6 rfl (by omega) (by decide) dX2_copyOne_22 ?_
  refine r_ias K h 2 [_, _, _, _, _, _, _, _] rfl (by omega) (by decide) rfl dX2_copyOne_23 (fun H locs h => ?_)
  refine r_aln K hl 1 dX2_copyOne_24 rfl rfl ?_
  refine r_get K h ffX2_18 4 rfl rfl dX2_copyOne_25 ?_
  refine r_iln K hl 2 dX2_copyOne_28 rfl rfl ?_
  refine r_ic K (nI 4) dX2_copyOne_29 k_4 ?_
  refine r_mulN K dX2_copyOne_30 ?_
  refine r_aln K hl 0 dX2_copyOne_31 rfl rfl ?_
  refine r_get K h ffX2_18 0 rfl rfl dX2_copyOne_32 ?_
  refine r_iln K hl 2 dX2_copyOne_35 rfl rfl ?_
  refine r_ic K (nI 4) dX2_copyOne_36 k_4 ?_
  refine r_mulN K dX2_copyOne_37 ?_
  refine r_ic K (nI 4) dX2_copyOne_38 k_4 ?_
  refine r_cpy K h hl 7 3 (va_cpy h3 f3 (q * 4) (q * 4) 4) [_, _, _, _, _, _, _, _] mlX2_31 rfl rfl (by omega) (by omega) ⟨by decide, by decide⟩ (fun j hj => rfl) rfl (by decide) (Nat.le_of_ble_eq_true rfl) dX2_copyOne_39 (fun H locs h => ?_)
  exact hr.2 _ _ _ _ dX2_copyOne_42 h rfl

set_option maxHeartbeats 4000000 in
set_option maxRecDepth 100000 in
theorem c_X0_become (l : Launch) (g : GG) (b : Nat → Nat) (k ph mv ah rv rs rw : Row) (kind v t : Int32) : Ct l g yX0_become cX0_become 4 none 2 [.ref (b 0), .int kind, .int v, .int t] (actW g b (k) (ph) (mv) (ah) (rv) (rs) (rw)) none (actW g b (kB kind v t) (z0) (z0) (z0) (z0) (z0) (z0)) := by
  refine Ct.start (by decide +kernel) (Nat.le_of_ble_eq_true rfl) (by simp [Value.category]) (Or.inl ⟨rfl, rfl⟩) ?_
  intro p0 e R s m args below meth c A Q K hr h ls hl
  have hl : Lq ls 4 [some (.ref (b 0)), some (.int kind), some (.int v), some (.int t)] := hl
  refine r_aln K hl 0 dX0_become_0 rfl rfl ?_
  refine r_iln K hl 1 dX0_become_1 rfl rfl ?_
  refine r_put K h ffX0_28 pfX0_0 0 [_, _, _, _, _, _, _, _, _, _, _, _] [_, _, _, _, _, _, _, _] rfl rfl rfl (Nat.le_of_ble_eq_true rfl) rfl rfl dX0_become_2 (fun H locs h => ?_)
  refine r_aln K hl 0 dX0_become_5 rfl rfl ?_
  refine r_iln K hl 2 dX0_become_6 rfl rfl ?_
  refine r_put K h ffX0_32 pfX0_1 0 [_, _, _, _, _, _, _, _, _, _, _, _] [_, _, _, _, _, _, _, _] rfl rfl rfl (Nat.le_of_ble_eq_true rfl) rfl rfl dX0_become_7 (fun H locs h => ?_)
  refine r_aln K hl 0 dX0_become_10 rfl rfl ?_
  refine r_iln K hl 3 dX0_become_11 rfl rfl ?_
  refine r_put K h ffX0_35 pfX0_2 0 [_, _, _, _, _, _, _, _, _, _, _, _] [_, _, _, _, _, _, _, _] rfl rfl rfl (Nat.le_of_ble_eq_true rfl) rfl rfl dX0_become_12 (fun H locs h => ?_)
  refine r_aln K hl 0 dX0_become_15 rfl rfl ?_
  refine r_ic K (nI 0) dX0_become_16 k_0 ?_
  refine r_put K h ffX0_38 pfX0_3 0 [_, _, _, _, _, _, _, _, _, _, _, _] [_, _, _, _, _, _, _, _] rfl rfl rfl (Nat.le_of_ble_eq_true rfl) rfl rfl dX0_become_17 (fun H locs h => ?_)
  refine r_aln K hl 0 dX0_become_20 rfl rfl ?_
  refine r_ic K (nI 0) dX0_become_21 k_0 ?_
  refine r_put K h ffX0_41 pfX0_4 0 [_, _, _, _, _, _, _, _, _, _, _, _] [_, _, _, _, _, _, _, _] rfl rfl rfl (Nat.le_of_ble_eq_true rfl) rfl rfl dX0_become_22 (fun H locs h => ?_)
  refine r_aln K hl 0 dX0_become_25 rfl rfl ?_
  refine r_ic K (nI 0) dX0_become_26 k_0 ?_
  refine r_put K h ffX0_44 pfX0_5 0 [_, _, _, _, _, _, _, _, _, _, _, _] [_, _, _, _, _, _, _, _] rfl rfl rfl (Nat.le_of_ble_eq_true rfl) rfl rfl dX0_become_27 (fun H locs h => ?_)
  refine r_aln K hl 0 dX0_become_30 rfl rfl ?_
  refine r_ic K (nI 0) dX0_become_31 k_0 ?_
  refine r_put K h ffX0_47 pfX0_6 0 [_, _, _, _, _, _, _, _, _, _, _, _] [_, _, _, _, _, _, _, _] rfl rfl rfl (Nat.le_of_ble_eq_true rfl) rfl rfl dX0_become_32 (fun H locs h => ?_)
  refine r_aln K hl 0 dX0_become_35 rfl rfl ?_
  refine r_bp K (-9) dX0_become_36 kb_m9 ?_
  refine r_put K h ffX0_51 pfX0_7 0 [_, _, _, _, _, _, _, _, _, _, _, _] [_, _, _, _, _, _, _, _] rfl rfl rfl (Nat.le_of_ble_eq_true rfl) rfl rfl dX0_become_38 (fun H locs h => ?_)
  refine r_aln K hl 0 dX0_become_41 rfl rfl ?_
  refine r_get K h ffX0_9 0 rfl rfl dX0_become_42 ?_
  refine r_ic K (nI 0) dX0_become_45 k_0 ?_
  refine r_callS K h hl (c_fill l g (b 1) 4 ph (nI 0) (by decide)) mc_J7_fill_53178 st_J7_fill_53178 mlX0_54 [1] rfl rfl rfl [_, _, _, _, _, _, _, _] rfl (by decide) (by decide) rfl rfl (Nat.le_of_ble_eq_true rfl) ⟨Nat.zero_le _, Nat.zero_le _⟩ dX0_become_46 (fun H locs h => ?_)
  refine W.eq (g2 := F0 m 49 ls []) rfl ?_
  refine r_aln K hl 0 dX0_become_49 rfl rfl ?_
  refine r_get K h ffX0_15 0 rfl rfl dX0_become_50 ?_
  refine r_ic K (nI 0) dX0_become_53 k_0 ?_
  refine r_callS K h hl (c_fill l g (b 2) 4 mv (nI 0) (by decide)) mc_J7_fill_53178 st_J7_fill_53178 mlX0_54 [2] rfl rfl rfl [_, _, _, _, _, _, _, _] rfl (by decide) (by decide) rfl rfl (Nat.le_of_ble_eq_true rfl) ⟨Nat.zero_le _, Nat.zero_le _⟩ dX0_become_54 (fun H locs h => ?_)
  refine W.eq (g2 := F0 m 57 ls []) rfl ?_
  refine r_aln K hl 0 dX0_become_57 rfl rfl ?_
  refine r_get K h ffX0_18 0 rfl rfl dX0_become_58 ?_
  refine r_ic K (nI 0) dX0_become_61 k_0 ?_
  refine r_callS K h hl (c_fill l g (b 3) 4 ah (nI 0) (by decide)) mc_J7_fill_53178 st_J7_fill_53178 mlX0_54 [3] rfl rfl rfl [_, _, _, _, _, _, _, _] rfl (by decide) (by decide) rfl rfl (Nat.le_of_ble_eq_true rfl) ⟨Nat.zero_le _, Nat.zero_le _⟩ dX0_become_62 (fun H locs h => ?_)
  refine W.eq (g2 := F0 m 65 ls []) rfl ?_
  refine r_aln K hl 0 dX0_become_65 rfl rfl ?_
  refine r_get K h ffX0_24 0 rfl rfl dX0_become_66 ?_
  refine r_callV K h hl (c_X2_clear l g (b 4) (b 5) (b 6) (b 7) rv rs rw) mc_X2_clear vm_X2_clear mlX0_60 4 rfl rfl rfl [4, 5, 6, 7] rfl rfl rfl [_, _, _, _, _, _, _, _] rfl (by decide) (by decide) rfl rfl (Nat.le_of_ble_eq_true rfl) ⟨Nat.zero_le _, Nat.zero_le _⟩ dX0_become_69 (fun H locs h => ?_)
  refine W.eq (g2 := F0 m 72 ls []) rfl ?_
  exact hr.2 _ _ _ _ dX0_become_72 h rfl

set_option maxHeartbeats 4000000 in
set_option maxRecDepth 100000 in
theorem c_X0_isReading (l : Launch) (g : GG) (b : Nat → Nat) (k : Row) : Ct l g yX0_isReading cX0_isReading 1 (some .boolean) 0 [.ref (b 0)] [oAct b k] (some (.int (bI (decide (¬ k 0 = 0) && decide (k 6 = 0))))) [oAct b k] := by
  refine Ct.start (by decide +kernel) (Nat.le_of_ble_eq_true rfl) (by simp [Value.category]) (Or.inr ⟨.boolean, _, rfl, rfl, narB _⟩) ?_
  intro p0 e R s m args below meth c A Q K hr h ls hl
  have hl : Lq ls 1 [some (.ref (b 0))] := hl
  refine r_aln K hl 0 dX0_isReading_0 rfl rfl ?_
  refine r_get K h ffX0_28 0 rfl rfl dX0_isReading_1 ?_
  refine r_zeq K 18 dX0_isReading_4 (by decide) (fun c4 => ?_) (fun c4 => ?_)
  · refine r_ic K (nI 0) dX0_isReading_18 k_0 ?_
    exact hr.1 _ _ _ _ _ dX0_isReading_19 h (by rw [decide_eq_false (fun q => q c4)]; rfl)
  · refine r_aln K hl 0 dX0_isReading_7 rfl rfl ?_
    refine r_get K h ffX0_47 0 rfl rfl dX0_isReading_8 ?_
    refine r_zne K 18 dX0_isReading_11 (by decide) (fun c11 => ?_) (fun c11 => ?_)
    · refine r_ic K (nI 0) dX0_isReading_18 k_0 ?_
      exact hr.1 _ _ _ _ _ dX0_isReading_19 h (by rw [decide_eq_false c11, Bool.and_false]; rfl)
    · refine r_ic K (nI 1) dX0_isReading_14 k_1 ?_
      refine r_go K 19 dX0_isReading_15 (by decide) ?_
      exact hr.1 _ _ _ _ _ dX0_isReading_19 h (by rw [decide_eq_true c4, decide_eq_true c11]; rfl)
