theorem cnt_o {f : Row} {p k j : Nat} (h : j < 32 + 42 * p + 6 ∨ 32 + 42 * p + 10 + k ≤ j) (hk : k ≤ 4) : mCnt f p k j = f j := by
  unfold mCnt; rw [if_neg (by omega), if_neg (fun h => by omega)]
theorem cnt_a {f : Row} {p k c : Nat} (h : k ≤ c) (hk : c < 4) : mCnt f p k (32 + 42 * p + 10 + c) = f (32 + 42 * p + 10 + c) := by
  unfold mCnt; rw [if_neg (by omega), if_neg (fun h => by omega)]
theorem cnt_m {f : Row} {p k c : Nat} (h : k ≤ c) (hk : c < 4) : mCnt f p k (32 + 42 * p + 6 + c) = f (32 + 42 * p + 6 + c) := by
  unfold mCnt; rw [if_neg (by omega), if_neg (fun h => by omega)]
theorem cnt_0 {f : Row} {p : Nat} : mCnt f p 0 = f := by
  funext j; unfold mCnt; rw [if_neg (by omega), if_neg (fun h => by omega)]
theorem cnt_st {f : Row} {p k : Nat} (hk : k < 4) (h : mMv f p k = true) : upd (upd (mCnt f p k) (32 + 42 * p + 6 + k) (f (32 + 42 * p + 6 + k) + nI 1)) (32 + 42 * p + 10 + k) (f (32 + 42 * p + 14 + 6 * k + 1)) = mCnt f p (k + 1) := by
  funext j
  unfold upd mCnt
  by_cases h1 : j = 32 + 42 * p + 10 + k
  · subst h1; rw [if_pos rfl, if_pos (by omega)]; congr 1; omega
  · rw [if_neg h1]
    by_cases h2 : j = 32 + 42 * p + 6 + k
    · subst h2; rw [if_pos rfl, if_neg (by omega), if_pos ⟨by omega, by omega, by rw [show 32 + 42 * p + 6 + k - (32 + 42 * p + 6) = k by omega]; exact h⟩]
    · rw [if_neg h2]
      by_cases h3 : 32 + 42 * p + 10 ≤ j ∧ j < 32 + 42 * p + 10 + k
      · rw [if_pos h3, if_pos (by omega)]
      · rw [if_neg h3, if_neg (show ¬ (32 + 42 * p + 10 ≤ j ∧ j < 32 + 42 * p + 10 + (k + 1)) by omega)]
        by_cases h4 : 32 + 42 * p + 6 ≤ j ∧ j < 32 + 42 * p + 6 + k ∧ mMv f p (j - (32 + 42 * p + 6)) = true
        · rw [if_pos h4, if_pos ⟨h4.1, by omega, h4.2.2⟩]
        · rw [if_neg h4, if_neg (fun h5 => h4 ⟨h5.1, by omega, h5.2.2⟩)]
theorem cnt_sf {f : Row} {p k : Nat} (hk : k < 4) (h : mMv f p k = false) : upd (mCnt f p k) (32 + 42 * p + 10 + k) (f (32 + 42 * p + 14 + 6 * k + 1)) = mCnt f p (k + 1) := by
  funext j
  unfold upd mCnt
  by_cases h1 : j = 32 + 42 * p + 10 + k
  · subst h1; rw [if_pos rfl, if_pos (by omega)]; congr 1; omega
  · rw [if_neg h1]
    by_cases h3 : 32 + 42 * p + 10 ≤ j ∧ j < 32 + 42 * p + 10 + k
    · rw [if_pos h3, if_pos (by omega)]
    · rw [if_neg h3, if_neg (show ¬ (32 + 42 * p + 10 ≤ j ∧ j < 32 + 42 * p + 10 + (k + 1)) by omega)]
      by_cases h4 : 32 + 42 * p + 6 ≤ j ∧ j < 32 + 42 * p + 6 + k ∧ mMv f p (j - (32 + 42 * p + 6)) = true
      · rw [if_pos h4, if_pos ⟨h4.1, by omega, h4.2.2⟩]
      · rw [if_neg h4, if_neg]
        intro h5
        refine h4 ⟨h5.1, ?_, h5.2.2⟩
        by_cases h6 : j = 32 + 42 * p + 6 + k
        · subst h6
          have h7 := h5.2.2
          rw [show 32 + 42 * p + 6 + k - (32 + 42 * p + 6) = k by omega, h] at h7
          exact absurd h7 (by decide)
        · omega

set_option maxHeartbeats 4000000 in
set_option maxRecDepth 100000 in
theorem c_X6_counts (l : Launch) (g : GG) (a : Nat) (f : Row) (p n : Nat) (hp : p < 4) (hn : n ≤ 4) (h0 : f 0 = nI n) : Ct l g yX6_counts cX6_counts 6 (some .boolean) 1 [.ref a, .int (nI p)] [aI g a 512 f] (some (.int (bI (anyMv f p n)))) [aI g a 512 (mCnt f p n)] := by
  refine Ct.start (by decide +kernel) (Nat.le_of_ble_eq_true rfl) (by simp [Value.category]) (Or.inr ⟨.boolean, _, rfl, rfl, narB _⟩) ?_
  intro p0 e R s m args below meth c A Q K hr h ls hl
  have hl : Lq ls 6 [some (.ref a), some (.int (nI p)), none, none, none, none] := hl
  refine r_iln K hl 1 dX6_counts_0 rfl rfl ?_
  refine r_callS K h hl (c_X6_writerAt l g p) mc_X6_writerAt st_X6_writerAt mlX6_40 [] rfl rfl rfl [_] rfl (by decide) (by decide) rfl rfl (Nat.le_of_ble_eq_true rfl) ⟨Nat.zero_le _, Nat.zero_le _⟩ dX6_counts_1 (fun H locs h => ?_)
  refine W.eq (g2 := F0 m 4 ls [_]) rfl ?_
  refine r_isn K hl 2 [_, _, _, _, _, _] dX6_counts_4 rfl (by decide) rfl (fun ls hl => ?_)
  refine r_ic K (nI 0) dX6_counts_5 k_0 ?_
  refine r_isn K hl 3 [_, _, _, _, _, _] dX6_counts_6 rfl (by decide) rfl (fun ls hl => ?_)
  refine r_ic K (nI 0) dX6_counts_7 k_0 ?_
  refine r_is K hl 4 [_, _, _, _, _, _] dX6_counts_8 (by decide) rfl (fun ls hl => ?_)
  have loop : ∀ (j k : Nat) (x : Option Value), k + j = n → ∀ (H : Heap) (locs : List Loc), Hp g A s H locs [aI g a 512 (mCnt f p k)] → ∀ ls, Lq ls 6 [some (.ref a), some (.int (nI p)), some (.int (nI (32 + 42 * p))), some (.int (bI (anyMv f p k))), some (.int (nI k)), x] → W p0 l e R s m args below meth c H locs 0 0 Q (F0 m 10 ls []) := by
    intro j
    induction j with
    | zero =>
      intro k x hk H locs h ls hl
      obtain rfl : k = n := by omega
      refine r_il K hl 4 dX6_counts_10 rfl ?_
      refine r_aln K hl 0 dX6_counts_12 rfl rfl ?_
      refine r_ic K (nI 0) dX6_counts_13 k_0 ?_
      refine r_ialE K h 0 rfl (by omega) (by decide) ((cnt_o (by omega) (by omega)).trans h0) dX6_counts_14 ?_
      refine r_cgeN K 89 dX6_counts_15 (by decide) (by omega) (by omega) (fun c15 => ?_) (fun c => absurd c (by omega))
      refine r_iln K hl 3 dX6_counts_89 rfl rfl ?_
      exact hr.1 _ _ _ _ _ dX6_counts_90 h rfl
    | succ j ih =>
      intro k x hk H locs h ls hl
      refine r_il K hl 4 dX6_counts_10 rfl ?_
      refine r_aln K hl 0 dX6_counts_12 rfl rfl ?_
      refine r_ic K (nI 0) dX6_counts_13 k_0 ?_
      refine r_ialE K h 0 rfl (by omega) (by decide) ((cnt_o (by omega) (by omega)).trans h0) dX6_counts_14 ?_
      refine r_cgeN K 89 dX6_counts_15 (by decide) (by omega) (by omega) (fun c => absurd c (by omega)) (fun c15 => ?_)
      refine r_aln K hl 0 dX6_counts_18 rfl rfl ?_
      refine r_iln K hl 2 dX6_counts_19 rfl rfl ?_
      refine r_bp K (nI 14) dX6_counts_20 kb_14 ?_
      refine r_addN K dX6_counts_22 ?_
      refine r_bp K (nI 6) dX6_counts_23 kb_6 ?_
      refine r_il K hl 4 dX6_counts_25 rfl ?_
      refine r_mulN K dX6_counts_27 ?_
      refine r_addN K dX6_counts_28 ?_
      refine r_ic K (nI 1) dX6_counts_29 k_1 ?_
      refine r_addN K dX6_counts_30 ?_
      refine r_ialE K h 0 rfl (by omega) (by decide) (cnt_o (k := k) (j := 32 + 42 * p + 14 + 6 * k + 1) (by omega) (by omega)) dX6_counts_31 ?_
      refine r_is K hl 5 [_, _, _, _, _, _] dX6_counts_32 (by decide) rfl (fun ls hl => ?_)
      refine r_aln K hl 0 dX6_counts_34 rfl rfl ?_
      refine r_iln K hl 2 dX6_counts_35 rfl rfl ?_
      refine r_ic K (nI 4) dX6_counts_36 k_4 ?_
      refine r_addN K dX6_counts_37 ?_
      refine r_ialE K h 0 rfl (by omega) (by decide) (cnt_o (k := k) (j := 32 + 42 * p + 4) (by omega) (by omega)) dX6_counts_38 ?_
      refine r_ic K (nI 1) dX6_counts_39 k_1 ?_
      refine r_cle K 72 dX6_counts_40 (by decide) (fun c40 => ?_) (fun c40 => ?_)
      · refine r_aln K hl 0 dX6_counts_72 rfl rfl ?_
        refine r_iln K hl 2 dX6_counts_73 rfl rfl ?_
        refine r_bp K (nI 10) dX6_counts_74 kb_10 ?_
        refine r_addN K dX6_counts_76 ?_
        refine r_il K hl 4 dX6_counts_77 rfl ?_
        refine r_addN K dX6_counts_79 ?_
        refine r_il K hl 5 dX6_counts_80 rfl ?_
        refine r_ias K h 0 [_] rfl (by omega) (by decide) rfl dX6_counts_82 (fun H locs h => ?_)
        refine r_incN K hl (k := 1) [_, _, _, _, _, _] dX6_counts_83 rfl (by decide) rfl (fun ls hl => ?_)
        refine r_go K 10 dX6_counts_86 (by decide) ?_
        have hm : mMv f p k = false := by unfold mMv; rw [decide_eq_false (p := nI 1 < f (32 + 42 * p + 4)) (Int32.not_lt.mpr c40), Bool.false_and]
        rw [show anyMv f p k = anyMv f p (k + 1) by rw [anyMv, hm, Bool.or_false]] at hl
        exact ih (k + 1) _ (by omega) _ _ (h.to (by rw [cnt_sf (by omega) hm])) _ hl
      · refine r_il K hl 5 dX6_counts_43 rfl ?_
        refine r_aln K hl 0 dX6_counts_45 rfl rfl ?_
        refine r_iln K hl 2 dX6_counts_46 rfl rfl ?_
        refine r_bp K (nI 10) dX6_counts_47 kb_10 ?_
        refine r_addN K dX6_counts_49 ?_
        refine r_il K hl 4 dX6_counts_50 rfl ?_
        refine r_addN K dX6_counts_52 ?_
        refine r_ialE K h 0 rfl (by omega) (by decide) (cnt_a (Nat.le_refl k) (by omega)) dX6_counts_53 ?_
        refine r_ceq K 72 dX6_counts_54 (by decide) (fun c54 => ?_) (fun c54 => ?_)
        · refine r_aln K hl 0 dX6_counts_72 rfl rfl ?_
          refine r_iln K hl 2 dX6_counts_73 rfl rfl ?_
          refine r_bp K (nI 10) dX6_counts_74 kb_10 ?_
          refine r_addN K dX6_counts_76 ?_
          refine r_il K hl 4 dX6_counts_77 rfl ?_
          refine r_addN K dX6_counts_79 ?_
          refine r_il K hl 5 dX6_counts_80 rfl ?_
          refine r_ias K h 0 [_] rfl (by omega) (by decide) rfl dX6_counts_82 (fun H locs h => ?_)
          refine r_incN K hl (k := 1) [_, _, _, _, _, _] dX6_counts_83 rfl (by decide) rfl (fun ls hl => ?_)
          refine r_go K 10 dX6_counts_86 (by decide) ?_
          have hm : mMv f p k = false := by unfold mMv; rw [decide_eq_false (p := f (32 + 42 * p + 14 + 6 * k + 1) ≠ f (32 + 42 * p + 10 + k)) (fun q => q c54), Bool.and_false]
          rw [show anyMv f p k = anyMv f p (k + 1) by rw [anyMv, hm, Bool.or_false]] at hl
          exact ih (k + 1) _ (by omega) _ _ (h.to (by rw [cnt_sf (by omega) hm])) _ hl
        · refine r_aln K hl 0 dX6_counts_57 rfl rfl ?_
          refine r_iln K hl 2 dX6_counts_58 rfl rfl ?_
          refine r_bp K (nI 6) dX6_counts_59 kb_6 ?_
          refine r_addN K dX6_counts_61 ?_
          refine r_il K hl 4 dX6_counts_62 rfl ?_
          refine r_addN K dX6_counts_64 ?_
          refine r_dup2 K dX6_counts_65 rfl rfl ?_
          refine r_ialE K h 0 rfl (by omega) (by decide) (cnt_m (Nat.le_refl k) (by omega)) dX6_counts_66 ?_
          refine r_ic K (nI 1) dX6_counts_67 k_1 ?_
          refine r_add K dX6_counts_68 ?_
          refine r_ias K h 0 [_] rfl (by omega) (by decide) rfl dX6_counts_69 (fun H locs h => ?_)
          refine r_ic K (nI 1) dX6_counts_70 k_1 ?_
          refine r_isn K hl 3 [_, _, _, _, _, _] dX6_counts_71 rfl (by decide) rfl (fun ls hl => ?_)
          refine r_aln K hl 0 dX6_counts_72 rfl rfl ?_
          refine r_iln K hl 2 dX6_counts_73 rfl rfl ?_
          refine r_bp K (nI 10) dX6_counts_74 kb_10 ?_
          refine r_addN K dX6_counts_76 ?_
          refine r_il K hl 4 dX6_counts_77 rfl ?_
          refine r_addN K dX6_counts_79 ?_
          refine r_il K hl 5 dX6_counts_80 rfl ?_
          refine r_ias K h 0 [_] rfl (by omega) (by decide) rfl dX6_counts_82 (fun H locs h => ?_)
          refine r_incN K hl (k := 1) [_, _, _, _, _, _] dX6_counts_83 rfl (by decide) rfl (fun ls hl => ?_)
          refine r_go K 10 dX6_counts_86 (by decide) ?_
          have hm : mMv f p k = true := by unfold mMv; rw [decide_eq_true (Int32.not_le.mp c40), decide_eq_true c54]; rfl
          rw [show nI 1 = bI (anyMv f p (k + 1)) by rw [anyMv, hm, Bool.or_true]; rfl] at hl
          exact ih (k + 1) _ (by omega) _ _ (h.to (by rw [cnt_st (by omega) hm])) _ hl
  exact loop n 0 none (by omega) _ _ (h.to (by rw [cnt_0])) _ hl

theorem pk_sub_one {n : Nat} (h : 1 ≤ n) : nI (n - 1) = nI n - 1 := (pk_sub h).symm

set_option maxHeartbeats 4000000 in
set_option maxRecDepth 100000 in
theorem c_X6_lender (l : Launch) (g : GG) (a : Nat) (f : Row) (p n : Nat) (hp : p < 4) (hn1 : 1 ≤ n) (hn : n ≤ 4) (h0 : f 0 = nI n) : Ct l g yX6_lender cX6_lender 4 (some .int) 1 [.ref a, .int (nI p)] [aI g a 512 f] (some (.int (lentI (lendG f p 0 n)))) [aI g a 512 f] := by
  refine Ct.start (by decide +kernel) (Nat.le_of_ble_eq_true rfl) (by simp [Value.category]) (Or.inr ⟨.int, _, rfl, rfl, rfl⟩) ?_
  intro p0 e R s m args below meth c A Q K hr h ls hl
  have hl : Lq ls 4 [some (.ref a), some (.int (nI p)), none, none] := hl
  refine r_bp K (-9) dX6_lender_0 kb_m9 ?_
  refine r_isn K hl 2 [_, _, _, _] dX6_lender_2 rfl (by decide) rfl (fun ls hl => ?_)
  refine r_aln K hl 0 dX6_lender_3 rfl rfl ?_
  refine r_ic K (nI 0) dX6_lender_4 k_0 ?_
  refine r_ialE K h 0 rfl (by omega) (by decide) h0 dX6_lender_5 ?_
  refine r_ic K (nI 1) dX6_lender_6 k_1 ?_
  refine r_subN K (by omega) dX6_lender_7 ?_
  refine r_isn K hl 3 [_, _, _, _] dX6_lender_8 rfl (by decide) rfl (fun ls hl => ?_)
  have loop : ∀ (j : Nat) (v : Int32), v = nI j - 1 → j ≤ n → ∀ (H : Heap) (locs : List Loc), Hp g A s H locs [aI g a 512 f] → ∀ ls, Lq ls 4 [some (.ref a), some (.int (nI p)), some (.int (lentI (lendG f p j (n - j)))), some (.int v)] → W p0 l e R s m args below meth c H locs 0 0 Q (F0 m 9 ls []) := by
    intro j
    induction j with
    | zero =>
      intro v hv hj H locs h ls hl
      refine r_iln K hl 3 dX6_lender_9 rfl rfl ?_
      refine r_zlt K 42 dX6_lender_10 (by decide) (fun c10 => ?_) (fun c => absurd c (fun q => q (by rw [hv]; decide)))
      refine r_iln K hl 2 dX6_lender_42 rfl rfl ?_
      exact hr.1 _ _ _ _ _ dX6_lender_43 h rfl
    | succ j ih =>
      intro v hv hj H locs h ls hl
      obtain rfl : v = nI j := by rw [hv]; exact nI_pred j
      refine r_iln K hl 3 dX6_lender_9 rfl rfl ?_
      refine r_zlt K 42 dX6_lender_10 (by decide) (fun c => absurd c (nI_pos (by omega))) (fun c10 => ?_)
      refine r_aln K hl 0 dX6_lender_13 rfl rfl ?_
      refine r_iln K hl 1 dX6_lender_14 rfl rfl ?_
      refine r_callS K h hl (c_X6_writerAt l g p) mc_X6_writerAt st_X6_writerAt mlX6_40 [] rfl rfl rfl [_] rfl (by decide) (by decide) rfl rfl (Nat.le_of_ble_eq_true rfl) ⟨Nat.zero_le _, Nat.zero_le _⟩ dX6_lender_15 (fun H locs h => ?_)
      refine W.eq (g2 := F0 m 18 ls [_, _]) rfl ?_
      refine r_bp K (nI 6) dX6_lender_18 kb_6 ?_
      refine r_addN K dX6_lender_20 ?_
      refine r_iln K hl 3 dX6_lender_21 rfl rfl ?_
      refine r_addN K dX6_lender_22 ?_
      refine r_ial K h 0 rfl (by omega) (by decide) dX6_lender_23 ?_
      refine r_aln K hl 0 dX6_lender_24 rfl rfl ?_
      refine r_ic K (nI 1) dX6_lender_25 k_1 ?_
      refine r_ial K h 0 rfl (by omega) (by decide) dX6_lender_26 ?_
      refine r_clt K 34 dX6_lender_27 (by decide) (fun c27 => ?_) (fun c27 => ?_)
      · refine r_iln K hl 2 dX6_lender_34 rfl rfl ?_
        refine r_isn K hl 2 [_, _, _, _] dX6_lender_35 rfl (by decide) rfl (fun ls hl => ?_)
        refine r_inc K hl _ [_, _, _, _] dX6_lender_36 rfl rfl (by decide) rfl (fun ls hl => ?_)
        refine r_go K 9 dX6_lender_39 (by decide) ?_
        refine ih (nI j + Int32.ofInt (-1)) (by rw [Int32.sub_eq_add_neg]; rfl) (by omega) _ _ h _ ?_
        rw [show n - j = (n - (j + 1)) + 1 by omega, lendG, if_neg (Int32.not_le.mpr c27)]; exact hl
      · refine r_iln K hl 3 dX6_lender_30 rfl rfl ?_
        refine r_go K 35 dX6_lender_31 (by decide) ?_
        refine r_isn K hl 2 [_, _, _, _] dX6_lender_35 rfl (by decide) rfl (fun ls hl => ?_)
        refine r_inc K hl _ [_, _, _, _] dX6_lender_36 rfl rfl (by decide) rfl (fun ls hl => ?_)
        refine r_go K 9 dX6_lender_39 (by decide) ?_
        refine ih (nI j + Int32.ofInt (-1)) (by rw [Int32.sub_eq_add_neg]; rfl) (by omega) _ _ h _ ?_
        rw [show n - j = (n - (j + 1)) + 1 by omega, lendG, if_pos (Int32.not_lt.mp c27)]; exact hl
  refine loop n (nI (n - 1)) (pk_sub_one hn1) (Nat.le_refl n) _ _ h _ ?_
  rw [Nat.sub_self]; exact hl

theorem s2_0 {f : Row} {p j : Nat} (h : j ≠ 3) (h2 : j ≠ 32 + 42 * p + 2) : mS2 f p j = f j := by
  dsimp only [mS2]; rw [upd_ne h2, upd_ne h]
theorem s2_st {f : Row} {p st : Nat} (h : f (32 + 42 * p + 2) = nI st) : mS2 f p (32 + 42 * p + 2) = nI (st + 1) := by
  dsimp only [mS2]; rw [upd_self, upd_ne (by omega), h, nI_add]

set_option maxHeartbeats 4000000 in
set_option maxRecDepth 100000 in
theorem c_X6_step (l : Launch) (g : GG) (a : Nat) (f : Row) (p n ph wr st : Nat) (hp : p < 4) (hn2 : 2 ≤ n) (hn : n ≤ 4) (h0 : f 0 = nI n) (h5 : f 5 = nI ph) (hph : ph ≤ 24) (h6 : f 6 = nI wr) (hwr : wr ≤ 24) (hs : f (32 + 42 * p + 2) = nI st) (hst : st < 1000) : Ct l g yX6_step cX6_step 6 none 3 [.ref a, .int (nI p)] [aI g a 512 f] none [aI g a 512 (mStep f p)] := by
  refine Ct.start (by decide +kernel) (Nat.le_of_ble_eq_true rfl) (by simp [Value.category]) (Or.inl ⟨rfl, rfl⟩) ?_
  intro p0 e R s m args below meth c A Q K hr h ls hl
  have hl : Lq ls 6 [some (.ref a), some (.int (nI p)), none, none, none, none] := hl
  refine r_iln K hl 1 dX6_step_0 rfl rfl ?_
  refine r_callS K h hl (c_X6_writerAt l g p) mc_X6_writerAt st_X6_writerAt mlX6_40 [] rfl rfl rfl [_] rfl (by decide) (by decide) rfl rfl (Nat.le_of_ble_eq_true rfl) ⟨Nat.zero_le _, Nat.zero_le _⟩ dX6_step_1 (fun H locs h => ?_)
  refine W.eq (g2 := F0 m 4 ls [_]) rfl ?_
  refine r_isn K hl 2 [_, _, _, _, _, _] dX6_step_4 rfl (by decide) rfl (fun ls hl => ?_)
  refine r_aln K hl 0 dX6_step_5 rfl rfl ?_
  refine r_ic K (nI 3) dX6_step_6 k_3 ?_
  refine r_dup2 K dX6_step_7 rfl rfl ?_
  refine r_ial K h 0 rfl (by omega) (by decide) dX6_step_8 ?_
  refine r_ic K (nI 1) dX6_step_9 k_1 ?_
  refine r_add K dX6_step_10 ?_
  refine r_ias K h 0 [_] rfl (by omega) (by decide) rfl dX6_step_11 (fun H locs h => ?_)
  refine r_aln K hl 0 dX6_step_12 rfl rfl ?_
  refine r_iln K hl 2 dX6_step_13 rfl rfl ?_
  refine r_ic K (nI 2) dX6_step_14 k_2 ?_
  refine r_addN K dX6_step_15 ?_
  refine r_dup2 K dX6_step_16 rfl rfl ?_
  refine r_ial K h 0 rfl (by omega) (by decide) dX6_step_17 ?_
  refine r_ic K (nI 1) dX6_step_18 k_1 ?_
  refine r_add K dX6_step_19 ?_
  refine r_ias K h 0 [_] rfl (by omega) (by decide) rfl dX6_step_20 (fun H locs h => ?_)
  have hrn : rN f = n := by unfold rN; rw [h0]; exact nI_clamp (by omega)
  have hrs : rSt f p = st := by unfold rSt; rw [hs]; exact nI_clamp (by omega)
  have h := h.to (show _ = [aI g a 512 (mS2 f p)] from rfl)
  have s2_6 : mS2 f p 6 = nI wr := by rw [s2_0 (by omega) (by omega)]; exact h6
  have s2_5 : mS2 f p 5 = nI ph := by rw [s2_0 (by omega) (by omega)]; exact h5
  have s2_n : mS2 f p 0 = nI n := by rw [s2_0 (by omega) (by omega)]; exact h0
  have s2_t := s2_st hs
  have hmod : st % n < n := Nat.mod_lt _ (by omega)
  generalize hf2 : mS2 f p = f2 at h s2_6 s2_5 s2_n s2_t
  refine r_aln K hl 0 dX6_step_21 rfl rfl ?_
  refine r_iln K hl 2 dX6_step_22 rfl rfl ?_
  refine r_ic K (nI 5) dX6_step_23 k_5 ?_
  refine r_addN K dX6_step_24 ?_
  refine r_ial K h 0 rfl (by omega) (by decide) dX6_step_25 ?_
  refine r_ic K (nI 1) dX6_step_26 k_1 ?_
  refine r_cne K 36 dX6_step_27 (by decide) (fun c27 => ?_) (fun c27 => ?_)
  · refine r_aln K hl 0 dX6_step_36 rfl rfl ?_
    refine r_iln K hl 2 dX6_step_37 rfl rfl ?_
    refine r_ic K (nI 2) dX6_step_38 k_2 ?_
    refine r_addN K dX6_step_39 ?_
    refine r_ialE K h 0 rfl (by omega) (by decide) s2_t dX6_step_40 ?_
    refine r_ic K (nI 1) dX6_step_41 k_1 ?_
    refine r_subN K (by omega) dX6_step_42 ?_
    refine r_aln K hl 0 dX6_step_43 rfl rfl ?_
    refine r_ic K (nI 0) dX6_step_44 k_0 ?_
    refine r_ialE K h 0 rfl (by omega) (by decide) s2_n dX6_step_45 ?_
    refine r_remN K (by omega) (by omega) (by omega) dX6_step_46 ?_
    refine r_isn K hl 3 [_, _, _, _, _, _] dX6_step_47 rfl (by decide) rfl (fun ls hl => ?_)
    refine r_ic K (nI 0) dX6_step_48 k_0 ?_
    refine r_is K hl 4 [_, _, _, _, _, _] dX6_step_49 (by decide) rfl (fun ls hl => ?_)
    rw [show st + 1 - 1 = st by omega] at hl
    have loop : ∀ (j k : Nat), k + j = 6 → ∀ (H : Heap) (locs : List Loc), Hp g A s H locs [aI g a 512 (va_cpy f2 f2 (8 + 6 * (st % n)) (32 + 42 * p + 14 + 6 * (st % n)) k)] → ∀ ls, Lq ls 6 [some (.ref a), some (.int (nI p)), some (.int (nI (32 + 42 * p))), some (.int (nI (st % n))), some (.int (nI k)), none] → W p0 l e R s m args below meth c H locs 0 0 Q (F0 m 51 ls []) := by
      intro j
      induction j with
      | zero =>
        intro k hk H locs h ls hl
        refine r_il K hl 4 dX6_step_51 rfl ?_
        refine r_bp K (nI 6) dX6_step_53 kb_6 ?_
        refine r_cgeN K 87 dX6_step_55 (by decide) (by omega) (by omega) (fun c55 => ?_) (fun c => absurd c (by omega))
        obtain rfl : k = 6 := by omega
        have h := h.to (show _ = [aI g a 512 (mRead f2 p (st % n))] from rfl)
        have rd : ∀ j, (j < 32 + 42 * p + 14 + 6 * (st % n) ∨ 32 + 42 * p + 14 + 6 * (st % n) + 6 ≤ j) → mRead f2 p (st % n) j = f2 j := fun j h => cpy_o h
        have h30 := (rd 0 (by omega)).trans s2_n
        have h35 := (rd 5 (by omega)).trans s2_5
        generalize hf3 : mRead f2 p (st % n) = f3 at h h30 h35
        refine r_iln K hl 3 dX6_step_87 rfl rfl ?_
        refine r_aln K hl 0 dX6_step_88 rfl rfl ?_
        refine r_ic K (nI 0) dX6_step_89 k_0 ?_
        refine r_ialE K h 0 rfl (by omega) (by decide) h30 dX6_step_90 ?_
        refine r_ic K (nI 1) dX6_step_91 k_1 ?_
        refine r_subN K (by omega) dX6_step_92 ?_
        refine r_cgeN K 97 dX6_step_93 (by decide) (by omega) (by omega) (fun c93 => ?_) (fun c93 => ?_)
        · refine r_aln K hl 0 dX6_step_97 rfl rfl ?_
          refine r_iln K hl 2 dX6_step_98 rfl rfl ?_
          refine r_ic K (nI 4) dX6_step_99 k_4 ?_
          refine r_addN K dX6_step_100 ?_
          refine r_dup2 K dX6_step_101 rfl rfl ?_
          refine r_ial K h 0 rfl (by omega) (by decide) dX6_step_102 ?_
          refine r_ic K (nI 1) dX6_step_103 k_1 ?_
          refine r_add K dX6_step_104 ?_
          refine r_ias K h 0 [_] rfl (by omega) (by decide) rfl dX6_step_105 (fun H locs h => ?_)
          have hS : mStep f p = mWhole f3 p := by dsimp only [mStep]; rw [hf2, if_neg c27, hrn, hrs, if_neg (by omega), hf3]
          have hr3 : rN f3 = n := by unfold rN; rw [h30]; exact nI_clamp (by omega)
          generalize hf4 : upd f3 (32 + 42 * p + 4) (f3 (32 + 42 * p + 4) + nI 1) = f4 at h
          have h40 : f4 0 = nI n := by rw [← hf4, upd_ne (by omega)]; exact h30
          have h45 : f4 5 = nI ph := by rw [← hf4, upd_ne (by omega)]; exact h35
          refine r_aln K hl 0 dX6_step_106 rfl rfl ?_
          refine r_iln K hl 1 dX6_step_107 rfl rfl ?_
          refine r_callS K h hl (c_X6_counts l g a _ p n hp (by omega) h40) mc_X6_counts st_X6_counts mlX6_54 [0] rfl rfl rfl [_] rfl (by decide) (by decide) rfl rfl (Nat.le_of_ble_eq_true rfl) ⟨Nat.zero_le _, Nat.zero_le _⟩ dX6_step_108 (fun H locs h => ?_)
          refine W.eq (g2 := F0 m 111 ls [_]) rfl ?_
          refine r_is K hl 4 [_, _, _, _, _, _] dX6_step_111 (by decide) rfl (fun ls hl => ?_)
          have h50 := (cnt_o (f := f4) (p := p) (k := n) (j := 0) (by omega) (by omega)).trans h40
          have h55 := (cnt_o (f := f4) (p := p) (k := n) (j := 5) (by omega) (by omega)).trans h45
          generalize hf5 : mCnt f4 p n = f5 at h h50 h55
          have hr5 : rN f5 = n := by unfold rN; rw [h50]; exact nI_clamp (by omega)
          generalize his : anyMv f4 p n = is at hl
          have J : ∀ (H : Heap) (locs : List Loc), Hp g A s H locs [aI g a 512 f5] → ∀ q : Option Nat, q = (if is then mLend f5 p else none) → W p0 l e R s m args below meth c H locs 0 0 Q (F0 m 128 ls [.int (lentI q)]) := by
            intro H locs h q hq
            have hqn : ∀ x, q = some x → x < n := fun x hx => by
              rw [hx] at hq
              cases is with
              | false => exact absurd hq (by simp)
              | true => have := lendG_lt (rN f5) 0 x (by rw [if_pos rfl] at hq; exact hq.symm); omega
            have hW : mWhole f3 p = if f5 (32 + 42 * p + 4) = nI 1 ∨ (is = true ∧ q = none) then f5 else (if mTakes f5 p q (32 + 42 * p + 0) = nI 1 then mIdles (mTakes f5 p q) p else mTakes f5 p q) := by dsimp only [mWhole]; rw [hr3, hf4, hf5, his, ← hq]
            refine r_is K hl 5 [_, _, _, _, _, _] dX6_step_128 (by decide) rfl (fun ls hl => ?_)
            refine r_aln K hl 0 dX6_step_130 rfl rfl ?_
            refine r_iln K hl 2 dX6_step_131 rfl rfl ?_
            refine r_ic K (nI 4) dX6_step_132 k_4 ?_
            refine r_addN K dX6_step_133 ?_
            refine r_ial K h 0 rfl (by omega) (by decide) dX6_step_134 ?_
            refine r_ic K (nI 1) dX6_step_135 k_1 ?_
            refine r_ceq K 151 dX6_step_136 (by decide) (fun c136 => ?_) (fun c136 => ?_)
            · exact hr.2 _ _ _ _ dX6_step_151 (h.to (by rw [hS, hW, if_pos (Or.inl c136)])) rfl
            · refine r_il K hl 4 dX6_step_139 rfl ?_
              refine r_zeqB K 152 dX6_step_141 (by decide) (fun c141 => ?_) (fun c141 => ?_)
              · refine r_aln K hl 0 dX6_step_152 rfl rfl ?_
                refine r_iln K hl 1 dX6_step_153 rfl rfl ?_
                refine r_il K hl 5 dX6_step_154 rfl ?_
                refine r_callS K h hl (c_X6_takes l g a _ p n ph q hp (by omega) hqn h50 h55 hph) mc_X6_takes st_X6_takes mlX6_62 [0] rfl rfl rfl [_] rfl (by decide) (by decide) rfl rfl (Nat.le_of_ble_eq_true rfl) ⟨Nat.zero_le _, Nat.zero_le _⟩ dX6_step_156 (fun H locs h => ?_)
                refine W.eq (g2 := F0 m 159 ls []) rfl ?_
                refine r_aln K hl 0 dX6_step_159 rfl rfl ?_
                refine r_iln K hl 2 dX6_step_160 rfl rfl ?_
                refine r_ic K (nI 0) dX6_step_161 k_0 ?_
                refine r_addN K dX6_step_162 ?_
                refine r_ial K h 0 rfl (by omega) (by decide) dX6_step_163 ?_
                refine r_ic K (nI 1) dX6_step_164 k_1 ?_
                refine r_cne K 173 dX6_step_165 (by decide) (fun c165 => ?_) (fun c165 => ?_)
                · exact hr.2 _ _ _ _ dX6_step_173 (h.to (by rw [hS, hW, if_neg (fun h => h.elim c136 (fun h => by rw [c141] at h; cases h.1)), if_neg c165])) rfl
                · refine r_aln K hl 0 dX6_step_168 rfl rfl ?_
                  refine r_iln K hl 1 dX6_step_169 rfl rfl ?_
                  refine r_callS K h hl (c_X6_idles l g a _ p hp) mc_X6_idles st_X6_idles mlX6_44 [0] rfl rfl rfl [_] rfl (by decide) (by decide) rfl rfl (Nat.le_of_ble_eq_true rfl) ⟨Nat.zero_le _, Nat.zero_le _⟩ dX6_step_170 (fun H locs h => ?_)
                  refine W.eq (g2 := F0 m 173 ls []) rfl ?_
                  exact hr.2 _ _ _ _ dX6_step_173 (h.to (by rw [hS, hW, if_neg (fun h => h.elim c136 (fun h => by rw [c141] at h; cases h.1)), if_pos c165])) rfl
              · refine r_il K hl 5 dX6_step_144 rfl ?_
                refine r_bp K (-9) dX6_step_146 kb_m9 ?_
                cases q with
                | none =>
                  refine r_cne K 152 dX6_step_148 (by decide) (fun c => absurd rfl c) (fun c148 => ?_)
                  exact hr.2 _ _ _ _ dX6_step_151 (h.to (by rw [hS, hW, if_pos (Or.inr ⟨c141, rfl⟩)])) rfl
                | some q =>
                  have hq2 : q < n := hqn q rfl
                  refine r_cne K 152 dX6_step_148 (by decide) (fun c148 => ?_) (fun c => absurd c (lent_ne (by omega)))
                  refine r_aln K hl 0 dX6_step_152 rfl rfl ?_
                  refine r_iln K hl 1 dX6_step_153 rfl rfl ?_
                  refine r_il K hl 5 dX6_step_154 rfl ?_
                  refine r_callS K h hl (c_X6_takes l g a _ p n ph q hp (by omega) hqn h50 h55 hph) mc_X6_takes st_X6_takes mlX6_62 [0] rfl rfl rfl [_] rfl (by decide) (by decide) rfl rfl (Nat.le_of_ble_eq_true rfl) ⟨Nat.zero_le _, Nat.zero_le _⟩ dX6_step_156 (fun H locs h => ?_)
                  refine W.eq (g2 := F0 m 159 ls []) rfl ?_
                  refine r_aln K hl 0 dX6_step_159 rfl rfl ?_
                  refine r_iln K hl 2 dX6_step_160 rfl rfl ?_
                  refine r_ic K (nI 0) dX6_step_161 k_0 ?_
                  refine r_addN K dX6_step_162 ?_
                  refine r_ial K h 0 rfl (by omega) (by decide) dX6_step_163 ?_
                  refine r_ic K (nI 1) dX6_step_164 k_1 ?_
                  refine r_cne K 173 dX6_step_165 (by decide) (fun c165 => ?_) (fun c165 => ?_)
                  · exact hr.2 _ _ _ _ dX6_step_173 (h.to (by rw [hS, hW, if_neg (fun h => h.elim c136 (fun h => by cases h.2)), if_neg c165])) rfl
                  · refine r_aln K hl 0 dX6_step_168 rfl rfl ?_
                    refine r_iln K hl 1 dX6_step_169 rfl rfl ?_
                    refine r_callS K h hl (c_X6_idles l g a _ p hp) mc_X6_idles st_X6_idles mlX6_44 [0] rfl rfl rfl [_] rfl (by decide) (by decide) rfl rfl (Nat.le_of_ble_eq_true rfl) ⟨Nat.zero_le _, Nat.zero_le _⟩ dX6_step_170 (fun H locs h => ?_)
                    refine W.eq (g2 := F0 m 173 ls []) rfl ?_
                    exact hr.2 _ _ _ _ dX6_step_173 (h.to (by rw [hS, hW, if_neg (fun h => h.elim c136 (fun h => by cases h.2)), if_pos c165])) rfl
          refine r_il K hl 4 dX6_step_113 rfl ?_
          refine r_zeqB K 126 dX6_step_115 (by decide) (fun c115 => ?_) (fun c115 => ?_)
          · refine r_bp K (-9) dX6_step_126 kb_m9 ?_
            exact J _ _ h none (by rw [c115]; rfl)
          · refine r_aln K hl 0 dX6_step_118 rfl rfl ?_
            refine r_iln K hl 1 dX6_step_119 rfl rfl ?_
            refine r_callS K h hl (c_X6_lender l g a _ p n hp (by omega) (by omega) h50) mc_X6_lender st_X6_lender mlX6_58 [0] rfl rfl rfl [_] rfl (by decide) (by decide) rfl rfl (Nat.le_of_ble_eq_true rfl) ⟨Nat.zero_le _, Nat.zero_le _⟩ dX6_step_120 (fun H locs h => ?_)
            refine W.eq (g2 := F0 m 123 ls [_]) rfl ?_
            refine r_go K 128 dX6_step_123 (by decide) ?_
            refine W.eq (g2 := F0 m 128 ls [.int (lentI (mLend f5 p))]) (by rw [mLend, hr5]) ?_
            exact J _ _ h (mLend f5 p) (by rw [c115, if_pos rfl])
        · exact hr.2 _ _ _ _ dX6_step_96 (h.to (by dsimp only [mStep]; rw [hf2, if_neg c27, hrn, hrs, if_pos c93, hf3])) rfl
      | succ j ih =>
        intro k hk H locs h ls hl
        refine r_il K hl 4 dX6_step_51 rfl ?_
        refine r_bp K (nI 6) dX6_step_53 kb_6 ?_
        refine r_cgeN K 87 dX6_step_55 (by decide) (by omega) (by omega) (fun c => absurd c (by omega)) (fun c55 => ?_)
        refine r_aln K hl 0 dX6_step_58 rfl rfl ?_
        refine r_iln K hl 2 dX6_step_59 rfl rfl ?_
        refine r_bp K (nI 14) dX6_step_60 kb_14 ?_
        refine r_addN K dX6_step_62 ?_
        refine r_bp K (nI 6) dX6_step_63 kb_6 ?_
        refine r_iln K hl 3 dX6_step_65 rfl rfl ?_
        refine r_mulN K dX6_step_66 ?_
        refine r_addN K dX6_step_67 ?_
        refine r_il K hl 4 dX6_step_68 rfl ?_
        refine r_addN K dX6_step_70 ?_
        refine r_aln K hl 0 dX6_step_71 rfl rfl ?_
        refine r_iln K hl 3 dX6_step_72 rfl rfl ?_
        refine r_callS K h hl (c_X6_cellAt l g (st % n)) mc_X6_cellAt st_X6_cellAt mlX6_48 [] rfl rfl rfl [_] rfl (by decide) (by decide) rfl rfl (Nat.le_of_ble_eq_true rfl) ⟨Nat.zero_le _, Nat.zero_le _⟩ dX6_step_73 (fun H locs h => ?_)
        refine W.eq (g2 := F0 m 76 ls [_, _, _, _]) rfl ?_
        refine r_il K hl 4 dX6_step_76 rfl ?_
        refine r_addN K dX6_step_78 ?_
        refine r_ial K h 0 rfl (by omega) (by decide) dX6_step_79 ?_
        refine r_ias K h 0 [_] rfl (by omega) (by decide) rfl dX6_step_80 (fun H locs h => ?_)
        refine r_incN K hl (k := 1) [_, _, _, _, _, _] dX6_step_81 rfl (by decide) rfl (fun ls hl => ?_)
        refine r_go K 51 dX6_step_84 (by decide) ?_
        refine ih (k + 1) (by omega) _ _ (h.to ?_) _ hl
        rw [← cpy_s, cpy_o (f := f2) (g := f2) (by omega)]
    exact loop 6 0 rfl _ _ (h.to (by rw [cpy_0])) _ hl
  · refine r_aln K hl 0 dX6_step_30 rfl rfl ?_
    refine r_iln K hl 1 dX6_step_31 rfl rfl ?_
    refine r_callS K h hl (c_X6_writesNow l g a _ p wr hp (s2_6) hwr) mc_X6_writesNow st_X6_writesNow mlX6_51 [0] rfl rfl rfl [_] rfl (by decide) (by decide) rfl rfl (Nat.le_of_ble_eq_true rfl) ⟨Nat.zero_le _, Nat.zero_le _⟩ dX6_step_32 (fun H locs h => ?_)
    refine W.eq (g2 := F0 m 35 ls []) rfl ?_
    exact hr.2 _ _ _ _ dX6_step_35 (h.to (by dsimp only [mStep]; rw [hf2, if_pos c27])) rfl
