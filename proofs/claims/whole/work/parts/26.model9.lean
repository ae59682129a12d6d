set_option maxHeartbeats 4000000 in
set_option maxRecDepth 100000 in
theorem c_X6_movesSet (l : Launch) (g : GG) (a : Nat → Nat) (th um : Int32) (f fw fs : Row) (n : Nat) (q : Nat) (sa sb : Nat → Nat) (sx : Nat → Int32) (hn2 : 2 ≤ n) (hn : n ≤ 4) (h0 : f 0 = nI n) (hq : q ≤ 6) (hsw : ∀ i, i < q → fs (3 * i) = nI (sa i) ∧ fs (3 * i + 1) = nI (sb i) ∧ fs (3 * i + 2) = sx i ∧ 1 ≤ sa i ∧ sa i ≤ 4 ∧ 1 ≤ sb i ∧ sb i ≤ 4) : CtE l g yX6_movesSet cX6_movesSet 5 (some .int) 5 [.ref (a 0)] [mOb a th um (nI q), aI g (a 1) 512 f, aI g (a 2) 512 (fw), aI g (a 6) 18 fs] (some (.int (nI (mskK (fun mv => fitK n (f 2) sa sb sx mv q) 4)))) (fun u : Row => [mOb a th um (nI q), aI g (a 1) 512 f, aI g (a 2) 512 (u), aI g (a 6) 18 fs]) := by
  refine CtE.start (by decide +kernel) (Nat.le_of_ble_eq_true rfl) (by simp [Value.category]) (Or.inr ⟨.int, _, rfl, rfl, rfl⟩) ?_
  intro p0 e R s m args below meth c A Q K hr h ls hl
  have hl : Lq ls 5 [some (.ref (a 0)), none, none, none, none] := hl
  generalize hβ : (fun mv => fitK n (f 2) sa sb sx mv q) = β at hr
  refine r_ic K (nI 0) dX6_movesSet_0 k_0 ?_
  refine r_isn K hl 1 [_, _, _, _, _] dX6_movesSet_1 rfl (by decide) rfl (fun ls hl => ?_)
  refine r_ic K (nI 1) dX6_movesSet_2 k_1 ?_
  refine r_isn K hl 2 [_, _, _, _, _] dX6_movesSet_3 rfl (by decide) rfl (fun ls hl => ?_)
  have loop : ∀ (j k : Nat) (x y : Option Value) (u : Row), k + j = 4 → ∀ (H : Heap) (locs : List Loc), Hp g A s H locs [mOb a th um (nI q), aI g (a 1) 512 f, aI g (a 2) 512 (u), aI g (a 6) 18 fs] → ∀ ls, Lq ls 5 [some (.ref (a 0)), some (.int (nI (mskK β k))), some (.int (nI (k + 1))), x, y] → W p0 l e R s m args below meth c H locs 0 0 Q (F0 m 4 ls []) := by
    intro j
    induction j with
    | zero =>
      intro k x y u hk H locs h ls hl
      obtain rfl : k = 4 := by omega
      refine r_iln K hl 2 dX6_movesSet_4 rfl rfl ?_
      refine r_ic K (nI 5) dX6_movesSet_5 k_5 ?_
      refine r_cgeN K 100 dX6_movesSet_6 (by decide) (by omega) (by omega) (fun c6 => ?_) (fun c => absurd c (by omega))
      refine r_iln K hl 1 dX6_movesSet_100 rfl rfl ?_
      exact hr.1 _ _ _ _ _ _ dX6_movesSet_101 h rfl
    | succ j ih =>
      intro k x y u hk H locs h ls hl
      refine r_iln K hl 2 dX6_movesSet_4 rfl rfl ?_
      refine r_ic K (nI 5) dX6_movesSet_5 k_5 ?_
      refine r_cgeN K 100 dX6_movesSet_6 (by decide) (by omega) (by omega) (fun c => absurd c (by omega)) (fun c6 => ?_)
      refine r_ic K (nI 1) dX6_movesSet_9 k_1 ?_
      refine r_isn K hl 3 [_, _, _, _, _] dX6_movesSet_10 rfl (by decide) rfl (fun ls hl => ?_)
      refine r_ic K (nI 0) dX6_movesSet_11 k_0 ?_
      refine r_is K hl 4 [_, _, _, _, _] dX6_movesSet_12 (by decide) rfl (fun ls hl => ?_)
      have hb1 : β (k + 1) = fitK n (f 2) sa sb sx (k + 1) q := by rw [← hβ]
      have J : ∀ (y : Option Value) (u : Row) (H : Heap) (locs : List Loc), Hp g A s H locs [mOb a th um (nI q), aI g (a 1) 512 f, aI g (a 2) 512 (u), aI g (a 6) 18 fs] → ∀ ls, Lq ls 5 [some (.ref (a 0)), some (.int (nI (mskK β k))), some (.int (nI (k + 1))), some (.int (bI (β (k + 1)))), y] → W p0 l e R s m args below meth c H locs 0 0 Q (F0 m 78 ls []) := by
        intro y u H locs h ls hl
        refine r_iln K hl 1 dX6_movesSet_78 rfl rfl ?_
        refine r_iln K hl 3 dX6_movesSet_79 rfl rfl ?_
        have hlt := mskK_lt β k
        have h16 : mskK β k < 16 := by rcases (by omega : k = 0 ∨ k = 1 ∨ k = 2 ∨ k = 3) with rfl | rfl | rfl | rfl <;> omega
        refine r_zeqB K 91 dX6_movesSet_80 (by decide) (fun c80 => ?_) (fun c80 => ?_)
        · refine r_ic K (nI 0) dX6_movesSet_91 k_0 ?_
          refine r_or K dX6_movesSet_92 ?_
          refine r_isn K hl 1 [_, _, _, _, _] dX6_movesSet_93 rfl (by decide) rfl (fun ls hl => ?_)
          refine r_incN K hl (k := 1) [_, _, _, _, _] dX6_movesSet_94 rfl (by decide) rfl (fun ls hl => ?_)
          refine r_go K 4 dX6_movesSet_97 (by decide) ?_
          rw [or_0, show mskK β k = mskK β (k + 1) by rw [mskK, c80]; rfl] at hl
          exact ih (k + 1) _ _ u (by omega) _ _ h _ hl
        · refine r_ic K (nI 1) dX6_movesSet_83 k_1 ?_
          refine r_iln K hl 2 dX6_movesSet_84 rfl rfl ?_
          refine r_ic K (nI 1) dX6_movesSet_85 k_1 ?_
          refine r_subN K (by omega) dX6_movesSet_86 ?_
          refine r_shl K dX6_movesSet_87 ?_
          refine r_go K 92 dX6_movesSet_88 (by decide) ?_
          refine r_or K dX6_movesSet_92 ?_
          refine r_isn K hl 1 [_, _, _, _, _] dX6_movesSet_93 rfl (by decide) rfl (fun ls hl => ?_)
          refine r_incN K hl (k := 1) [_, _, _, _, _] dX6_movesSet_94 rfl (by decide) rfl (fun ls hl => ?_)
          refine r_go K 4 dX6_movesSet_97 (by decide) ?_
          rw [show k + 1 - 1 = k by omega, or_bit k (by omega) _ h16 hlt, show mskK β k + 2 ^ k = mskK β (k + 1) by rw [mskK, c80]; rfl] at hl
          exact ih (k + 1) _ _ u (by omega) _ _ h _ hl
      have loop2 : ∀ (j2 k2 : Nat) (u : Row), k2 + j2 = q → ∀ (H : Heap) (locs : List Loc), Hp g A s H locs [mOb a th um (nI q), aI g (a 1) 512 f, aI g (a 2) 512 (u), aI g (a 6) 18 fs] → ∀ ls, Lq ls 5 [some (.ref (a 0)), some (.int (nI (mskK β k))), some (.int (nI (k + 1))), some (.int (bI (fitK n (f 2) sa sb sx (k + 1) k2))), some (.int (nI k2))] → W p0 l e R s m args below meth c H locs 0 0 Q (F0 m 14 ls []) := by
        intro j2
        induction j2 with
        | zero =>
          intro k2 u hk2 H locs h ls hl
          obtain rfl : k2 = q := by omega
          refine r_il K hl 4 dX6_movesSet_14 rfl ?_
          refine r_aln K hl 0 dX6_movesSet_16 rfl rfl ?_
          refine r_get K h ffX6_76 0 rfl rfl dX6_movesSet_17 ?_
          refine r_cgeN K 78 dX6_movesSet_20 (by decide) (by omega) (by omega) (fun c20 => ?_) (fun c => absurd c (by omega))
          rw [← hb1] at hl
          exact J _ _ _ _ h _ hl
        | succ j2 ih2 =>
          intro k2 u hk2 H locs h ls hl
          refine r_il K hl 4 dX6_movesSet_14 rfl ?_
          refine r_aln K hl 0 dX6_movesSet_16 rfl rfl ?_
          refine r_get K h ffX6_76 0 rfl rfl dX6_movesSet_17 ?_
          refine r_cgeN K 78 dX6_movesSet_20 (by decide) (by omega) (by omega) (fun c => absurd c (by omega)) (fun c20 => ?_)
          refine r_iln K hl 3 dX6_movesSet_23 rfl rfl ?_
          refine r_zeqB K 78 dX6_movesSet_24 (by decide) (fun c24 => ?_) (fun c24 => ?_)
          · rw [show fitK n (f 2) sa sb sx (k + 1) k2 = β (k + 1) by rw [hb1, c24, ← fitK_no (q - k2) k2 c24, show k2 + (q - k2) = q by omega]] at hl
            exact J _ _ _ _ h _ hl
          · obtain ⟨s1, s2, s3, s4, s5, s6, s7⟩ := hsw k2 (by omega)
            refine r_aln K hl 0 dX6_movesSet_27 rfl rfl ?_
            refine r_iln K hl 2 dX6_movesSet_28 rfl rfl ?_
            refine r_aln K hl 0 dX6_movesSet_29 rfl rfl ?_
            refine r_get K h ffX6_26 0 rfl rfl dX6_movesSet_30 ?_
            refine r_ic K (nI 3) dX6_movesSet_33 k_3 ?_
            refine r_il K hl 4 dX6_movesSet_34 rfl ?_
            refine r_mulN K dX6_movesSet_36 ?_
            refine r_ialE K h 3 rfl (by omega) (by decide) s1 dX6_movesSet_37 ?_
            refine r_aln K hl 0 dX6_movesSet_38 rfl rfl ?_
            refine r_get K h ffX6_26 0 rfl rfl dX6_movesSet_39 ?_
            refine r_ic K (nI 3) dX6_movesSet_42 k_3 ?_
            refine r_il K hl 4 dX6_movesSet_43 rfl ?_
            refine r_mulN K dX6_movesSet_45 ?_
            refine r_ic K (nI 1) dX6_movesSet_46 k_1 ?_
            refine r_addN K dX6_movesSet_47 ?_
            refine r_ialE K h 3 rfl (by omega) (by decide) s2 dX6_movesSet_48 ?_
            refine r_callV K h hl (c_X6_trialOf l g a th um (nI q) f u n (k + 1) (sa k2) (sb k2) hn2 hn h0 (by omega) (by omega) s4 s5 s6 s7) mc_X6_trialOf vm_X6_trialOf mlX6_113 0 rfl rfl rfl [0, 1, 2] rfl rfl rfl [_, _, _, _] rfl (by decide) (by decide) rfl rfl (Nat.le_of_ble_eq_true rfl) ⟨Nat.zero_le _, Nat.zero_le _⟩ dX6_movesSet_49 (fun H locs h => ?_)
            refine W.eq (g2 := F0 m 52 ls [_]) rfl ?_
            refine r_aln K hl 0 dX6_movesSet_52 rfl rfl ?_
            refine r_get K h ffX6_26 0 rfl rfl dX6_movesSet_53 ?_
            refine r_ic K (nI 3) dX6_movesSet_56 k_3 ?_
            refine r_il K hl 4 dX6_movesSet_57 rfl ?_
            refine r_mulN K dX6_movesSet_59 ?_
            refine r_ic K (nI 2) dX6_movesSet_60 k_2 ?_
            refine r_addN K dX6_movesSet_61 ?_
            refine r_ialE K h 3 rfl (by omega) (by decide) s3 dX6_movesSet_62 ?_
            refine r_cne K 70 dX6_movesSet_63 (by decide) (fun c63 => ?_) (fun c63 => ?_)
            · refine r_ic K (nI 0) dX6_movesSet_70 k_0 ?_
              refine r_isn K hl 3 [_, _, _, _, _] dX6_movesSet_71 rfl (by decide) rfl (fun ls hl => ?_)
              refine r_incN K hl (k := 1) [_, _, _, _, _] dX6_movesSet_72 rfl (by decide) rfl (fun ls hl => ?_)
              refine r_go K 14 dX6_movesSet_75 (by decide) ?_
              exact ih2 (k2 + 1) _ (by omega) _ _ h _ (by rw [fitK, decide_eq_false c63, Bool.and_false]; exact hl)
            · refine r_ic K (nI 1) dX6_movesSet_66 k_1 ?_
              refine r_go K 71 dX6_movesSet_67 (by decide) ?_
              refine r_isn K hl 3 [_, _, _, _, _] dX6_movesSet_71 rfl (by decide) rfl (fun ls hl => ?_)
              refine r_incN K hl (k := 1) [_, _, _, _, _] dX6_movesSet_72 rfl (by decide) rfl (fun ls hl => ?_)
              refine r_go K 14 dX6_movesSet_75 (by decide) ?_
              exact ih2 (k2 + 1) _ (by omega) _ _ h _ (by rw [fitK, decide_eq_true c63, c24]; exact hl)
      exact loop2 q 0 _ (by omega) _ _ h _ hl
  exact loop 4 0 none none fw rfl _ _ h _ hl

set_option maxHeartbeats 4000000 in
set_option maxRecDepth 100000 in
theorem c_X6_which_ok (l : Launch) (g : GG) (a : Nat → Nat) (th um : Int32) (f fw fp fi fk fs ft : Row) (n : Nat) (q : Nat) (sa sb : Nat → Nat) (sx : Nat → Int32) (hn2 : 2 ≤ n) (hn : n ≤ 4) (h0 : f 0 = nI n) (hq : q ≤ 6) (hsw : ∀ i, i < q → fs (3 * i) = nI (sa i) ∧ fs (3 * i + 1) = nI (sb i) ∧ fs (3 * i + 2) = sx i ∧ 1 ≤ sa i ∧ sa i ≤ 4 ∧ 1 ≤ sb i ∧ sb i ≤ 4) : CtE l g yX6_which cX6_which 1 (some .int) 6 [.ref (a 0)] (mW g a (th) (um) (nI q) (f) (fw) (fp) (fi) (fk) (fs) (ft)) (some (.int (nI (mskK (fun mv => fitK n (f 2) sa sb sx mv q) 4)))) (fun u : Row => (mW g a (nI 0) (um) (nI q) (f) (u) (fp) (fi) (fk) (fs) (ft))) := by
  refine CtE.start (by decide +kernel) (Nat.le_of_ble_eq_true rfl) (by simp [Value.category]) (Or.inr ⟨.int, _, rfl, rfl, rfl⟩) ?_
  intro p0 e R s m args below meth c A Q K hr h ls hl
  have hl : Lq ls 1 [some (.ref (a 0))] := hl
  refine r_aln K hl 0 dX6_which_0 rfl rfl ?_
  refine r_ic K (nI 0) dX6_which_1 k_0 ?_
  refine r_put K h ffX6_36 pfX6_0 0 [_, _, _, _, _, _, _, _, _, _] [_, _, _, _, _, _, _, _] rfl rfl rfl (Nat.le_of_ble_eq_true rfl) rfl rfl dX6_which_2 (fun H locs h => ?_)
  refine r_aln K hl 0 dX6_which_5 rfl rfl ?_
  refine r_callVE K h hl (c_X6_movesSet l g a _ um f fw fs n q sa sb sx hn2 hn h0 hq hsw) mc_X6_movesSet vm_X6_movesSet mlX6_116 0 rfl rfl rfl [0, 1, 2, 6] rfl rfl (fun _ => rfl) (fun u => [_, _, _, _, _, _, _, _]) (fun _ => rfl) (by decide) (by decide) rfl rfl (Nat.le_of_ble_eq_true rfl) ⟨Nat.zero_le _, Nat.zero_le _⟩ dX6_which_6 (fun u H locs h => ?_)
  try dsimp only at h
  refine W.eq (g2 := F0 m 9 ls [_]) rfl ?_
  exact hr.1 _ _ _ _ _ _ dX6_which_9 h rfl

set_option maxHeartbeats 4000000 in
set_option maxRecDepth 100000 in
theorem c_X6_mostAlike (l : Launch) (g : GG) (a : Nat → Nat) (th um sm : Int32) (f fw ft : Row) (n ka kb : Nat) (β : Nat → Bool) (hn2 : 2 ≤ n) (hn : n ≤ 4) (h0 : f 0 = nI n) (ha1 : 1 ≤ ka) (ha : ka ≤ 4) (hb1 : 1 ≤ kb) (hb : kb ≤ 4) : CtE l g yX6_mostAlike cX6_mostAlike 8 (some .int) 5 [.ref (a 0), .int (nI (mskK β 4)), .int (nI ka), .int (nI kb)] [mOb a th um sm, aI g (a 1) 512 f, aI g (a 2) 512 (fw), aI g (a 7) 4 (ft)] (some (.int (nI (alM β (fun mv => trN n mv (f 2) ka kb) 4)))) (fun u : Row × Row => [mOb a th um sm, aI g (a 1) 512 f, aI g (a 2) 512 (u.1), aI g (a 7) 4 (u.2)]) := by
  refine CtE.start (by decide +kernel) (Nat.le_of_ble_eq_true rfl) (by simp [Value.category]) (Or.inr ⟨.int, _, rfl, rfl, rfl⟩) ?_
  intro p0 e R s m args below meth c A Q K hr h ls hl
  have hl : Lq ls 8 [some (.ref (a 0)), some (.int (nI (mskK β 4))), some (.int (nI ka)), some (.int (nI kb)), none, none, none, none] := hl
  generalize ht : (fun mv => trN n mv (f 2) ka kb) = t at hr
  have htl : ∀ x, t x ≤ 4000 := fun x => by rw [← ht]; exact trN_lt ha
  have m16 : mskK β 4 < 16 := mskK_lt β 4
  refine r_ic K (nI 0) dX6_mostAlike_0 k_0 ?_
  refine r_is K hl 4 [_, _, _, _, _, _, _, _] dX6_mostAlike_1 (by decide) rfl (fun ls hl => ?_)
  have J : ∀ (x : Option Value) (u ft : Row), (∀ j, j < 4 → ft j = tkv β t j) → ∀ (H : Heap) (locs : List Loc), Hp g A s H locs [mOb a th um sm, aI g (a 1) 512 f, aI g (a 2) 512 (u), aI g (a 7) 4 (ft)] → ∀ ls, Lq ls 8 [some (.ref (a 0)), some (.int (nI (mskK β 4))), some (.int (nI ka)), some (.int (nI kb)), x, none, none, none] → W p0 l e R s m args below meth c H locs 0 0 Q (F0 m 49 ls []) := by
    intro x u ft hft H locs h ls hl
    refine r_ic K (nI 0) dX6_mostAlike_49 k_0 ?_
    refine r_is K hl 4 [_, _, _, _, _, _, _, _] dX6_mostAlike_50 (by decide) rfl (fun ls hl => ?_)
    refine r_ic K (nI 0) dX6_mostAlike_52 k_0 ?_
    refine r_is K hl 5 [_, _, _, _, _, _, _, _] dX6_mostAlike_53 (by decide) rfl (fun ls hl => ?_)
    have loop : ∀ (j m2 : Nat) (x y : Option Value), m2 + j = 4 → ∀ (H : Heap) (locs : List Loc), Hp g A s H locs [mOb a th um sm, aI g (a 1) 512 f, aI g (a 2) 512 (u), aI g (a 7) 4 (ft)] → ∀ ls, Lq ls 8 [some (.ref (a 0)), some (.int (nI (mskK β 4))), some (.int (nI ka)), some (.int (nI kb)), some (.int (nI (alM β t m2))), some (.int (nI (m2))), x, y] → W p0 l e R s m args below meth c H locs 0 0 Q (F0 m 55 ls []) := by
      intro j
      induction j with
      | zero =>
        intro m2 x y hk H locs h ls hl
        obtain rfl : m2 = 4 := by omega
        refine r_il K hl 5 dX6_mostAlike_55 rfl ?_
        refine r_ic K (nI 4) dX6_mostAlike_57 k_4 ?_
        refine r_cgeN K 138 dX6_mostAlike_58 (by decide) (by omega) (by omega) (fun c58 => ?_) (fun c => absurd c (by omega))
        refine r_il K hl 4 dX6_mostAlike_138 rfl ?_
        exact hr.1 (u, ft) _ _ _ _ _ dX6_mostAlike_140 h rfl
      | succ j ih =>
        intro m2 x y hk H locs h ls hl
        refine r_il K hl 5 dX6_mostAlike_55 rfl ?_
        refine r_ic K (nI 4) dX6_mostAlike_57 k_4 ?_
        refine r_cgeN K 138 dX6_mostAlike_58 (by decide) (by omega) (by omega) (fun c => absurd c (by omega)) (fun c58 => ?_)
        refine r_ic K (nI 0) dX6_mostAlike_61 k_0 ?_
        refine r_is K hl 6 [_, _, _, _, _, _, _, _] dX6_mostAlike_62 (by decide) rfl (fun ls hl => ?_)
        refine r_ic K (nI 0) dX6_mostAlike_64 k_0 ?_
        refine r_is K hl 7 [_, _, _, _, _, _, _, _] dX6_mostAlike_65 (by decide) rfl (fun ls hl => ?_)
        have loop2 : ∀ (j2 k2 : Nat), k2 + j2 = 4 → ∀ (H : Heap) (locs : List Loc), Hp g A s H locs [mOb a th um sm, aI g (a 1) 512 f, aI g (a 2) 512 (u), aI g (a 7) 4 (ft)] → ∀ ls, Lq ls 8 [some (.ref (a 0)), some (.int (nI (mskK β 4))), some (.int (nI ka)), some (.int (nI kb)), some (.int (nI (alM β t m2))), some (.int (nI (m2))), some (.int (nI (if β (m2 + 1) = true then alN β t m2 k2 else 0))), some (.int (nI (k2)))] → W p0 l e R s m args below meth c H locs 0 0 Q (F0 m 67 ls []) := by
          intro j2
          induction j2 with
          | zero =>
            intro k2 hk2 H locs h ls hl
            obtain rfl : k2 = 4 := by omega
            have b1 := alM_le β t m2
            have b2 := alN_le β t m2 4
            have b3 : (if β (m2 + 1) = true then alN β t m2 4 else 0) ≤ 4 := by split <;> omega
            refine r_il K hl 7 dX6_mostAlike_67 rfl ?_
            refine r_ic K (nI 4) dX6_mostAlike_69 k_4 ?_
            refine r_cgeN K 116 dX6_mostAlike_70 (by decide) (by omega) (by omega) (fun c70 => ?_) (fun c => absurd c (by omega))
            refine r_il K hl 6 dX6_mostAlike_116 rfl ?_
            refine r_il K hl 4 dX6_mostAlike_118 rfl ?_
            refine r_cleN K 128 dX6_mostAlike_120 (by decide) (by omega) (by omega) (fun c120 => ?_) (fun c120 => ?_)
            · refine r_il K hl 4 dX6_mostAlike_128 rfl ?_
              refine r_is K hl 4 [_, _, _, _, _, _, _, _] dX6_mostAlike_130 (by decide) rfl (fun ls hl => ?_)
              refine r_incN K hl (k := 1) [_, _, _, _, _, _, _, _] dX6_mostAlike_132 rfl (by decide) rfl (fun ls hl => ?_)
              refine r_go K 55 dX6_mostAlike_135 (by decide) ?_
              rw [show alM β t m2 = alM β t (m2 + 1) by rw [alM]; split <;> rename_i q <;> first | rfl | (rw [if_pos q] at c120; omega)] at hl
              exact ih (m2 + 1) _ _ (by omega) _ _ h _ hl
            · refine r_il K hl 6 dX6_mostAlike_123 rfl ?_
              refine r_go K 130 dX6_mostAlike_125 (by decide) ?_
              refine r_is K hl 4 [_, _, _, _, _, _, _, _] dX6_mostAlike_130 (by decide) rfl (fun ls hl => ?_)
              refine r_incN K hl (k := 1) [_, _, _, _, _, _, _, _] dX6_mostAlike_132 rfl (by decide) rfl (fun ls hl => ?_)
              refine r_go K 55 dX6_mostAlike_135 (by decide) ?_
              rw [show (if β (m2 + 1) = true then alN β t m2 4 else 0) = alM β t (m2 + 1) by rw [alM]; split <;> rename_i q <;> first | (rw [if_neg q] at c120; omega) | (rw [if_pos q] at c120; omega)] at hl
              exact ih (m2 + 1) _ _ (by omega) _ _ h _ hl
          | succ j2 ih2 =>
            intro k2 hk2 H locs h ls hl
            refine r_il K hl 7 dX6_mostAlike_67 rfl ?_
            refine r_ic K (nI 4) dX6_mostAlike_69 k_4 ?_
            refine r_cgeN K 116 dX6_mostAlike_70 (by decide) (by omega) (by omega) (fun c => absurd c (by omega)) (fun c70 => ?_)
            refine r_il K hl 6 dX6_mostAlike_73 rfl ?_
            refine r_aln K hl 0 dX6_mostAlike_75 rfl rfl ?_
            refine r_get K h ffX6_29 0 rfl rfl dX6_mostAlike_76 ?_
            refine r_il K hl 7 dX6_mostAlike_79 rfl ?_
            refine r_ialE K h 3 rfl (by omega) (by decide) (hft k2 (by omega)) dX6_mostAlike_81 ?_
            refine r_aln K hl 0 dX6_mostAlike_82 rfl rfl ?_
            refine r_get K h ffX6_29 0 rfl rfl dX6_mostAlike_83 ?_
            refine r_il K hl 5 dX6_mostAlike_86 rfl ?_
            refine r_ialE K h 3 rfl (by omega) (by decide) (hft m2 (by omega)) dX6_mostAlike_88 ?_
            have hcc := tk_cnt (β := β) (t := t) (m := m2) (k := k2) (by omega) htl
            have hbit := bit_k k2 (by omega) (mskK β 4) m16
            rw [msk_bit β k2 (by omega)] at hbit
            have J2 : ∀ x : Nat, x = (if tkv β t k2 = tkv β t m2 ∧ β (k2 + 1) = true then 1 else 0) → W p0 l e R s m args below meth c H locs 0 0 Q (F0 m 107 ls [.int (nI x), .int (nI (if β (m2 + 1) = true then alN β t m2 k2 else 0))]) := by
              intro x hx
              refine r_addN K dX6_mostAlike_107 ?_
              refine r_is K hl 6 [_, _, _, _, _, _, _, _] dX6_mostAlike_108 (by decide) rfl (fun ls hl => ?_)
              refine r_incN K hl (k := 1) [_, _, _, _, _, _, _, _] dX6_mostAlike_110 rfl (by decide) rfl (fun ls hl => ?_)
              refine r_go K 67 dX6_mostAlike_113 (by decide) ?_
              rw [show (if β (m2 + 1) = true then alN β t m2 k2 else 0) + x = (if β (m2 + 1) = true then alN β t m2 (k2 + 1) else 0) by
                rw [hx]
                by_cases q : β (m2 + 1) = true
                · rw [if_pos q, if_pos q, alN]; congr 1; by_cases r : β (k2 + 1) = true ∧ t (k2 + 1) = t (m2 + 1)
                  · rw [if_pos r, if_pos (hcc.mpr ⟨q, r⟩)]
                  · rw [if_neg r, if_neg (fun z => r (hcc.mp z).2)]
                · rw [if_neg q, if_neg q, if_neg (fun z => q (hcc.mp z).1)]] at hl
              exact ih2 (k2 + 1) (by omega) _ _ h _ hl
            refine r_cne K 106 dX6_mostAlike_89 (by decide) (fun c89 => ?_) (fun c89 => ?_)
            · refine r_ic K (nI 0) dX6_mostAlike_106 k_0 ?_
              exact J2 0 (by rw [if_neg (fun z => c89 z.1)])
            · refine r_iln K hl 1 dX6_mostAlike_92 rfl rfl ?_
              refine r_il K hl 7 dX6_mostAlike_93 rfl ?_
              refine r_shr K dX6_mostAlike_95 ?_
              refine r_ic K (nI 1) dX6_mostAlike_96 k_1 ?_
              refine r_and K dX6_mostAlike_97 ?_
              refine r_ic K (nI 1) dX6_mostAlike_98 k_1 ?_
              refine r_cne K 106 dX6_mostAlike_99 (by decide) (fun c99 => ?_) (fun c99 => ?_)
              · refine r_ic K (nI 0) dX6_mostAlike_106 k_0 ?_
                exact J2 0 (by rw [if_neg (fun z => c99 (hbit.mpr z.2))])
              · refine r_ic K (nI 1) dX6_mostAlike_102 k_1 ?_
                refine r_go K 107 dX6_mostAlike_103 (by decide) ?_
                exact J2 1 (by rw [if_pos ⟨c89, hbit.mp c99⟩])
        exact loop2 4 0 rfl _ _ h _ (by rw [show (if β (m2 + 1) = true then alN β t m2 0 else 0) = 0 by split <;> rfl]; exact hl)
    exact loop 4 0 _ _ rfl _ _ h _ hl
  have loop : ∀ (j k : Nat) (u ft : Row), k + j = 4 → (∀ j, j < k → ft j = tkv β t j) → ∀ (H : Heap) (locs : List Loc), Hp g A s H locs [mOb a th um sm, aI g (a 1) 512 f, aI g (a 2) 512 (u), aI g (a 7) 4 (ft)] → ∀ ls, Lq ls 8 [some (.ref (a 0)), some (.int (nI (mskK β 4))), some (.int (nI ka)), some (.int (nI kb)), some (.int (nI (k))), none, none, none] → W p0 l e R s m args below meth c H locs 0 0 Q (F0 m 3 ls []) := by
    intro j
    induction j with
    | zero =>
      intro k u ft hk hft H locs h ls hl
      obtain rfl : k = 4 := by omega
      refine r_il K hl 4 dX6_mostAlike_3 rfl ?_
      refine r_ic K (nI 4) dX6_mostAlike_5 k_4 ?_
      refine r_cgeN K 49 dX6_mostAlike_6 (by decide) (by omega) (by omega) (fun c6 => ?_) (fun c => absurd c (by omega))
      exact J _ _ _ hft _ _ h _ hl
    | succ j ih =>
      intro k u ft hk hft H locs h ls hl
      refine r_il K hl 4 dX6_mostAlike_3 rfl ?_
      refine r_ic K (nI 4) dX6_mostAlike_5 k_4 ?_
      refine r_cgeN K 49 dX6_mostAlike_6 (by decide) (by omega) (by omega) (fun c => absurd c (by omega)) (fun c6 => ?_)
      refine r_aln K hl 0 dX6_mostAlike_9 rfl rfl ?_
      refine r_get K h ffX6_29 0 rfl rfl dX6_mostAlike_10 ?_
      refine r_il K hl 4 dX6_mostAlike_13 rfl ?_
      refine r_iln K hl 1 dX6_mostAlike_15 rfl rfl ?_
      refine r_il K hl 4 dX6_mostAlike_16 rfl ?_
      refine r_shr K dX6_mostAlike_18 ?_
      refine r_ic K (nI 1) dX6_mostAlike_19 k_1 ?_
      refine r_and K dX6_mostAlike_20 ?_
      refine r_ic K (nI 1) dX6_mostAlike_21 k_1 ?_
      have hbit := bit_k k (by omega) (mskK β 4) m16
      rw [msk_bit β k (by omega)] at hbit
      have J1 : ∀ (v : Int32) (u : Row), v = tkv β t k → ∀ (H : Heap) (locs : List Loc), Hp g A s H locs [mOb a th um sm, aI g (a 1) 512 f, aI g (a 2) 512 (u), aI g (a 7) 4 (ft)] → W p0 l e R s m args below meth c H locs 0 0 Q (F0 m 42 ls [.int v, .int (nI k), .ref (a 7)]) := by
        intro v u hv H locs h
        refine r_ias K h 3 [_, _, _, _] rfl (by omega) (by decide) rfl dX6_mostAlike_42 (fun H locs h => ?_)
        refine r_incN K hl (k := 1) [_, _, _, _, _, _, _, _] dX6_mostAlike_43 rfl (by decide) rfl (fun ls hl => ?_)
        refine r_go K 3 dX6_mostAlike_46 (by decide) ?_
        refine ih (k + 1) _ _ (by omega) (fun j hj => ?_) _ _ h _ hl
        unfold upd
        split
        · rename_i q; rw [q]; exact hv
        · exact hft j (by omega)
      refine r_cne K 38 dX6_mostAlike_22 (by decide) (fun c22 => ?_) (fun c22 => ?_)
      · refine r_ic K (-1) dX6_mostAlike_38 k_m1 ?_
        refine r_il K hl 4 dX6_mostAlike_39 rfl ?_
        refine r_sub K dX6_mostAlike_41 ?_
        exact J1 _ u (by rw [tkv, if_neg (fun z => c22 (hbit.mpr z))]) _ _ h
      · refine r_aln K hl 0 dX6_mostAlike_25 rfl rfl ?_
        refine r_il K hl 4 dX6_mostAlike_26 rfl ?_
        refine r_ic K (nI 1) dX6_mostAlike_28 k_1 ?_
        refine r_addN K dX6_mostAlike_29 ?_
        refine r_iln K hl 2 dX6_mostAlike_30 rfl rfl ?_
        refine r_iln K hl 3 dX6_mostAlike_31 rfl rfl ?_
        refine r_callV K h hl (c_X6_trialOf l g a th um sm f u n (k + 1) ka kb hn2 hn h0 (by omega) (by omega) ha1 ha hb1 hb) mc_X6_trialOf vm_X6_trialOf mlX6_113 0 rfl rfl rfl [0, 1, 2] rfl rfl rfl [_, _, _, _] rfl (by decide) (by decide) rfl rfl (Nat.le_of_ble_eq_true rfl) ⟨Nat.zero_le _, Nat.zero_le _⟩ dX6_mostAlike_32 (fun H locs h => ?_)
        refine W.eq (g2 := F0 m 35 ls [_, _, _]) rfl ?_
        refine r_go K 42 dX6_mostAlike_35 (by decide) ?_
        exact J1 _ _ (by rw [tkv, if_pos (hbit.mp c22), ← ht]) _ _ h
  exact loop 4 0 fw ft rfl (fun j hj => by omega) _ _ h _ hl
