set_option maxHeartbeats 4000000 in
set_option maxRecDepth 100000 in
theorem c_X6_isWriter (l : Launch) (g : GG) (a : Nat → Nat) (th um sm : Int32) (f : Row) (n : Nat) (x : Int32) (hn : 1 ≤ n) (h0 : f 0 = nI n) : Ct l g yX6_isWriter cX6_isWriter 2 (some .boolean) 1 [.ref (a 0), .int x] [mOb a th um sm, aI g (a 1) 512 f] (some (.int (bI (inB x (nI 0) (nI (n - 1)))))) [mOb a th um sm, aI g (a 1) 512 f] := by
  refine Ct.start (by decide +kernel) (Nat.le_of_ble_eq_true rfl) (by simp [Value.category]) (Or.inr ⟨.boolean, _, rfl, rfl, narB _⟩) ?_
  intro p0 e R s m args below meth c A Q K hr h ls hl
  have hl : Lq ls 2 [some (.ref (a 0)), some (.int x)] := hl
  refine r_iln K hl 1 dX6_isWriter_0 rfl rfl ?_
  refine r_ic K (nI 0) dX6_isWriter_1 k_0 ?_
  refine r_aln K hl 0 dX6_isWriter_2 rfl rfl ?_
  refine r_get K h ffX6_7 0 rfl rfl dX6_isWriter_3 ?_
  refine r_ic K (nI 0) dX6_isWriter_6 k_0 ?_
  refine r_ialE K h 1 rfl (by omega) (by decide) h0 dX6_isWriter_7 ?_
  refine r_ic K (nI 1) dX6_isWriter_8 k_1 ?_
  refine r_subN K (by omega) dX6_isWriter_9 ?_
  refine r_callS K h hl (c_X6_in l g x (nI 0) (nI (n - 1))) mc_X6_in st_X6_in mlX6_69 [] rfl rfl rfl [_, _] rfl (by decide) (by decide) rfl rfl (Nat.le_of_ble_eq_true rfl) ⟨Nat.zero_le _, Nat.zero_le _⟩ dX6_isWriter_10 (fun H locs h => ?_)
  refine W.eq (g2 := F0 m 13 ls [_]) rfl ?_
  exact hr.1 _ _ _ _ _ dX6_isWriter_13 h rfl

set_option maxHeartbeats 4000000 in
set_option maxRecDepth 100000 in
theorem c_X6_isCell (l : Launch) (g : GG) (a : Nat → Nat) (th um sm : Int32) (f : Row) (n : Nat) (x : Int32) (hn : 1 ≤ n) (h0 : f 0 = nI n) : Ct l g yX6_isCell cX6_isCell 2 (some .boolean) 1 [.ref (a 0), .int x] [mOb a th um sm, aI g (a 1) 512 f] (some (.int (bI (inB x (nI 0) (nI (n - 1)))))) [mOb a th um sm, aI g (a 1) 512 f] := by
  refine Ct.start (by decide +kernel) (Nat.le_of_ble_eq_true rfl) (by simp [Value.category]) (Or.inr ⟨.boolean, _, rfl, rfl, narB _⟩) ?_
  intro p0 e R s m args below meth c A Q K hr h ls hl
  have hl : Lq ls 2 [some (.ref (a 0)), some (.int x)] := hl
  refine r_iln K hl 1 dX6_isCell_0 rfl rfl ?_
  refine r_ic K (nI 0) dX6_isCell_1 k_0 ?_
  refine r_aln K hl 0 dX6_isCell_2 rfl rfl ?_
  refine r_get K h ffX6_7 0 rfl rfl dX6_isCell_3 ?_
  refine r_ic K (nI 0) dX6_isCell_6 k_0 ?_
  refine r_ialE K h 1 rfl (by omega) (by decide) h0 dX6_isCell_7 ?_
  refine r_ic K (nI 1) dX6_isCell_8 k_1 ?_
  refine r_subN K (by omega) dX6_isCell_9 ?_
  refine r_callS K h hl (c_X6_in l g x (nI 0) (nI (n - 1))) mc_X6_in st_X6_in mlX6_69 [] rfl rfl rfl [_, _] rfl (by decide) (by decide) rfl rfl (Nat.le_of_ble_eq_true rfl) ⟨Nat.zero_le _, Nat.zero_le _⟩ dX6_isCell_10 (fun H locs h => ?_)
  refine W.eq (g2 := F0 m 13 ls [_]) rfl ?_
  exact hr.1 _ _ _ _ _ dX6_isCell_13 h rfl

set_option maxHeartbeats 4000000 in
set_option maxRecDepth 100000 in
theorem c_X6_isIdle (l : Launch) (g : GG) (a : Nat → Nat) (th um sm : Int32) (f : Row) (p : Nat) (hp : p < 4) : Ct l g yX6_isIdle cX6_isIdle 2 (some .boolean) 1 [.ref (a 0), .int (nI p)] [mOb a th um sm, aI g (a 1) 512 f] (some (.int (bI (decide (f (32 + 42 * p + 0) = 0))))) [mOb a th um sm, aI g (a 1) 512 f] := by
  refine Ct.start (by decide +kernel) (Nat.le_of_ble_eq_true rfl) (by simp [Value.category]) (Or.inr ⟨.boolean, _, rfl, rfl, narB _⟩) ?_
  intro p0 e R s m args below meth c A Q K hr h ls hl
  have hl : Lq ls 2 [some (.ref (a 0)), some (.int (nI p))] := hl
  refine r_aln K hl 0 dX6_isIdle_0 rfl rfl ?_
  refine r_get K h ffX6_7 0 rfl rfl dX6_isIdle_1 ?_
  refine r_iln K hl 1 dX6_isIdle_4 rfl rfl ?_
  refine r_callS K h hl (c_X6_writerAt l g p) mc_X6_writerAt st_X6_writerAt mlX6_40 [] rfl rfl rfl [_, _] rfl (by decide) (by decide) rfl rfl (Nat.le_of_ble_eq_true rfl) ⟨Nat.zero_le _, Nat.zero_le _⟩ dX6_isIdle_5 (fun H locs h => ?_)
  refine W.eq (g2 := F0 m 8 ls [_, _]) rfl ?_
  refine r_ic K (nI 0) dX6_isIdle_8 k_0 ?_
  refine r_addN K dX6_isIdle_9 ?_
  refine r_ial K h 1 rfl (by omega) (by decide) dX6_isIdle_10 ?_
  refine r_zne K 18 dX6_isIdle_11 (by decide) (fun c11 => ?_) (fun c11 => ?_)
  · refine r_ic K (nI 0) dX6_isIdle_18 k_0 ?_
    exact hr.1 _ _ _ _ _ dX6_isIdle_19 h (by rw [decide_eq_false c11]; rfl)
  · refine r_ic K (nI 1) dX6_isIdle_14 k_1 ?_
    refine r_go K 19 dX6_isIdle_15 (by decide) ?_
    exact hr.1 _ _ _ _ _ dX6_isIdle_19 h (by rw [decide_eq_true c11]; rfl)

set_option maxHeartbeats 4000000 in
set_option maxRecDepth 100000 in
theorem c_X6_notes (l : Launch) (g : GG) (a : Nat → Nat) (th sm : Int32) (f fp : Row) (u : Nat) (hu : u ≤ 5) : Ct l g yX6_notes cX6_notes 2 none 0 [.ref (a 0)] [mOb a th (nI u) sm, aI g (a 1) 512 f, aI g (a 3) 2560 (fp)] none [mOb a th (nI (nU u)) sm, aI g (a 1) 512 f, aI g (a 3) 2560 (nP u f fp)] := by
  refine Ct.start (by decide +kernel) (Nat.le_of_ble_eq_true rfl) (by simp [Value.category]) (Or.inl ⟨rfl, rfl⟩) ?_
  intro p0 e R s m args below meth c A Q K hr h ls hl
  have hl : Lq ls 2 [some (.ref (a 0)), none] := hl
  have L2 : ∀ (u' : Nat) (fp' : Row), u' ≤ 4 → nI (u' + 1) = nI (nU u) → va_cpy f fp' 0 (512 * u') 512 = nP u f fp → ∀ (H : Heap) (locs : List Loc), Hp g A s H locs [mOb a th (nI u') sm, aI g (a 1) 512 f, aI g (a 3) 2560 (fp')] → ∀ ls x, Lq ls 2 [some (.ref (a 0)), x] → W p0 l e R s m args below meth c H locs 0 0 Q (F0 m 49 ls []) := by
    intro u' fp' hu' e1 e2 H locs h ls x hl
    refine r_ic K (nI 0) dX6_notes_49 k_0 ?_
    refine r_isn K hl 1 [_, _] dX6_notes_50 rfl (by decide) rfl (fun ls hl => ?_)
    have loop : ∀ (j k : Nat), k + j = 512 → ∀ (H : Heap) (locs : List Loc), Hp g A s H locs [mOb a th (nI u') sm, aI g (a 1) 512 f, aI g (a 3) 2560 (va_cpy f fp' 0 (512 * u') k)] → ∀ ls, Lq ls 2 [some (.ref (a 0)), some (.int (nI k))] → W p0 l e R s m args below meth c H locs 0 0 Q (F0 m 51 ls []) := by
      intro j
      induction j with
      | zero =>
        intro k hk H locs h ls hl
        obtain rfl : k = 512 := by omega
        refine r_iln K hl 1 dX6_notes_51 rfl rfl ?_
        refine r_sp K (nI 512) dX6_notes_52 ks_512 ?_
        refine r_cgeN K 85 dX6_notes_55 (by decide) (by omega) (by omega) (fun c55 => ?_) (fun c => absurd c (by omega))
        refine r_aln K hl 0 dX6_notes_85 rfl rfl ?_
        refine r_dup K dX6_notes_86 rfl ?_
        refine r_get K h ffX6_66 0 rfl rfl dX6_notes_87 ?_
        refine r_ic K (nI 1) dX6_notes_90 k_1 ?_
        refine r_addN K dX6_notes_91 ?_
        refine r_put K h ffX6_66 pfX6_4 0 [_, _, _, _, _, _, _, _, _, _] [_, _, _] rfl rfl rfl (Nat.le_of_ble_eq_true rfl) rfl rfl dX6_notes_92 (fun H locs h => ?_)
        exact hr.2 _ _ _ _ dX6_notes_95 (h.to (by rw [e1, e2])) rfl
      | succ j ih =>
        intro k hk H locs h ls hl
        refine r_iln K hl 1 dX6_notes_51 rfl rfl ?_
        refine r_sp K (nI 512) dX6_notes_52 ks_512 ?_
        refine r_cgeN K 85 dX6_notes_55 (by decide) (by omega) (by omega) (fun c => absurd c (by omega)) (fun c55 => ?_)
        refine r_aln K hl 0 dX6_notes_58 rfl rfl ?_
        refine r_get K h ffX6_16 0 rfl rfl dX6_notes_59 ?_
        refine r_sp K (nI 512) dX6_notes_62 ks_512 ?_
        refine r_aln K hl 0 dX6_notes_65 rfl rfl ?_
        refine r_get K h ffX6_66 0 rfl rfl dX6_notes_66 ?_
        refine r_mulN K dX6_notes_69 ?_
        refine r_iln K hl 1 dX6_notes_70 rfl rfl ?_
        refine r_addN K dX6_notes_71 ?_
        refine r_aln K hl 0 dX6_notes_72 rfl rfl ?_
        refine r_get K h ffX6_7 0 rfl rfl dX6_notes_73 ?_
        refine r_iln K hl 1 dX6_notes_76 rfl rfl ?_
        refine r_ial K h 1 rfl (by omega) (by decide) dX6_notes_77 ?_
        refine r_ias K h 2 [_, _, _] rfl (by omega) (by decide) rfl dX6_notes_78 (fun H locs h => ?_)
        refine r_incN K hl (k := 1) [_, _] dX6_notes_79 rfl (by decide) rfl (fun ls hl => ?_)
        refine r_go K 51 dX6_notes_82 (by decide) ?_
        refine ih (k + 1) (by omega) _ _ (h.to ?_) _ hl
        rw [← cpy_s, Nat.zero_add]
    exact loop 512 0 rfl _ _ (h.to (by rw [cpy_0])) _ hl
  by_cases hu5 : u = 5
  · subst hu5
    refine r_aln K hl 0 dX6_notes_0 rfl rfl ?_
    refine r_get K h ffX6_66 0 rfl rfl dX6_notes_1 ?_
    refine r_ic K (nI 5) dX6_notes_4 k_5 ?_
    refine r_cneN K 49 dX6_notes_5 (by decide) (by omega) (by omega) (fun c => absurd rfl c) (fun c5 => ?_)
    refine r_ic K (nI 0) dX6_notes_8 k_0 ?_
    refine r_isn K hl 1 [_, _] dX6_notes_9 rfl (by decide) rfl (fun ls hl => ?_)
    have loop : ∀ (j k : Nat), k + j = 2048 → ∀ (H : Heap) (locs : List Loc), Hp g A s H locs [mOb a th (nI 5) sm, aI g (a 1) 512 f, aI g (a 3) 2560 (va_cpy fp fp 512 0 k)] → ∀ ls, Lq ls 2 [some (.ref (a 0)), some (.int (nI k))] → W p0 l e R s m args below meth c H locs 0 0 Q (F0 m 10 ls []) := by
      intro j
      induction j with
      | zero =>
        intro k hk H locs h ls hl
        obtain rfl : k = 2048 := by omega
        refine r_iln K hl 1 dX6_notes_10 rfl rfl ?_
        refine r_sp K (nI 2048) dX6_notes_11 ks_2048 ?_
        refine r_cgeN K 39 dX6_notes_14 (by decide) (by omega) (by omega) (fun c14 => ?_) (fun c => absurd c (by omega))
        refine r_aln K hl 0 dX6_notes_39 rfl rfl ?_
        refine r_dup K dX6_notes_40 rfl ?_
        refine r_get K h ffX6_66 0 rfl rfl dX6_notes_41 ?_
        refine r_ic K (nI 1) dX6_notes_44 k_1 ?_
        refine r_subN K (by omega) dX6_notes_45 ?_
        refine r_put K h ffX6_66 pfX6_4 0 [_, _, _, _, _, _, _, _, _, _] [_, _, _] rfl rfl rfl (Nat.le_of_ble_eq_true rfl) rfl rfl dX6_notes_46 (fun H locs h => ?_)
        exact L2 4 _ (by omega) rfl rfl _ _ h _ _ hl
      | succ j ih =>
        intro k hk H locs h ls hl
        refine r_iln K hl 1 dX6_notes_10 rfl rfl ?_
        refine r_sp K (nI 2048) dX6_notes_11 ks_2048 ?_
        refine r_cgeN K 39 dX6_notes_14 (by decide) (by omega) (by omega) (fun c => absurd c (by omega)) (fun c14 => ?_)
        refine r_aln K hl 0 dX6_notes_17 rfl rfl ?_
        refine r_get K h ffX6_16 0 rfl rfl dX6_notes_18 ?_
        refine r_iln K hl 1 dX6_notes_21 rfl rfl ?_
        refine r_aln K hl 0 dX6_notes_22 rfl rfl ?_
        refine r_get K h ffX6_16 0 rfl rfl dX6_notes_23 ?_
        refine r_sp K (nI 512) dX6_notes_26 ks_512 ?_
        refine r_iln K hl 1 dX6_notes_29 rfl rfl ?_
        refine r_addN K dX6_notes_30 ?_
        refine r_ial K h 2 rfl (by omega) (by decide) dX6_notes_31 ?_
        refine r_ias K h 2 [_, _, _] rfl (by omega) (by decide) rfl dX6_notes_32 (fun H locs h => ?_)
        refine r_incN K hl (k := 1) [_, _] dX6_notes_33 rfl (by decide) rfl (fun ls hl => ?_)
        refine r_go K 10 dX6_notes_36 (by decide) ?_
        refine ih (k + 1) (by omega) _ _ (h.to ?_) _ hl
        rw [← cpy_s, cpy_o (f := fp) (g := fp) (by omega), Nat.zero_add]
    exact loop 2048 0 rfl _ _ (h.to (by rw [cpy_0])) _ hl
  · refine r_aln K hl 0 dX6_notes_0 rfl rfl ?_
    refine r_get K h ffX6_66 0 rfl rfl dX6_notes_1 ?_
    refine r_ic K (nI 5) dX6_notes_4 k_5 ?_
    refine r_cneN K 49 dX6_notes_5 (by decide) (by omega) (by omega) (fun c5 => ?_) (fun c => absurd c hu5)
    exact L2 u fp (by omega) (by rw [nU, if_neg hu5]) (by rw [nP, if_neg hu5, if_neg hu5]) _ _ h _ _ hl
