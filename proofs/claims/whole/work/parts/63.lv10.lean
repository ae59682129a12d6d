theorem m9ne {x : Nat} (h : x ≤ 4000) : ¬ nI x = -9 := fun e => by
  have := congrArg Int32.toInt e
  rw [nI_toInt (by omega), show (-9 : Int32).toInt = -9 by decide] at this; omega
theorem al_eq {rb : Row} {β : Nat → Bool} {t : Nat → Nat} {m : Nat} (ht : ∀ x, t x ≤ 4000) : ∀ k, (∀ i, i < k → rb i = if β (i + 1) then nI (t (i + 1)) else -9) → cAl rb (nI (t (m + 1))) k = alN β t m k
  | 0, _ => rfl
  | k + 1, h => by
    rw [cAl, alN, al_eq ht k (fun i hi => h i (by omega)), h k (by omega)]
    congr 1
    cases hb : β (k + 1) with
    | false => rw [if_neg (fun e => m9ne (ht (m + 1)) e.symm), if_neg (fun z => by cases z.1)]
    | true =>
      by_cases e : t (k + 1) = t (m + 1)
      · rw [if_pos rfl, if_pos (by rw [e]), if_pos ⟨rfl, e⟩]
      · rw [if_pos rfl, if_neg (fun z => e ((nI_eq (by have := ht (k + 1); omega) (by have := ht (m + 1); omega)).mp z)), if_neg (fun z => e z.2)]
theorem max_nI {x y : Nat} (hx : x < 1000) (hy : y < 1000) : (if nI x < nI y then nI y else nI x) = nI (max x y) := by
  by_cases h : x < y
  · rw [if_pos (nI_lt h (by omega)), Nat.max_eq_right (by omega)]
  · rw [if_neg (fun z => h ((nI_ltI (by omega) (by omega)).mp z)), Nat.max_eq_left (by omega)]
set_option maxHeartbeats 4000000 in
set_option maxRecDepth 100000 in
theorem c_X5_mostAlike (l : Launch) (g : GG) (b : Nat → Nat) (wa : Nat → Nat → Nat) (fk sa sb sr rb : Row) (V : Nat → Nat → Row) (f : Row) (n mv ph wr t : Nat) (hR : Rel (V 0) f n mv ph wr t) (pn pk sc : Int32) (ka kb : Nat) (β : Nat → Bool) (ha1 : 1 ≤ ka) (ha : ka ≤ 4) (hb1 : 1 ≤ kb) (hb : kb ≤ 4) : CtE l g yX5_mostAlike cX5_mostAlike 6 (some .int) 5 [.ref (b 0), .int (nI (mskK β 4)), .int (nI ka), .int (nI kb)] (lvB g b wa (pn) (pk) (sc) (fk) (sa) (sb) (sr) (rb) ++ WS g wa (V)) (some (.int (nI (alM β (fun mv => trN n mv (f 2) ka kb) 4)))) (fun u : (Nat → Row) × Row => (lvB g b wa (pn) (pk) (sc) (fk) (sa) (sb) (sr) (u.2) ++ WS g wa (setV V 1 u.1))) := by
  obtain ⟨hn2, hn, hm1, hm, hph, hwr⟩ := hR.1.1
  refine CtE.start (by decide +kernel) (Nat.le_of_ble_eq_true rfl) (by simp [Value.category]) (Or.inr ⟨.int, _, rfl, rfl, rfl⟩) ?_
  intro p0 e R s m args below meth c A Q K hr h ls hl
  have hl : Lq ls 6 [some (.ref (b 0)), some (.int (nI (mskK β 4))), some (.int (nI ka)), some (.int (nI kb)), none, none] := hl
  have h := h.to (show _ = (lvB g b wa (pn) (pk) (sc) (fk) (sa) (sb) (sr) (rb) ++ WS g wa (setV V 1 (V 1))) by rw [setV_self])
  generalize hT : (fun mv => trN n mv (f 2) ka kb) = T at hr
  have hT4 : ∀ x, T x ≤ 4000 := fun x => by rw [← hT]; exact trN_lt ha
  have hTx : ∀ x, trN n x (f 2) ka kb = T x := fun x => by rw [← hT]
  have JC : ∀ (x4 x5 : Option Value) (u : Nat → Row) (r : Row), (∀ i, i < 4 → r i = if β (i + 1) then nI (T (i + 1)) else -9) → ∀ (H : Heap) (locs : List Loc), Hp g A s H locs (lvB g b wa (pn) (pk) (sc) (fk) (sa) (sb) (sr) (r) ++ WS g wa (setV V 1 u)) → ∀ ls, Lq ls 6 [some (.ref (b 0)), some (.int (nI (mskK β 4))), some (.int (nI ka)), some (.int (nI kb)), x4, x5] → W p0 l e R s m args below meth c H locs 0 0 Q (F0 m 46 ls []) := by
    intro x4 x5 u r hr4 H locs h ls hl
    refine r_ic K (nI 0) dX5_mostAlike_46 k_0 ?_
    refine r_is K hl 4 [_, _, _, _, _, _] dX5_mostAlike_47 (by decide) rfl (fun ls hl => ?_)
    refine r_ic K (nI 0) dX5_mostAlike_49 k_0 ?_
    refine r_is K hl 5 [_, _, _, _, _, _] dX5_mostAlike_50 (by decide) rfl (fun ls hl => ?_)
    have loop : ∀ (j k : Nat), k + j = 4 → ∀ (H : Heap) (locs : List Loc), Hp g A s H locs (lvB g b wa (pn) (pk) (sc) (fk) (sa) (sb) (sr) (r) ++ WS g wa (setV V 1 u)) → ∀ ls, Lq ls 6 [some (.ref (b 0)), some (.int (nI (mskK β 4))), some (.int (nI ka)), some (.int (nI kb)), some (.int (nI (alM β T k))), some (.int (nI (k)))] → W p0 l e R s m args below meth c H locs 0 0 Q (F0 m 52 ls []) := by
      intro j
      induction j with
      | zero =>
        intro k hk H locs h ls hl
        obtain rfl : k = 4 := by omega
        refine r_il K hl 5 dX5_mostAlike_52 rfl ?_
        refine r_ic K (nI 4) dX5_mostAlike_54 k_4 ?_
        refine r_cgeN K 94 dX5_mostAlike_55 (by decide) (by omega) (by omega) (fun c55 => ?_) (fun c => absurd c (by omega))
        refine r_il K hl 4 dX5_mostAlike_94 rfl ?_
        exact hr.1 (u, r) _ _ _ _ _ dX5_mostAlike_96 h rfl
      | succ j ih =>
        intro k hk H locs h ls hl
        have hk4 := hr4 k (by omega)
        have hal := alM_le β T k
        have haN := alN_le β T k 4
        refine r_il K hl 5 dX5_mostAlike_52 rfl ?_
        refine r_ic K (nI 4) dX5_mostAlike_54 k_4 ?_
        refine r_cgeN K 94 dX5_mostAlike_55 (by decide) (by omega) (by omega) (fun c => absurd c (by omega)) (fun c55 => ?_)
        refine r_aln K hl 0 dX5_mostAlike_58 rfl rfl ?_
        refine r_get K h ffX5_40 0 rfl rfl dX5_mostAlike_59 ?_
        refine r_il K hl 5 dX5_mostAlike_62 rfl ?_
        refine r_ial K h 7 rfl (by omega) (by decide) dX5_mostAlike_64 ?_
        refine r_bp K (-9) dX5_mostAlike_65 kb_m9 ?_
        refine r_ceq K 88 dX5_mostAlike_67 (by decide) (fun c67 => ?_) (fun c67 => ?_)
        · have hbf : β (k + 1) = false := by
            cases hb2 : β (k + 1) with
            | false => rfl
            | true => rw [hb2, if_pos rfl] at hk4; exact absurd (hk4.symm.trans c67) (m9ne (hT4 _))
          rw [show alM β T k = alM β T (k + 1) by rw [alM, hbf]; rfl] at hl
          refine r_incN K hl (k := 1) [_, _, _, _, _, _] dX5_mostAlike_88 rfl (by decide) rfl (fun ls hl => ?_)
          refine r_go K 52 dX5_mostAlike_91 (by decide) ?_
          exact ih (k + 1) (by omega) H locs h ls hl
        · have hbt : β (k + 1) = true := by
            cases hb2 : β (k + 1) with
            | true => rfl
            | false => rw [hb2] at hk4; exact absurd hk4 c67
          rw [hbt, if_pos rfl] at hk4
          have hcq : cAl r (r k) 4 = alN β T k 4 := by rw [hk4]; exact al_eq hT4 4 hr4
          refine r_il K hl 4 dX5_mostAlike_70 rfl ?_
          refine r_aln K hl 0 dX5_mostAlike_72 rfl rfl ?_
          refine r_aln K hl 0 dX5_mostAlike_73 rfl rfl ?_
          refine r_get K h ffX5_40 0 rfl rfl dX5_mostAlike_74 ?_
          refine r_il K hl 5 dX5_mostAlike_77 rfl ?_
          refine r_ial K h 7 rfl (by omega) (by decide) dX5_mostAlike_79 ?_
          refine r_callVW K h hl (c_X5_countAlike l g b wa fk sa sb sr r (setV V 1 u) pn pk sc (r k)) mc_X5_countAlike vm_X5_countAlike mlX5_211 0 rfl rfl rfl rfl _ rfl (by decide) (by decide) rfl rfl (Nat.le_of_ble_eq_true rfl) ⟨Nat.zero_le _, Nat.zero_le _⟩ dX5_mostAlike_80 (fun H locs h => ?_)
          refine W.eq (g2 := F0 m 83 ls [_, _]) rfl ?_
          refine r_max K hl mlX5_214 (by decide) (Nat.le_of_ble_eq_true rfl) (Nat.zero_le _) (Nat.zero_le _) dX5_mostAlike_83 ?_
          rw [hcq, max_nI (by omega) (by omega), show max (alM β T k) (alN β T k 4) = alM β T (k + 1) by rw [alM, hbt, if_pos rfl]]
          refine r_is K hl 4 [_, _, _, _, _, _] dX5_mostAlike_86 (by decide) rfl (fun ls hl => ?_)
          refine r_incN K hl (k := 1) [_, _, _, _, _, _] dX5_mostAlike_88 rfl (by decide) rfl (fun ls hl => ?_)
          refine r_go K 52 dX5_mostAlike_91 (by decide) ?_
          exact ih (k + 1) (by omega) H locs h ls hl
    exact loop 4 0 (by omega) _ _ h _ hl
  refine r_ic K (nI 1) dX5_mostAlike_0 k_1 ?_
  refine r_is K hl 4 [_, _, _, _, _, _] dX5_mostAlike_1 (by decide) rfl (fun ls hl => ?_)
  have loop : ∀ (j k : Nat) (x5 : Option Value) (u : Nat → Row) (r : Row), k + j = 4 → (∀ i, i < k → r i = if β (i + 1) then nI (T (i + 1)) else -9) → ∀ (H : Heap) (locs : List Loc), Hp g A s H locs (lvB g b wa (pn) (pk) (sc) (fk) (sa) (sb) (sr) (r) ++ WS g wa (setV V 1 u)) → ∀ ls, Lq ls 6 [some (.ref (b 0)), some (.int (nI (mskK β 4))), some (.int (nI ka)), some (.int (nI kb)), some (.int (nI (k + 1))), x5] → W p0 l e R s m args below meth c H locs 0 0 Q (F0 m 3 ls []) := by
    intro j
    induction j with
    | zero =>
      intro k x5 u r hk hrk H locs h ls hl
      obtain rfl : k = 4 := by omega
      refine r_il K hl 4 dX5_mostAlike_3 rfl ?_
      refine r_ic K (nI 4) dX5_mostAlike_5 k_4 ?_
      refine r_cgtN K 46 dX5_mostAlike_6 (by decide) (by omega) (by omega) (fun c6 => ?_) (fun c => absurd c (by omega))
      exact JC _ _ u r hrk H locs h ls hl
    | succ j ih =>
      intro k x5 u0 r hk hrk H locs h ls hl
      refine r_il K hl 4 dX5_mostAlike_3 rfl ?_
      refine r_ic K (nI 4) dX5_mostAlike_5 k_4 ?_
      refine r_cgtN K 46 dX5_mostAlike_6 (by decide) (by omega) (by omega) (fun c => absurd c (by omega)) (fun c6 => ?_)
      refine r_aln K hl 0 dX5_mostAlike_9 rfl rfl ?_
      refine r_get K h ffX5_40 0 rfl rfl dX5_mostAlike_10 ?_
      refine r_il K hl 4 dX5_mostAlike_13 rfl ?_
      refine r_ic K (nI 1) dX5_mostAlike_15 k_1 ?_
      refine r_subN K (by omega) dX5_mostAlike_16 ?_
      refine r_iln K hl 1 dX5_mostAlike_17 rfl rfl ?_
      refine r_il K hl 4 dX5_mostAlike_18 rfl ?_
      refine r_callS K h hl (c_X5_isIn l g β k (by omega)) mc_X5_isIn st_X5_isIn mlX5_207 [] (by decide +kernel) rfl rfl (_ :: _ :: _ :: _ :: _ :: _ :: _ :: _ :: _) rfl (by decide) (by decide) rfl rfl (Nat.le_of_ble_eq_true rfl) ⟨Nat.zero_le _, Nat.zero_le _⟩ dX5_mostAlike_20 (fun H locs h => ?_)
      refine W.eq (g2 := F0 m 23 ls [_, _, _]) rfl ?_
      refine r_zeqB K 37 dX5_mostAlike_23 (by decide) (fun c23 => ?_) (fun c23 => ?_)
      · refine r_bp K (-9) dX5_mostAlike_37 kb_m9 ?_
        refine r_ias K h 7 (_ :: _ :: _ :: _ :: _ :: _ :: _ :: _ :: _) rfl (by omega) (by decide) rfl dX5_mostAlike_39 (fun H locs h => ?_)
        refine r_incN K hl (k := 1) [_, _, _, _, _, _] dX5_mostAlike_40 rfl (by decide) rfl (fun ls hl => ?_)
        refine r_go K 3 dX5_mostAlike_43 (by decide) ?_
        refine ih (k + 1) _ u0 _ (by omega) (fun i hi => ?_) H locs h ls hl
        rw [show k + 1 - 1 = k by omega]
        rcases (by omega : i = k ∨ i < k) with rfl | hlt
        · rw [upd_self, c23]; rfl
        · rw [upd_ne (by omega)]; exact hrk i hlt
      · refine r_aln K hl 0 dX5_mostAlike_26 rfl rfl ?_
        refine r_il K hl 4 dX5_mostAlike_27 rfl ?_
        refine r_iln K hl 2 dX5_mostAlike_29 rfl rfl ?_
        refine r_iln K hl 3 dX5_mostAlike_30 rfl rfl ?_
        refine r_callVWE K h hl (c_X5_readsOfTrial l g b wa fk sa sb sr (r) (setV V 1 u0) f n mv ph wr t hR pn pk (sc) (k + 1) (ka) (kb) (by omega) (by omega) ha1 ha hb1 hb) mc_X5_readsOfTrial vm_X5_readsOfTrial mlX5_163 0 rfl rfl rfl (fun _ => lv_fst rfl) (by decide) (by decide) rfl rfl (Nat.le_of_ble_eq_true rfl) ⟨Nat.zero_le _, Nat.zero_le _⟩ dX5_mostAlike_31 (fun u H locs h => ?_)
        refine W.eq (g2 := F0 m 34 ls [_, _, _]) rfl ?_
        try dsimp only at h
        rw [setV_setV] at h
        rw [hTx]
        refine r_go K 39 dX5_mostAlike_34 (by decide) ?_
        refine r_ias K h 7 (_ :: _ :: _ :: _ :: _ :: _ :: _ :: _ :: _) rfl (by omega) (by decide) rfl dX5_mostAlike_39 (fun H locs h => ?_)
        refine r_incN K hl (k := 1) [_, _, _, _, _, _] dX5_mostAlike_40 rfl (by decide) rfl (fun ls hl => ?_)
        refine r_go K 3 dX5_mostAlike_43 (by decide) ?_
        refine ih (k + 1) _ u _ (by omega) (fun i hi => ?_) H locs h ls hl
        rw [show k + 1 - 1 = k by omega]
        rcases (by omega : i = k ∨ i < k) with rfl | hlt
        · rw [upd_self, c23]; rfl
        · rw [upd_ne (by omega)]; exact hrk i hlt
  exact loop 4 0 _ (V 1) rb (by omega) (fun i hi => absurd hi (by omega)) _ _ h _ hl

set_option maxHeartbeats 4000000 in
set_option maxRecDepth 100000 in
theorem c_X5_ask_none (l : Launch) (g : GG) (b : Nat → Nat) (wa : Nat → Nat → Nat) (fk sa sb sr rb : Row) (V : Nat → Nat → Row) (f : Row) (n mv ph wr t : Nat) (hR : Rel (V 0) f n mv ph wr t) (pn pk : Int32) (q : Nat) (hq : q ≤ 6) (ta tb : Nat → Nat) (hsw : ∀ i, i < q → sa i = nI (ta i) ∧ sb i = nI (tb i) ∧ 1 ≤ ta i ∧ ta i ≤ 4 ∧ 1 ≤ tb i ∧ tb i ≤ 4) (hb : Nat.land (mskK (fun mv => fitK n (f 2) ta tb sr mv q) 4) (mskK (fun mv => fitK n (f 2) ta tb sr mv q) 4 - 1) = 0) : CtE l g yX5_ask cX5_ask 7 (some .int) 7 [.ref (b 0)] (lvB g b wa (pn) (pk) (nI q) (fk) (sa) (sb) (sr) (rb) ++ WS g wa (V)) (some (.int (-9))) (fun u : (Nat → Row) × Row => (lvB g b wa (pn) (pk) (nI q) (fk) (sa) (sb) (sr) (u.2) ++ WS g wa (setV V 1 u.1))) := by
  obtain ⟨hn2, hn, hm1, hm, hph, hwr⟩ := hR.1.1
  refine CtE.start (by decide +kernel) (Nat.le_of_ble_eq_true rfl) (by simp [Value.category]) (Or.inr ⟨.int, _, rfl, rfl, rfl⟩) ?_
  intro p0 e R s m args below meth c A Q K hr h ls hl
  have hl : Lq ls 7 [some (.ref (b 0)), none, none, none, none, none, none] := hl
  have m16 : mskK (fun mv => fitK n (f 2) ta tb sr mv q) 4 < 16 := mskK_lt _ 4
  have hbc := (bc_1 _ m16).mpr hb
  refine r_aln K hl 0 dX5_ask_0 rfl rfl ?_
  refine r_callVWE K h hl (c_X5_movesThatFit l g b wa fk sa sb sr rb V f n mv ph wr t hR pn pk q hq ta tb hsw) mc_X5_movesThatFit vm_X5_movesThatFit mlX5_166 0 rfl rfl rfl (fun _ => lv_fst rfl) (by decide) (by decide) rfl rfl (Nat.le_of_ble_eq_true rfl) ⟨Nat.zero_le _, Nat.zero_le _⟩ dX5_ask_1 (fun u H locs h => ?_)
  refine W.eq (g2 := F0 m 4 ls [_]) rfl ?_
  refine r_isn K hl 1 [_, _, _, _, _, _, _] dX5_ask_4 rfl (by decide) rfl (fun ls hl => ?_)
  refine r_iln K hl 1 dX5_ask_5 rfl rfl ?_
  refine r_callS K h hl (c_bitCount l g (mskK (fun mv => fitK n (f 2) ta tb sr mv q) 4) m16) mc_J6_bitCount_0f7a4 st_J6_bitCount_0f7a4 mlX5_170 [] (by decide +kernel) rfl rfl (_ :: _ :: _ :: _ :: _ :: _ :: _ :: _ :: _) rfl (by decide) (by decide) rfl rfl (Nat.le_of_ble_eq_true rfl) ⟨Nat.zero_le _, Nat.zero_le _⟩ dX5_ask_6 (fun H locs h => ?_)
  refine W.eq (g2 := F0 m 9 ls [_]) rfl ?_
  refine r_ic K (nI 1) dX5_ask_9 k_1 ?_
  refine r_cgtN K 16 dX5_ask_10 (by decide) (by omega) (by omega) (fun c => absurd c (by omega)) (fun c10 => ?_)
  refine r_bp K (-9) dX5_ask_13 kb_m9 ?_
  exact hr.1 (u, rb) _ _ _ _ _ dX5_ask_15 h rfl

set_option maxHeartbeats 4000000 in
set_option maxRecDepth 100000 in
theorem c_X5_ask_ok (l : Launch) (g : GG) (b : Nat → Nat) (wa : Nat → Nat → Nat) (fk sa sb sr rb : Row) (V : Nat → Nat → Row) (f : Row) (n mv ph wr t : Nat) (hR : Rel (V 0) f n mv ph wr t) (pn pk : Int32) (q : Nat) (hq : q ≤ 6) (ta tb : Nat → Nat) (hsw : ∀ i, i < q → sa i = nI (ta i) ∧ sb i = nI (tb i) ∧ 1 ≤ ta i ∧ ta i ≤ 4 ∧ 1 ≤ tb i ∧ tb i ≤ 4) (hb : ¬ Nat.land (mskK (fun mv => fitK n (f 2) ta tb sr mv q) 4) (mskK (fun mv => fitK n (f 2) ta tb sr mv q) 4 - 1) = 0) : CtE l g yX5_ask cX5_ask 7 (some .int) 7 [.ref (b 0)] (lvB g b wa (pn) (pk) (nI q) (fk) (sa) (sb) (sr) (rb) ++ WS g wa (V)) (some (.int (askA (fun ka kb => alM (fun mv => fitK n (f 2) ta tb sr mv q) (fun mv => trN n mv (f 2) ka kb) 4) 4).1)) (fun u : (Nat → Row) × Row => (lvB g b wa (pn) (pk) (nI q) (fk) (sa) (sb) (sr) (u.2) ++ WS g wa (setV V 1 u.1))) := by
  obtain ⟨hn2, hn, hm1, hm, hph, hwr⟩ := hR.1.1
  refine CtE.start (by decide +kernel) (Nat.le_of_ble_eq_true rfl) (by simp [Value.category]) (Or.inr ⟨.int, _, rfl, rfl, rfl⟩) ?_
  intro p0 e R s m args below meth c A Q K hr h ls hl
  have hl : Lq ls 7 [some (.ref (b 0)), none, none, none, none, none, none] := hl
  have m16 : mskK (fun mv => fitK n (f 2) ta tb sr mv q) 4 < 16 := mskK_lt _ 4
  have hbc : ¬ bcN (mskK (fun mv => fitK n (f 2) ta tb sr mv q) 4) ≤ 1 := fun z => hb ((bc_1 _ m16).mp z)
  have hbb : bcN (mskK (fun mv => fitK n (f 2) ta tb sr mv q) 4) ≤ 4 := by unfold bcN; omega
  generalize hal : (fun ka kb => alM (fun mv => fitK n (f 2) ta tb sr mv q) (fun mv => trN n mv (f 2) ka kb) 4) = al at hr
  have hal4 : ∀ a b, al a b ≤ 4 := fun a b => by rw [← hal]; exact alM_le _ _ 4
  refine r_aln K hl 0 dX5_ask_0 rfl rfl ?_
  refine r_callVWE K h hl (c_X5_movesThatFit l g b wa fk sa sb sr rb V f n mv ph wr t hR pn pk q hq ta tb hsw) mc_X5_movesThatFit vm_X5_movesThatFit mlX5_166 0 rfl rfl rfl (fun _ => lv_fst rfl) (by decide) (by decide) rfl rfl (Nat.le_of_ble_eq_true rfl) ⟨Nat.zero_le _, Nat.zero_le _⟩ dX5_ask_1 (fun u H locs h => ?_)
  refine W.eq (g2 := F0 m 4 ls [_]) rfl ?_
  refine r_isn K hl 1 [_, _, _, _, _, _, _] dX5_ask_4 rfl (by decide) rfl (fun ls hl => ?_)
  refine r_iln K hl 1 dX5_ask_5 rfl rfl ?_
  refine r_callS K h hl (c_bitCount l g (mskK (fun mv => fitK n (f 2) ta tb sr mv q) 4) m16) mc_J6_bitCount_0f7a4 st_J6_bitCount_0f7a4 mlX5_170 [] (by decide +kernel) rfl rfl (_ :: _ :: _ :: _ :: _ :: _ :: _ :: _ :: _) rfl (by decide) (by decide) rfl rfl (Nat.le_of_ble_eq_true rfl) ⟨Nat.zero_le _, Nat.zero_le _⟩ dX5_ask_6 (fun H locs h => ?_)
  refine W.eq (g2 := F0 m 9 ls [_]) rfl ?_
  refine r_ic K (nI 1) dX5_ask_9 k_1 ?_
  refine r_cgtN K 16 dX5_ask_10 (by decide) (by omega) (by omega) (fun c10 => ?_) (fun c => absurd c (by omega))
  refine r_bp K (-9) dX5_ask_16 kb_m9 ?_
  refine r_isn K hl 2 [_, _, _, _, _, _, _] dX5_ask_18 rfl (by decide) rfl (fun ls hl => ?_)
  refine r_ic K (nI 5) dX5_ask_19 k_5 ?_
  refine r_isn K hl 3 [_, _, _, _, _, _, _] dX5_ask_20 rfl (by decide) rfl (fun ls hl => ?_)
  refine r_ic K (nI 1) dX5_ask_21 k_1 ?_
  refine r_is K hl 4 [_, _, _, _, _, _, _] dX5_ask_22 (by decide) rfl (fun ls hl => ?_)
  have loop : ∀ (j k : Nat) (y z : Option Value) (u0 : Nat → Row) (v : Row), k + j = 4 → ∀ (H : Heap) (locs : List Loc), Hp g A s H locs (lvB g b wa (pn) (pk) (nI q) (fk) (sa) (sb) (sr) (v) ++ WS g wa (setV V 1 u0)) → ∀ ls, Lq ls 7 [some (.ref (b 0)), some (.int (nI (mskK (fun mv => fitK n (f 2) ta tb sr mv q) 4))), some (.int (askA al k).1), some (.int (nI (askA al k).2)), some (.int (nI (k + 1))), y, z] → W p0 l e R s m args below meth c H locs 0 0 Q (F0 m 24 ls []) := by
    intro j
    induction j with
    | zero =>
      intro k y z u0 v hk H locs h ls hl
      obtain rfl : k = 4 := by omega
      refine r_il K hl 4 dX5_ask_24 rfl ?_
      refine r_ic K (nI 4) dX5_ask_26 k_4 ?_
      refine r_cgtN K 80 dX5_ask_27 (by decide) (by omega) (by omega) (fun c27 => ?_) (fun c => absurd c (by omega))
      refine r_iln K hl 2 dX5_ask_80 rfl rfl ?_
      exact hr.1 (u0, v) _ _ _ _ _ dX5_ask_81 h rfl
    | succ j ih =>
      intro k y z u0 v hk H locs h ls hl
      refine r_il K hl 4 dX5_ask_24 rfl ?_
      refine r_ic K (nI 4) dX5_ask_26 k_4 ?_
      refine r_cgtN K 80 dX5_ask_27 (by decide) (by omega) (by omega) (fun c => absurd c (by omega)) (fun c27 => ?_)
      refine r_ic K (nI 1) dX5_ask_30 k_1 ?_
      refine r_is K hl 5 [_, _, _, _, _, _, _] dX5_ask_31 (by decide) rfl (fun ls hl => ?_)
      have loop2 : ∀ (j2 k2 : Nat) (z : Option Value) (u0 : Nat → Row) (v : Row), k2 + j2 = 4 → ∀ (H : Heap) (locs : List Loc), Hp g A s H locs (lvB g b wa (pn) (pk) (nI q) (fk) (sa) (sb) (sr) (v) ++ WS g wa (setV V 1 u0)) → ∀ ls, Lq ls 7 [some (.ref (b 0)), some (.int (nI (mskK (fun mv => fitK n (f 2) ta tb sr mv q) 4))), some (.int (askB al (k + 1) k2 (askA al k)).1), some (.int (nI (askB al (k + 1) k2 (askA al k)).2)), some (.int (nI (k + 1))), some (.int (nI (k2 + 1))), z] → W p0 l e R s m args below meth c H locs 0 0 Q (F0 m 33 ls []) := by
        intro j2
        induction j2 with
        | zero =>
          intro k2 z u0 v hk2 H locs h ls hl
          obtain rfl : k2 = 4 := by omega
          refine r_il K hl 5 dX5_ask_33 rfl ?_
          refine r_ic K (nI 4) dX5_ask_35 k_4 ?_
          refine r_cgtN K 74 dX5_ask_36 (by decide) (by omega) (by omega) (fun c36 => ?_) (fun c => absurd c (by omega))
          refine r_incN K hl (k := 1) [_, _, _, _, _, _, _] dX5_ask_74 rfl (by decide) rfl (fun ls hl => ?_)
          refine r_go K 24 dX5_ask_77 (by decide) ?_
          exact ih (k + 1) _ _ _ _ (by omega) _ _ h _ hl
        | succ j2 ih2 =>
          intro k2 z u0 v hk2 H locs h ls hl
          refine r_il K hl 5 dX5_ask_33 rfl ?_
          refine r_ic K (nI 4) dX5_ask_35 k_4 ?_
          refine r_cgtN K 74 dX5_ask_36 (by decide) (by omega) (by omega) (fun c => absurd c (by omega)) (fun c36 => ?_)
          refine r_aln K hl 0 dX5_ask_39 rfl rfl ?_
          refine r_iln K hl 1 dX5_ask_40 rfl rfl ?_
          refine r_il K hl 4 dX5_ask_41 rfl ?_
          refine r_il K hl 5 dX5_ask_43 rfl ?_
          refine r_callVWE K h hl (c_X5_mostAlike l g b wa fk sa sb sr v (setV V 1 u0) f n mv ph wr t hR pn pk (nI q) (k + 1) (k2 + 1) (fun mv => fitK n (f 2) ta tb sr mv q) (by omega) (by omega) (by omega) (by omega)) mc_X5_mostAlike vm_X5_mostAlike mlX5_175 0 rfl rfl rfl (fun _ => lv_fst rfl) (by decide) (by decide) rfl rfl (Nat.le_of_ble_eq_true rfl) ⟨Nat.zero_le _, Nat.zero_le _⟩ dX5_ask_45 (fun u H locs h => ?_)
          refine W.eq (g2 := F0 m 48 ls [_]) rfl ?_
          try dsimp only at h
          rw [setV_setV] at h
          rw [show alM (fun mv => fitK n (f 2) ta tb sr mv q) (fun mv => trN n mv (f 2) (k + 1) (k2 + 1)) 4 = al (k + 1) (k2 + 1) by rw [← hal]]
          have b1 := hal4 (k + 1) (k2 + 1)
          have b2 := askB_le (al := al) (a := k + 1) hal4 k2 _ (askA_le hal4 k)
          refine r_is K hl 6 [_, _, _, _, _, _, _] dX5_ask_48 (by decide) rfl (fun ls hl => ?_)
          refine r_il K hl 6 dX5_ask_50 rfl ?_
          refine r_iln K hl 3 dX5_ask_52 rfl rfl ?_
          refine r_cgeN K 68 dX5_ask_53 (by decide) (by omega) (by omega) (fun c53 => ?_) (fun c53 => ?_)
          · refine r_incN K hl (k := 1) [_, _, _, _, _, _, _] dX5_ask_68 rfl (by decide) rfl (fun ls hl => ?_)
            refine r_go K 33 dX5_ask_71 (by decide) ?_
            have e : askB al (k + 1) (k2 + 1) (askA al k) = askB al (k + 1) k2 (askA al k) := by rw [askB]; exact if_neg (by omega)
            exact ih2 (k2 + 1) _ _ _ (by omega) _ _ h _ (by rw [e]; exact hl)
          · refine r_il K hl 6 dX5_ask_56 rfl ?_
            refine r_isn K hl 3 [_, _, _, _, _, _, _] dX5_ask_58 rfl (by decide) rfl (fun ls hl => ?_)
            refine r_bp K (nI 10) dX5_ask_59 kb_10 ?_
            refine r_il K hl 4 dX5_ask_61 rfl ?_
            refine r_mulN K dX5_ask_63 ?_
            refine r_il K hl 5 dX5_ask_64 rfl ?_
            refine r_addN K dX5_ask_66 ?_
            refine r_isn K hl 2 [_, _, _, _, _, _, _] dX5_ask_67 rfl (by decide) rfl (fun ls hl => ?_)
            refine r_incN K hl (k := 1) [_, _, _, _, _, _, _] dX5_ask_68 rfl (by decide) rfl (fun ls hl => ?_)
            refine r_go K 33 dX5_ask_71 (by decide) ?_
            have e : askB al (k + 1) (k2 + 1) (askA al k) = (nI (10 * (k + 1) + (k2 + 1)), al (k + 1) (k2 + 1)) := by rw [askB]; exact if_pos c53
            exact ih2 (k2 + 1) _ _ _ (by omega) _ _ h _ (by rw [e]; exact hl)
      exact loop2 4 0 _ _ _ rfl _ _ h _ hl
  exact loop 4 0 none none _ _ rfl _ _ h _ hl

