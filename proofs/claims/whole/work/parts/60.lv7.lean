theorem rn_st (f : Row) (q : Nat) : stF (rnF f q) q 1 = rnF f (q + 1) ∧ rnC f q + stC (rnF f q) q 1 = rnC f (q + 1) := by
  rw [stF, stC, rnF, rnC]
  by_cases h : rnF f q (32 + 42 * q + 0) = 0
  · rw [if_pos h, if_pos h, if_pos h, if_pos h]; exact ⟨rfl, rfl⟩
  · rw [if_neg h, if_neg h, if_neg h, if_neg h]; exact ⟨rfl, rfl⟩
theorem anyA_id {X : Nat → Row} {f : Row} {n mv ph wr t : Nat} (h : Rel X f n mv ph wr t) : anyA f n = !decide (∀ i, i < n → X (6 + 8 * i) 0 = 0) := by
  have hn := h.1.1.2.1
  have e : ∀ i, i < n → X (6 + 8 * i) 0 = f (32 + 42 * i + 0) := fun i hi => (h.2.2.2.2.1 i (by omega)).1
  by_cases q : ∀ i, i < n → X (6 + 8 * i) 0 = 0
  · rw [decide_eq_true q, anyA_none n (fun p hp => by rw [← e p hp]; exact q p hp)]; rfl
  · rw [decide_eq_false q]
    cases hA : anyA f n with
    | true => rfl
    | false => exact absurd (fun i hi => by rw [e i hi]; exact anyA_no n hA i hi) q
set_option maxHeartbeats 4000000 in
set_option maxRecDepth 100000 in
theorem c_X5_byTurns_ok (l : Launch) (g : GG) (b : Nat → Nat) (wa : Nat → Nat → Nat) (fk sa sb sr rb : Row) (V : Nat → Nat → Row) (f : Row) (n mv ph wr t : Nat) (hR : Rel (V 0) f n mv ph wr t) (pn pk sc : Int32) (ht : t < 800000) : CtE l g yX5_byTurns cX5_byTurns 4 (some .int) 7 [.ref (b 0)] (lvB g b wa (pn) (pk) (sc) (fk) (sa) (sb) (sr) (rb) ++ WS g wa (V)) (some (.int (nI (btC f n 1000)))) (fun u : Nat → Row => (lvB g b wa (pn) (pk) (sc) (fk) (sa) (sb) (sr) (rb) ++ WS g wa (setV V 1 u))) := by
  obtain ⟨hn2, hn, hm1, hm, hph, hwr⟩ := hR.1.1
  refine CtE.start (by decide +kernel) (Nat.le_of_ble_eq_true rfl) (by simp [Value.category]) (Or.inr ⟨.int, _, rfl, rfl, rfl⟩) ?_
  intro p0 e R s m args below meth c A Q K hr h ls hl
  have hl : Lq ls 4 [some (.ref (b 0)), none, none, none] := hl
  refine r_aln K hl 0 dX5_byTurns_0 rfl rfl ?_
  refine r_get K h ffX5_16 0 rfl rfl dX5_byTurns_1 ?_
  refine r_aln K hl 0 dX5_byTurns_4 rfl rfl ?_
  refine r_get K h ffX5_10 0 rfl rfl dX5_byTurns_5 ?_
  refine r_callVW K h hl (wd2 1 0 (by omega) (by omega) (by omega) rfl rfl (c_X4_copyFrom l g (wa (1)) (wa (0)) (V 1) (V 0) ph wr hph hwr hR.2.2.1.2.2.2.2.2.1 hR.2.2.1.2.2.2.2.2.2 hR.hz) (lvB g b wa (pn) (pk) (sc) (fk) (sa) (sb) (sr) (rb))) mc_X4_copyFrom vm_X4_copyFrom mlX5_82 53 rfl rfl rfl (lv_fst rfl) _ rfl (by decide) (by decide) rfl rfl (Nat.le_of_ble_eq_true rfl) ⟨Nat.zero_le _, Nat.zero_le _⟩ dX5_byTurns_8 (fun H locs h => ?_)
  refine W.eq (g2 := F0 m 11 ls []) rfl ?_
  refine r_ic K (nI 0) dX5_byTurns_11 k_0 ?_
  refine r_isn K hl 1 [_, _, _, _] dX5_byTurns_12 rfl (by decide) rfl (fun ls hl => ?_)
  refine r_ic K (nI 0) dX5_byTurns_13 k_0 ?_
  refine r_isn K hl 2 [_, _, _, _] dX5_byTurns_14 rfl (by decide) rfl (fun ls hl => ?_)
  have loop : ∀ (j k i : Nat) (x : Option Value) (X : Nat → Row) (f1 : Row) (ph1 wr1 : Nat), k + j = 1000 → i ≤ 4 * k → Rel X f1 n mv ph1 wr1 (t + i) → i + btC f1 n j = btC f n 1000 → ∀ (H : Heap) (locs : List Loc), Hp g A s H locs (lvB g b wa (pn) (pk) (sc) (fk) (sa) (sb) (sr) (rb) ++ WS g wa (setV V 1 X)) → ∀ ls, Lq ls 4 [some (.ref (b 0)), some (.int (nI i)), some (.int (nI k)), x] → W p0 l e R s m args below meth c H locs 0 0 Q (F0 m 15 ls []) := by
    intro j
    induction j with
    | zero =>
      intro k i x X f1 ph1 wr1 hk hi hR1 hC H locs h ls hl
      refine r_iln K hl 2 dX5_byTurns_15 rfl rfl ?_
      refine r_sp K (nI 1000) dX5_byTurns_16 ks_1000 ?_
      refine r_cgeN K 69 dX5_byTurns_19 (by decide) (by omega) (by omega) (fun c19 => ?_) (fun c => absurd c (by omega))
      refine r_iln K hl 1 dX5_byTurns_69 rfl rfl ?_
      exact hr.1 X _ _ _ _ _ dX5_byTurns_70 h (by rw [← hC]; rfl)
    | succ j ih =>
      intro k i x X f1 ph1 wr1 hk hi hR1 hC H locs h ls hl
      have hA := anyA_id hR1
      refine r_iln K hl 2 dX5_byTurns_15 rfl rfl ?_
      refine r_sp K (nI 1000) dX5_byTurns_16 ks_1000 ?_
      refine r_cgeN K 69 dX5_byTurns_19 (by decide) (by omega) (by omega) (fun c => absurd c (by omega)) (fun c19 => ?_)
      refine r_aln K hl 0 dX5_byTurns_22 rfl rfl ?_
      refine r_get K h ffX5_16 0 rfl rfl dX5_byTurns_23 ?_
      refine r_callVW K h hl (wd0 1 (by omega) setV_eq (c_X4_allIdle l g (wa 1) X n hn hR1.2.2.1.1) (lvB g b wa (pn) (pk) (sc) (fk) (sa) (sb) (sr) (rb))) mc_X4_allIdle vm_X4_allIdle mlX5_144 53 rfl rfl rfl rfl _ rfl (by decide) (by decide) rfl rfl (Nat.le_of_ble_eq_true rfl) ⟨Nat.zero_le _, Nat.zero_le _⟩ dX5_byTurns_26 (fun H locs h => ?_)
      refine W.eq (g2 := F0 m 29 ls [_]) rfl ?_
      refine r_zneB K 69 dX5_byTurns_29 (by decide) (fun c29 => ?_) (fun c29 => ?_)
      · rw [c29] at hA
        rw [btC, hA] at hC
        refine r_iln K hl 1 dX5_byTurns_69 rfl rfl ?_
        exact hr.1 X _ _ _ _ _ dX5_byTurns_70 h (by rw [← hC]; rfl)
      · rw [c29, Bool.not_false] at hA
        rw [btC, hA, if_pos rfl] at hC
        refine r_ic K (nI 0) dX5_byTurns_32 k_0 ?_
        refine r_isn K hl 3 [_, _, _, _] dX5_byTurns_33 rfl (by decide) rfl (fun ls hl => ?_)
        have inner : ∀ (r q : Nat) (X1 : Nat → Row) (ph2 wr2 : Nat), q + r = n → Rel X1 (rnF f1 q) n mv ph2 wr2 (t + (i + rnC f1 q)) → ∀ (H : Heap) (locs : List Loc), Hp g A s H locs (lvB g b wa (pn) (pk) (sc) (fk) (sa) (sb) (sr) (rb) ++ WS g wa (setV V 1 X1)) → ∀ ls, Lq ls 4 [some (.ref (b 0)), some (.int (nI (i + rnC f1 q))), some (.int (nI k)), some (.int (nI q))] → W p0 l e R s m args below meth c H locs 0 0 Q (F0 m 34 ls []) := by
          intro r
          induction r with
          | zero =>
            intro q X1 ph2 wr2 hq hR2 H locs h ls hl
            obtain rfl : q = n := by omega
            have hb4 := rn_bound f1 q
            refine r_iln K hl 3 dX5_byTurns_34 rfl rfl ?_
            refine r_aln K hl 0 dX5_byTurns_35 rfl rfl ?_
            refine r_get K h ffX5_16 0 rfl rfl dX5_byTurns_36 ?_
            refine r_getE K h ffX5_147 53 rfl rfl (congrArg Value.int hR2.2.2.1.1) dX5_byTurns_39 ?_
            refine r_cgeN K 63 dX5_byTurns_42 (by decide) (by omega) (by omega) (fun c42 => ?_) (fun c => absurd c (by omega))
            refine r_incN K hl (k := 1) [_, _, _, _] dX5_byTurns_63 rfl (by decide) rfl (fun ls hl => ?_)
            refine r_go K 15 dX5_byTurns_66 (by decide) ?_
            exact ih (k + 1) (i + rnC f1 q) _ X1 (rnF f1 q) ph2 wr2 (by omega) (by omega) hR2 (by omega) H locs h ls hl
          | succ r ih2 =>
            intro q X1 ph2 wr2 hq hR2 H locs h ls hl
            have hb4 := rn_bound f1 q
            obtain ⟨hF1, hC1⟩ := rn_st f1 q
            refine r_iln K hl 3 dX5_byTurns_34 rfl rfl ?_
            refine r_aln K hl 0 dX5_byTurns_35 rfl rfl ?_
            refine r_get K h ffX5_16 0 rfl rfl dX5_byTurns_36 ?_
            refine r_getE K h ffX5_147 53 rfl rfl (congrArg Value.int hR2.2.2.1.1) dX5_byTurns_39 ?_
            refine r_cgeN K 63 dX5_byTurns_42 (by decide) (by omega) (by omega) (fun c => absurd c (by omega)) (fun c42 => ?_)
            refine r_iln K hl 1 dX5_byTurns_45 rfl rfl ?_
            refine r_aln K hl 0 dX5_byTurns_46 rfl rfl ?_
            refine r_get K h ffX5_16 0 rfl rfl dX5_byTurns_47 ?_
            refine r_iln K hl 3 dX5_byTurns_50 rfl rfl ?_
            refine r_ic K (nI 1) dX5_byTurns_51 k_1 ?_
            refine r_callVWE K h hl (wd1E 1 (by omega) setV_eq (c_X4_stepUpTo l g (wa 1) X1 (rnF f1 q) n mv ph2 wr2 (t + (i + rnC f1 q)) q 1 hR2 (by omega) (by omega)) (lvB g b wa (pn) (pk) (sc) (fk) (sa) (sb) (sr) (rb))) mc_X4_stepUpTo vm_X4_stepUpTo mlX5_72 53 rfl rfl rfl (fun _ => lv_fst rfl) (by decide) (by decide) rfl rfl (Nat.le_of_ble_eq_true rfl) ⟨Nat.zero_le _, Nat.zero_le _⟩ dX5_byTurns_52 (fun u H locs h => ?_)
            refine W.eq (g2 := F0 m 55 ls [_, _]) rfl ?_
            obtain ⟨X2, ph3, wr3, hR3⟩ := u
            dsimp only at h
            rw [setV_setV] at h
            refine r_addN K dX5_byTurns_55 ?_
            refine r_isn K hl 1 [_, _, _, _] dX5_byTurns_56 rfl (by decide) rfl (fun ls hl => ?_)
            refine r_incN K hl (k := 1) [_, _, _, _] dX5_byTurns_57 rfl (by decide) rfl (fun ls hl => ?_)
            refine r_go K 34 dX5_byTurns_60 (by decide) ?_
            rw [hF1, Nat.add_assoc t, Nat.add_assoc i, hC1] at hR3
            rw [Nat.add_assoc i, hC1] at hl
            exact ih2 (q + 1) X2 ph3 wr3 (by omega) hR3 H locs h ls hl
        exact inner n 0 X ph1 wr1 (by omega) hR1 H locs h ls hl
  exact loop 1000 0 0 _ (cCop (V 1) (V 0) ph wr) f ph wr (by omega) (by omega) (rel_cop hR) (by omega) _ _ h _ hl

