theorem setV_self {V : Nat → Nat → Row} {i : Nat} : setV V i (V i) = V := by
  funext k
  by_cases e : k = i
  · subst e; rw [setV_eq]
  · rw [setV_ne e]
def cAl (rb : Row) (x : Int32) : Nat → Nat
  | 0 => 0
  | k + 1 => cAl rb x k + (if rb k = x then 1 else 0)
set_option maxHeartbeats 4000000 in
set_option maxRecDepth 100000 in
theorem c_X5_trial_bad (l : Launch) (g : GG) (b : Nat → Nat) (wa : Nat → Nat → Nat) (fk sa sb sr rb : Row) (V : Nat → Nat → Row) (pn pk sc : Int32) (x y z : Int32) (hb : (inB x (nI 1) (nI 4) && (inB y (nI 1) (nI 4) && inB z (nI 1) (nI 4))) = false) : Ct l g yX5_trial cX5_trial 4 (some .int) 7 [.ref (b 0), .int x, .int y, .int z] (lvB g b wa (pn) (pk) (sc) (fk) (sa) (sb) (sr) (rb) ++ WS g wa (V)) (some (.int (-1))) (lvB g b wa (pn) (pk) (sc) (fk) (sa) (sb) (sr) (rb) ++ WS g wa (V)) := by
  refine Ct.start (by decide +kernel) (Nat.le_of_ble_eq_true rfl) (by simp [Value.category]) (Or.inr ⟨.int, _, rfl, rfl, rfl⟩) ?_
  intro p0 e R s m args below meth c A Q K hr h ls hl
  have hl : Lq ls 4 [some (.ref (b 0)), some (.int x), some (.int y), some (.int z)] := hl
  refine r_iln K hl 1 dX5_trial_0 rfl rfl ?_
  refine r_ic K (nI 1) dX5_trial_1 k_1 ?_
  refine r_ic K (nI 4) dX5_trial_2 k_4 ?_
  refine r_callS K h hl (c_X5_isWithin l g x (nI 1) (nI 4)) mc_X5_isWithin st_X5_isWithin mlX5_47 [] (by decide +kernel) rfl rfl (_ :: _ :: _ :: _ :: _ :: _ :: _ :: _ :: _) rfl (by decide) (by decide) rfl rfl (Nat.le_of_ble_eq_true rfl) ⟨Nat.zero_le _, Nat.zero_le _⟩ dX5_trial_3 (fun H locs h => ?_)
  refine W.eq (g2 := F0 m 6 ls [_]) rfl ?_
  refine r_zeqB K 23 dX5_trial_6 (by decide) (fun c6 => ?_) (fun c6 => ?_)
  · refine r_ic K (-1) dX5_trial_23 k_m1 ?_
    exact hr.1 _ _ _ _ _ dX5_trial_24 h rfl
  · refine r_iln K hl 2 dX5_trial_9 rfl rfl ?_
    refine r_callS K h hl (c_X5_isPace l g y) mc_X5_isPace st_X5_isPace mlX5_160 [] (by decide +kernel) rfl rfl (_ :: _ :: _ :: _ :: _ :: _ :: _ :: _ :: _) rfl (by decide) (by decide) rfl rfl (Nat.le_of_ble_eq_true rfl) ⟨Nat.zero_le _, Nat.zero_le _⟩ dX5_trial_10 (fun H locs h => ?_)
    refine W.eq (g2 := F0 m 13 ls [_]) rfl ?_
    refine r_zeqB K 23 dX5_trial_13 (by decide) (fun c13 => ?_) (fun c13 => ?_)
    · refine r_ic K (-1) dX5_trial_23 k_m1 ?_
      exact hr.1 _ _ _ _ _ dX5_trial_24 h rfl
    · refine r_iln K hl 3 dX5_trial_16 rfl rfl ?_
      refine r_callS K h hl (c_X5_isPace l g z) mc_X5_isPace st_X5_isPace mlX5_160 [] (by decide +kernel) rfl rfl (_ :: _ :: _ :: _ :: _ :: _ :: _ :: _ :: _) rfl (by decide) (by decide) rfl rfl (Nat.le_of_ble_eq_true rfl) ⟨Nat.zero_le _, Nat.zero_le _⟩ dX5_trial_17 (fun H locs h => ?_)
      refine W.eq (g2 := F0 m 20 ls [_]) rfl ?_
      refine r_zneB K 25 dX5_trial_20 (by decide) (fun c => absurd (((show inB z (nI 1) (nI 4) = false by rw [c6, c13, Bool.true_and, Bool.true_and] at hb; exact hb)).symm.trans c) (by decide)) (fun _ => ?_)
      refine r_ic K (-1) dX5_trial_23 k_m1 ?_
      exact hr.1 _ _ _ _ _ dX5_trial_24 h rfl

set_option maxHeartbeats 4000000 in
set_option maxRecDepth 100000 in
theorem c_X5_trial_ok (l : Launch) (g : GG) (b : Nat → Nat) (wa : Nat → Nat → Nat) (fk sa sb sr rb : Row) (V : Nat → Nat → Row) (f : Row) (n mv ph wr t : Nat) (hR : Rel (V 0) f n mv ph wr t) (pn pk sc : Int32) (mv2 ka kb : Nat) (hmv1 : 1 ≤ mv2) (hmv : mv2 ≤ 4) (ha1 : 1 ≤ ka) (ha : ka ≤ 4) (hb1 : 1 ≤ kb) (hb : kb ≤ 4) : CtE l g yX5_trial cX5_trial 4 (some .int) 7 [.ref (b 0), .int (nI mv2), .int (nI ka), .int (nI kb)] (lvB g b wa (pn) (pk) (sc) (fk) (sa) (sb) (sr) (rb) ++ WS g wa (V)) (some (.int (nI (trN n mv2 (f 2) ka kb)))) (fun u : Nat → Row => (lvB g b wa (pn) (pk) (sc) (fk) (sa) (sb) (sr) (rb) ++ WS g wa (setV V 1 u))) := by
  obtain ⟨hn2, hn, hm1, hm, hph, hwr⟩ := hR.1.1
  refine CtE.start (by decide +kernel) (Nat.le_of_ble_eq_true rfl) (by simp [Value.category]) (Or.inr ⟨.int, _, rfl, rfl, rfl⟩) ?_
  intro p0 e R s m args below meth c A Q K hr h ls hl
  have hl : Lq ls 4 [some (.ref (b 0)), some (.int (nI mv2)), some (.int (nI ka)), some (.int (nI kb))] := hl
  refine r_iln K hl 1 dX5_trial_0 rfl rfl ?_
  refine r_ic K (nI 1) dX5_trial_1 k_1 ?_
  refine r_ic K (nI 4) dX5_trial_2 k_4 ?_
  refine r_callS K h hl (c_X5_isWithin l g (nI mv2) (nI 1) (nI 4)) mc_X5_isWithin st_X5_isWithin mlX5_47 [] (by decide +kernel) rfl rfl (_ :: _ :: _ :: _ :: _ :: _ :: _ :: _ :: _) rfl (by decide) (by decide) rfl rfl (Nat.le_of_ble_eq_true rfl) ⟨Nat.zero_le _, Nat.zero_le _⟩ dX5_trial_3 (fun H locs h => ?_)
  refine W.eq (g2 := F0 m 6 ls [_]) rfl ?_
  refine r_zeqB K 23 dX5_trial_6 (by decide) (fun c => absurd (((inB_of hmv1 hmv (by omega))).symm.trans c) (by decide)) (fun _ => ?_)
  refine r_iln K hl 2 dX5_trial_9 rfl rfl ?_
  refine r_callS K h hl (c_X5_isPace l g (nI ka)) mc_X5_isPace st_X5_isPace mlX5_160 [] (by decide +kernel) rfl rfl (_ :: _ :: _ :: _ :: _ :: _ :: _ :: _ :: _) rfl (by decide) (by decide) rfl rfl (Nat.le_of_ble_eq_true rfl) ⟨Nat.zero_le _, Nat.zero_le _⟩ dX5_trial_10 (fun H locs h => ?_)
  refine W.eq (g2 := F0 m 13 ls [_]) rfl ?_
  refine r_zeqB K 23 dX5_trial_13 (by decide) (fun c => absurd (((inB_of ha1 ha (by omega))).symm.trans c) (by decide)) (fun _ => ?_)
  refine r_iln K hl 3 dX5_trial_16 rfl rfl ?_
  refine r_callS K h hl (c_X5_isPace l g (nI kb)) mc_X5_isPace st_X5_isPace mlX5_160 [] (by decide +kernel) rfl rfl (_ :: _ :: _ :: _ :: _ :: _ :: _ :: _ :: _) rfl (by decide) (by decide) rfl rfl (Nat.le_of_ble_eq_true rfl) ⟨Nat.zero_le _, Nat.zero_le _⟩ dX5_trial_17 (fun H locs h => ?_)
  refine W.eq (g2 := F0 m 20 ls [_]) rfl ?_
  refine r_zneB K 25 dX5_trial_20 (by decide) (fun _ => ?_) (fun c => absurd (((inB_of hb1 hb (by omega))).symm.trans c) (by decide))
  refine r_aln K hl 0 dX5_trial_25 rfl rfl ?_
  refine r_iln K hl 1 dX5_trial_26 rfl rfl ?_
  refine r_iln K hl 2 dX5_trial_27 rfl rfl ?_
  refine r_iln K hl 3 dX5_trial_28 rfl rfl ?_
  refine r_callVWE K h hl (c_X5_readsOfTrial l g b wa fk sa sb sr (rb) (V) f n mv ph wr t hR pn pk (sc) (mv2) (ka) (kb) hmv1 hmv ha1 ha hb1 hb) mc_X5_readsOfTrial vm_X5_readsOfTrial mlX5_163 0 rfl rfl rfl (fun _ => lv_fst rfl) (by decide) (by decide) rfl rfl (Nat.le_of_ble_eq_true rfl) ⟨Nat.zero_le _, Nat.zero_le _⟩ dX5_trial_29 (fun u H locs h => ?_)
  refine W.eq (g2 := F0 m 32 ls [_]) rfl ?_
  exact hr.1 u _ _ _ _ _ dX5_trial_32 h rfl

set_option maxHeartbeats 4000000 in
set_option maxRecDepth 100000 in
theorem c_X5_fitsAllSeen (l : Launch) (g : GG) (b : Nat → Nat) (wa : Nat → Nat → Nat) (fk sa sb sr rb : Row) (V : Nat → Nat → Row) (f : Row) (n mv ph wr t : Nat) (hR : Rel (V 0) f n mv ph wr t) (pn pk : Int32) (q : Nat) (hq : q ≤ 6) (ta tb : Nat → Nat) (hsw : ∀ i, i < q → sa i = nI (ta i) ∧ sb i = nI (tb i) ∧ 1 ≤ ta i ∧ ta i ≤ 4 ∧ 1 ≤ tb i ∧ tb i ≤ 4) (mv2 : Nat) (hmv1 : 1 ≤ mv2) (hmv : mv2 ≤ 4) : CtE l g yX5_fitsAllSeen cX5_fitsAllSeen 3 (some .boolean) 5 [.ref (b 0), .int (nI mv2)] (lvB g b wa (pn) (pk) (nI q) (fk) (sa) (sb) (sr) (rb) ++ WS g wa (V)) (some (.int (bI (fitK n (f 2) ta tb sr mv2 q)))) (fun u : Nat → Row => (lvB g b wa (pn) (pk) (nI q) (fk) (sa) (sb) (sr) (rb) ++ WS g wa (setV V 1 u))) := by
  obtain ⟨hn2, hn, hm1, hm, hph, hwr⟩ := hR.1.1
  refine CtE.start (by decide +kernel) (Nat.le_of_ble_eq_true rfl) (by simp [Value.category]) (Or.inr ⟨.boolean, _, rfl, rfl, narB _⟩) ?_
  intro p0 e R s m args below meth c A Q K hr h ls hl
  have hl : Lq ls 3 [some (.ref (b 0)), some (.int (nI mv2)), none] := hl
  have h := h.to (show _ = (lvB g b wa (pn) (pk) (nI q) (fk) (sa) (sb) (sr) (rb) ++ WS g wa (setV V 1 (V 1))) by rw [setV_self])
  refine r_ic K (nI 0) dX5_fitsAllSeen_0 k_0 ?_
  refine r_isn K hl 2 [_, _, _] dX5_fitsAllSeen_1 rfl (by decide) rfl (fun ls hl => ?_)
  have loop : ∀ (j k : Nat) (u : Nat → Row), k + j = q → fitK n (f 2) ta tb sr mv2 k = true → ∀ (H : Heap) (locs : List Loc), Hp g A s H locs (lvB g b wa (pn) (pk) (nI q) (fk) (sa) (sb) (sr) (rb) ++ WS g wa (setV V 1 u)) → ∀ ls, Lq ls 3 [some (.ref (b 0)), some (.int (nI mv2)), some (.int (nI k))] → W p0 l e R s m args below meth c H locs 0 0 Q (F0 m 2 ls []) := by
    intro j
    induction j with
    | zero =>
      intro k u hk hf H locs h ls hl
      obtain rfl : k = q := by omega
      refine r_iln K hl 2 dX5_fitsAllSeen_2 rfl rfl ?_
      refine r_aln K hl 0 dX5_fitsAllSeen_3 rfl rfl ?_
      refine r_get K h ffX5_58 0 rfl rfl dX5_fitsAllSeen_4 ?_
      refine r_cgeN K 44 dX5_fitsAllSeen_7 (by decide) (by omega) (by omega) (fun c7 => ?_) (fun c => absurd c (by omega))
      refine r_ic K (nI 1) dX5_fitsAllSeen_44 k_1 ?_
      exact hr.1 u _ _ _ _ _ dX5_fitsAllSeen_45 h (by rw [hf]; rfl)
    | succ j ih =>
      intro k u0 hk hf H locs h ls hl
      obtain ⟨w1, w2, w3, w4, w5, w6⟩ := hsw k (by omega)
      refine r_iln K hl 2 dX5_fitsAllSeen_2 rfl rfl ?_
      refine r_aln K hl 0 dX5_fitsAllSeen_3 rfl rfl ?_
      refine r_get K h ffX5_58 0 rfl rfl dX5_fitsAllSeen_4 ?_
      refine r_cgeN K 44 dX5_fitsAllSeen_7 (by decide) (by omega) (by omega) (fun c => absurd c (by omega)) (fun c7 => ?_)
      refine r_aln K hl 0 dX5_fitsAllSeen_10 rfl rfl ?_
      refine r_iln K hl 1 dX5_fitsAllSeen_11 rfl rfl ?_
      refine r_aln K hl 0 dX5_fitsAllSeen_12 rfl rfl ?_
      refine r_get K h ffX5_30 0 rfl rfl dX5_fitsAllSeen_13 ?_
      refine r_iln K hl 2 dX5_fitsAllSeen_16 rfl rfl ?_
      refine r_ialE K h 4 rfl (by omega) (by decide) w1 dX5_fitsAllSeen_17 ?_
      refine r_aln K hl 0 dX5_fitsAllSeen_18 rfl rfl ?_
      refine r_get K h ffX5_34 0 rfl rfl dX5_fitsAllSeen_19 ?_
      refine r_iln K hl 2 dX5_fitsAllSeen_22 rfl rfl ?_
      refine r_ialE K h 5 rfl (by omega) (by decide) w2 dX5_fitsAllSeen_23 ?_
      refine r_callVWE K h hl (c_X5_readsOfTrial l g b wa fk sa sb sr (rb) (setV V 1 u0) f n mv ph wr t hR pn pk (nI q) (mv2) (ta k) (tb k) hmv1 hmv w3 w4 w5 w6) mc_X5_readsOfTrial vm_X5_readsOfTrial mlX5_163 0 rfl rfl rfl (fun _ => lv_fst rfl) (by decide) (by decide) rfl rfl (Nat.le_of_ble_eq_true rfl) ⟨Nat.zero_le _, Nat.zero_le _⟩ dX5_fitsAllSeen_24 (fun u H locs h => ?_)
      refine W.eq (g2 := F0 m 27 ls [_]) rfl ?_
      try dsimp only at h
      rw [setV_setV] at h
      refine r_aln K hl 0 dX5_fitsAllSeen_27 rfl rfl ?_
      refine r_get K h ffX5_37 0 rfl rfl dX5_fitsAllSeen_28 ?_
      refine r_iln K hl 2 dX5_fitsAllSeen_31 rfl rfl ?_
      refine r_ial K h 6 rfl (by omega) (by decide) dX5_fitsAllSeen_32 ?_
      refine r_ceq K 38 dX5_fitsAllSeen_33 (by decide) (fun c33 => ?_) (fun c33 => ?_)
      · refine r_incN K hl (k := 1) [_, _, _] dX5_fitsAllSeen_38 rfl (by decide) rfl (fun ls hl => ?_)
        refine r_go K 2 dX5_fitsAllSeen_41 (by decide) ?_
        exact ih (k + 1) u (by omega) (by rw [fitK, hf, decide_eq_true c33]; rfl) H locs h ls hl
      · refine r_ic K (nI 0) dX5_fitsAllSeen_36 k_0 ?_
        have hno : fitK n (f 2) ta tb sr mv2 (k + 1) = false := by rw [fitK, decide_eq_false c33, Bool.and_false]
        have hno2 := fitK_no j (k + 1) hno
        rw [show k + 1 + j = q by omega] at hno2
        exact hr.1 u _ _ _ _ _ dX5_fitsAllSeen_37 h (by rw [hno2]; rfl)
  exact loop q 0 (V 1) (by omega) rfl _ _ h _ hl

set_option maxHeartbeats 4000000 in
set_option maxRecDepth 100000 in
theorem c_X5_movesThatFit (l : Launch) (g : GG) (b : Nat → Nat) (wa : Nat → Nat → Nat) (fk sa sb sr rb : Row) (V : Nat → Nat → Row) (f : Row) (n mv ph wr t : Nat) (hR : Rel (V 0) f n mv ph wr t) (pn pk : Int32) (q : Nat) (hq : q ≤ 6) (ta tb : Nat → Nat) (hsw : ∀ i, i < q → sa i = nI (ta i) ∧ sb i = nI (tb i) ∧ 1 ≤ ta i ∧ ta i ≤ 4 ∧ 1 ≤ tb i ∧ tb i ≤ 4) : CtE l g yX5_movesThatFit cX5_movesThatFit 3 (some .int) 6 [.ref (b 0)] (lvB g b wa (pn) (pk) (nI q) (fk) (sa) (sb) (sr) (rb) ++ WS g wa (V)) (some (.int (nI (mskK (fun mv => fitK n (f 2) ta tb sr mv q) 4)))) (fun u : Nat → Row => (lvB g b wa (pn) (pk) (nI q) (fk) (sa) (sb) (sr) (rb) ++ WS g wa (setV V 1 u))) := by
  obtain ⟨hn2, hn, hm1, hm, hph, hwr⟩ := hR.1.1
  refine CtE.start (by decide +kernel) (Nat.le_of_ble_eq_true rfl) (by simp [Value.category]) (Or.inr ⟨.int, _, rfl, rfl, rfl⟩) ?_
  intro p0 e R s m args below meth c A Q K hr h ls hl
  have hl : Lq ls 3 [some (.ref (b 0)), none, none] := hl
  have h := h.to (show _ = (lvB g b wa (pn) (pk) (nI q) (fk) (sa) (sb) (sr) (rb) ++ WS g wa (setV V 1 (V 1))) by rw [setV_self])
  let β : Nat → Bool := (fun mv => fitK n (f 2) ta tb sr mv q)
  refine r_ic K (nI 0) dX5_movesThatFit_0 k_0 ?_
  refine r_isn K hl 1 [_, _, _] dX5_movesThatFit_1 rfl (by decide) rfl (fun ls hl => ?_)
  refine r_ic K (nI 1) dX5_movesThatFit_2 k_1 ?_
  refine r_isn K hl 2 [_, _, _] dX5_movesThatFit_3 rfl (by decide) rfl (fun ls hl => ?_)
  have loop : ∀ (j k : Nat) (u : Nat → Row), k + j = 4 → ∀ (H : Heap) (locs : List Loc), Hp g A s H locs (lvB g b wa (pn) (pk) (nI q) (fk) (sa) (sb) (sr) (rb) ++ WS g wa (setV V 1 u)) → ∀ ls, Lq ls 3 [some (.ref (b 0)), some (.int (nI (mskK β k))), some (.int (nI (k + 1)))] → W p0 l e R s m args below meth c H locs 0 0 Q (F0 m 4 ls []) := by
    intro j
    induction j with
    | zero =>
      intro k u hk H locs h ls hl
      obtain rfl : k = 4 := by omega
      refine r_iln K hl 2 dX5_movesThatFit_4 rfl rfl ?_
      refine r_ic K (nI 4) dX5_movesThatFit_5 k_4 ?_
      refine r_cgtN K 31 dX5_movesThatFit_6 (by decide) (by omega) (by omega) (fun c6 => ?_) (fun c => absurd c (by omega))
      refine r_iln K hl 1 dX5_movesThatFit_31 rfl rfl ?_
      exact hr.1 u _ _ _ _ _ dX5_movesThatFit_32 h rfl
    | succ j ih =>
      intro k u0 hk H locs h ls hl
      refine r_iln K hl 2 dX5_movesThatFit_4 rfl rfl ?_
      refine r_ic K (nI 4) dX5_movesThatFit_5 k_4 ?_
      refine r_cgtN K 31 dX5_movesThatFit_6 (by decide) (by omega) (by omega) (fun c => absurd c (by omega)) (fun c6 => ?_)
      refine r_aln K hl 0 dX5_movesThatFit_9 rfl rfl ?_
      refine r_iln K hl 2 dX5_movesThatFit_10 rfl rfl ?_
      refine r_callVWE K h hl (c_X5_fitsAllSeen l g b wa fk sa sb sr rb (setV V 1 u0) f n mv ph wr t hR pn pk q hq ta tb hsw (k + 1) (by omega) (by omega)) mc_X5_fitsAllSeen vm_X5_fitsAllSeen mlX5_204 0 rfl rfl rfl (fun _ => lv_fst rfl) (by decide) (by decide) rfl rfl (Nat.le_of_ble_eq_true rfl) ⟨Nat.zero_le _, Nat.zero_le _⟩ dX5_movesThatFit_11 (fun u H locs h => ?_)
      refine W.eq (g2 := F0 m 14 ls [_]) rfl ?_
      try dsimp only at h
      rw [setV_setV] at h
      refine r_zeqB K 25 dX5_movesThatFit_14 (by decide) (fun c14 => ?_) (fun c14 => ?_)
      · rw [show mskK β k = mskK β (k + 1) by rw [mskK, show β (k + 1) = false from c14]; rfl] at hl
        refine r_incN K hl (k := 1) [_, _, _] dX5_movesThatFit_25 rfl (by decide) rfl (fun ls hl => ?_)
        refine r_go K 4 dX5_movesThatFit_28 (by decide) ?_
        exact ih (k + 1) u (by omega) H locs h ls hl
      · have hlt := mskK_lt β k
        have h16 : mskK β k < 16 := by rcases (by omega : k = 0 ∨ k = 1 ∨ k = 2 ∨ k = 3) with rfl | rfl | rfl | rfl <;> omega
        refine r_iln K hl 1 dX5_movesThatFit_17 rfl rfl ?_
        refine r_ic K (nI 1) dX5_movesThatFit_18 k_1 ?_
        refine r_iln K hl 2 dX5_movesThatFit_19 rfl rfl ?_
        refine r_ic K (nI 1) dX5_movesThatFit_20 k_1 ?_
        refine r_subN K (by omega) dX5_movesThatFit_21 ?_
        refine r_shl K dX5_movesThatFit_22 ?_
        refine r_or K dX5_movesThatFit_23 ?_
        refine r_isn K hl 1 [_, _, _] dX5_movesThatFit_24 rfl (by decide) rfl (fun ls hl => ?_)
        rw [show k + 1 - 1 = k by omega, or_bit k (by omega) _ h16 hlt, show mskK β k + 2 ^ k = mskK β (k + 1) by rw [mskK, show β (k + 1) = true from c14]; rfl] at hl
        refine r_incN K hl (k := 1) [_, _, _] dX5_movesThatFit_25 rfl (by decide) rfl (fun ls hl => ?_)
        refine r_go K 4 dX5_movesThatFit_28 (by decide) ?_
        exact ih (k + 1) u (by omega) H locs h ls hl
  exact loop 4 0 (V 1) (by omega) _ _ h _ hl

set_option maxHeartbeats 4000000 in
set_option maxRecDepth 100000 in
theorem c_X5_which_ok (l : Launch) (g : GG) (b : Nat → Nat) (wa : Nat → Nat → Nat) (fk sa sb sr rb : Row) (V : Nat → Nat → Row) (f : Row) (n mv ph wr t : Nat) (hR : Rel (V 0) f n mv ph wr t) (pn pk : Int32) (q : Nat) (hq : q ≤ 6) (ta tb : Nat → Nat) (hsw : ∀ i, i < q → sa i = nI (ta i) ∧ sb i = nI (tb i) ∧ 1 ≤ ta i ∧ ta i ≤ 4 ∧ 1 ≤ tb i ∧ tb i ≤ 4) : CtE l g yX5_which cX5_which 1 (some .int) 7 [.ref (b 0)] (lvB g b wa (pn) (pk) (nI q) (fk) (sa) (sb) (sr) (rb) ++ WS g wa (V)) (some (.int (nI (mskK (fun mv => fitK n (f 2) ta tb sr mv q) 4)))) (fun u : Nat → Row => (lvB g b wa (pn) (pk) (nI q) (fk) (sa) (sb) (sr) (rb) ++ WS g wa (setV V 1 u))) := by
  obtain ⟨hn2, hn, hm1, hm, hph, hwr⟩ := hR.1.1
  refine CtE.start (by decide +kernel) (Nat.le_of_ble_eq_true rfl) (by simp [Value.category]) (Or.inr ⟨.int, _, rfl, rfl, rfl⟩) ?_
  intro p0 e R s m args below meth c A Q K hr h ls hl
  have hl : Lq ls 1 [some (.ref (b 0))] := hl
  refine r_aln K hl 0 dX5_which_0 rfl rfl ?_
  refine r_callVWE K h hl (c_X5_movesThatFit l g b wa fk sa sb sr rb V f n mv ph wr t hR pn pk q hq ta tb hsw) mc_X5_movesThatFit vm_X5_movesThatFit mlX5_166 0 rfl rfl rfl (fun _ => lv_fst rfl) (by decide) (by decide) rfl rfl (Nat.le_of_ble_eq_true rfl) ⟨Nat.zero_le _, Nat.zero_le _⟩ dX5_which_1 (fun u H locs h => ?_)
  refine W.eq (g2 := F0 m 4 ls [_]) rfl ?_
  exact hr.1 u _ _ _ _ _ dX5_which_4 h rfl

set_option maxHeartbeats 4000000 in
set_option maxRecDepth 100000 in
theorem c_X5_countAlike (l : Launch) (g : GG) (b : Nat → Nat) (wa : Nat → Nat → Nat) (fk sa sb sr rb : Row) (V : Nat → Nat → Row) (pn pk sc : Int32) (x : Int32) : Ct l g yX5_countAlike cX5_countAlike 4 (some .int) 0 [.ref (b 0), .int x] (lvB g b wa (pn) (pk) (sc) (fk) (sa) (sb) (sr) (rb) ++ WS g wa (V)) (some (.int (nI (cAl rb x 4)))) (lvB g b wa (pn) (pk) (sc) (fk) (sa) (sb) (sr) (rb) ++ WS g wa (V)) := by
  refine Ct.start (by decide +kernel) (Nat.le_of_ble_eq_true rfl) (by simp [Value.category]) (Or.inr ⟨.int, _, rfl, rfl, rfl⟩) ?_
  intro p0 e R s m args below meth c A Q K hr h ls hl
  have hl : Lq ls 4 [some (.ref (b 0)), some (.int x), none, none] := hl
  refine r_ic K (nI 0) dX5_countAlike_0 k_0 ?_
  refine r_isn K hl 2 [_, _, _, _] dX5_countAlike_1 rfl (by decide) rfl (fun ls hl => ?_)
  refine r_ic K (nI 0) dX5_countAlike_2 k_0 ?_
  refine r_isn K hl 3 [_, _, _, _] dX5_countAlike_3 rfl (by decide) rfl (fun ls hl => ?_)
  have loop : ∀ (j k : Nat), k + j = 4 → ∀ (H : Heap) (locs : List Loc), Hp g A s H locs (lvB g b wa (pn) (pk) (sc) (fk) (sa) (sb) (sr) (rb) ++ WS g wa (V)) → ∀ ls, Lq ls 4 [some (.ref (b 0)), some (.int x), some (.int (nI (cAl rb x k))), some (.int (nI k))] → W p0 l e R s m args below meth c H locs 0 0 Q (F0 m 4 ls []) := by
    intro j
    induction j with
    | zero =>
      intro k hk H locs h ls hl
      obtain rfl : k = 4 := by omega
      refine r_iln K hl 3 dX5_countAlike_4 rfl rfl ?_
      refine r_ic K (nI 4) dX5_countAlike_5 k_4 ?_
      refine r_cgeN K 28 dX5_countAlike_6 (by decide) (by omega) (by omega) (fun c6 => ?_) (fun c => absurd c (by omega))
      refine r_iln K hl 2 dX5_countAlike_28 rfl rfl ?_
      exact hr.1 _ _ _ _ _ dX5_countAlike_29 h rfl
    | succ j ih =>
      intro k hk H locs h ls hl
      refine r_iln K hl 3 dX5_countAlike_4 rfl rfl ?_
      refine r_ic K (nI 4) dX5_countAlike_5 k_4 ?_
      refine r_cgeN K 28 dX5_countAlike_6 (by decide) (by omega) (by omega) (fun c => absurd c (by omega)) (fun c6 => ?_)
      refine r_aln K hl 0 dX5_countAlike_9 rfl rfl ?_
      refine r_get K h ffX5_40 0 rfl rfl dX5_countAlike_10 ?_
      refine r_iln K hl 3 dX5_countAlike_13 rfl rfl ?_
      refine r_ial K h 7 rfl (by omega) (by decide) dX5_countAlike_14 ?_
      refine r_iln K hl 1 dX5_countAlike_15 rfl rfl ?_
      refine r_cne K 22 dX5_countAlike_16 (by decide) (fun c16 => ?_) (fun c16 => ?_)
      · rw [show cAl rb x k = cAl rb x (k + 1) by rw [cAl, if_neg c16]; rfl] at hl
        refine r_incN K hl (k := 1) [_, _, _, _] dX5_countAlike_22 rfl (by decide) rfl (fun ls hl => ?_)
        refine r_go K 4 dX5_countAlike_25 (by decide) ?_
        exact ih (k + 1) (by omega) H locs h ls hl
      · refine r_incN K hl (k := 1) [_, _, _, _] dX5_countAlike_19 rfl (by decide) rfl (fun ls hl => ?_)
        rw [show cAl rb x k + 1 = cAl rb x (k + 1) by rw [cAl, if_pos c16]] at hl
        refine r_incN K hl (k := 1) [_, _, _, _] dX5_countAlike_22 rfl (by decide) rfl (fun ls hl => ?_)
        refine r_go K 4 dX5_countAlike_25 (by decide) ?_
        exact ih (k + 1) (by omega) H locs h ls hl
  exact loop 4 0 (by omega) _ _ h _ hl

