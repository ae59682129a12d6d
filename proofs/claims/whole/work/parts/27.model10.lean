theorem pop_1 : ∀ x, x < 16 → ((nI x &&& (nI x - nI 1)) = 0 ↔ (Nat.land x (x - 1)) = 0) := by decide +kernel

set_option maxHeartbeats 4000000 in
set_option maxRecDepth 100000 in
theorem c_X6_ask_none (l : Launch) (g : GG) (a : Nat → Nat) (th um : Int32) (f fw fp fi fk fs ft : Row) (n : Nat) (q : Nat) (sa sb : Nat → Nat) (sx : Nat → Int32) (hn2 : 2 ≤ n) (hn : n ≤ 4) (h0 : f 0 = nI n) (hq : q ≤ 6) (hsw : ∀ i, i < q → fs (3 * i) = nI (sa i) ∧ fs (3 * i + 1) = nI (sb i) ∧ fs (3 * i + 2) = sx i ∧ 1 ≤ sa i ∧ sa i ≤ 4 ∧ 1 ≤ sb i ∧ sb i ≤ 4) (hb : Nat.land (mskK (fun mv => fitK n (f 2) sa sb sx mv q) 4) (mskK (fun mv => fitK n (f 2) sa sb sx mv q) 4 - 1) = 0) : CtE l g yX6_ask cX6_ask 7 (some .int) 6 [.ref (a 0)] (mW g a (th) (um) (nI q) (f) (fw) (fp) (fi) (fk) (fs) (ft)) (some (.int (-9))) (fun u : Row × Row => (mW g a (nI 0) (um) (nI q) (f) (u.1) (fp) (fi) (fk) (fs) (u.2))) := by
  refine CtE.start (by decide +kernel) (Nat.le_of_ble_eq_true rfl) (by simp [Value.category]) (Or.inr ⟨.int, _, rfl, rfl, rfl⟩) ?_
  intro p0 e R s m args below meth c A Q K hr h ls hl
  have hl : Lq ls 7 [some (.ref (a 0)), none, none, none, none, none, none] := hl
  have m16 : mskK (fun mv => fitK n (f 2) sa sb sx mv q) 4 < 16 := mskK_lt _ 4
  refine r_aln K hl 0 dX6_ask_0 rfl rfl ?_
  refine r_ic K (nI 0) dX6_ask_1 k_0 ?_
  refine r_put K h ffX6_36 pfX6_0 0 [_, _, _, _, _, _, _, _, _, _] [_, _, _, _, _, _, _, _] rfl rfl rfl (Nat.le_of_ble_eq_true rfl) rfl rfl dX6_ask_2 (fun H locs h => ?_)
  refine r_aln K hl 0 dX6_ask_5 rfl rfl ?_
  refine r_callVE K h hl (c_X6_movesSet l g a _ um f fw fs n q sa sb sx hn2 hn h0 hq hsw) mc_X6_movesSet vm_X6_movesSet mlX6_116 0 rfl rfl rfl [0, 1, 2, 6] rfl rfl (fun _ => rfl) (fun u => [_, _, _, _, _, _, _, _]) (fun _ => rfl) (by decide) (by decide) rfl rfl (Nat.le_of_ble_eq_true rfl) ⟨Nat.zero_le _, Nat.zero_le _⟩ dX6_ask_6 (fun u H locs h => ?_)
  try dsimp only at h
  refine W.eq (g2 := F0 m 9 ls [_]) rfl ?_
  refine r_isn K hl 1 [_, _, _, _, _, _, _] dX6_ask_9 rfl (by decide) rfl (fun ls hl => ?_)
  refine r_iln K hl 1 dX6_ask_10 rfl rfl ?_
  refine r_iln K hl 1 dX6_ask_11 rfl rfl ?_
  refine r_ic K (nI 1) dX6_ask_12 k_1 ?_
  refine r_sub K dX6_ask_13 ?_
  refine r_and K dX6_ask_14 ?_
  refine r_zne K 21 dX6_ask_15 (by decide) (fun c => absurd ((pop_1 _ m16).mpr hb) c) (fun c15 => ?_)
  refine r_bp K (-9) dX6_ask_18 kb_m9 ?_
  exact hr.1 (u, ft) _ _ _ _ _ dX6_ask_20 h rfl

set_option maxHeartbeats 4000000 in
set_option maxRecDepth 100000 in
theorem c_X6_ask_ok (l : Launch) (g : GG) (a : Nat → Nat) (th um : Int32) (f fw fp fi fk fs ft : Row) (n : Nat) (q : Nat) (sa sb : Nat → Nat) (sx : Nat → Int32) (hn2 : 2 ≤ n) (hn : n ≤ 4) (h0 : f 0 = nI n) (hq : q ≤ 6) (hsw : ∀ i, i < q → fs (3 * i) = nI (sa i) ∧ fs (3 * i + 1) = nI (sb i) ∧ fs (3 * i + 2) = sx i ∧ 1 ≤ sa i ∧ sa i ≤ 4 ∧ 1 ≤ sb i ∧ sb i ≤ 4) (hb : ¬ Nat.land (mskK (fun mv => fitK n (f 2) sa sb sx mv q) 4) (mskK (fun mv => fitK n (f 2) sa sb sx mv q) 4 - 1) = 0) : CtE l g yX6_ask cX6_ask 7 (some .int) 6 [.ref (a 0)] (mW g a (th) (um) (nI q) (f) (fw) (fp) (fi) (fk) (fs) (ft)) (some (.int (askA (fun ka kb => alM (fun mv => fitK n (f 2) sa sb sx mv q) (fun mv => trN n mv (f 2) ka kb) 4) 4).1)) (fun u : Row × Row => (mW g a (nI 0) (um) (nI q) (f) (u.1) (fp) (fi) (fk) (fs) (u.2))) := by
  refine CtE.start (by decide +kernel) (Nat.le_of_ble_eq_true rfl) (by simp [Value.category]) (Or.inr ⟨.int, _, rfl, rfl, rfl⟩) ?_
  intro p0 e R s m args below meth c A Q K hr h ls hl
  have hl : Lq ls 7 [some (.ref (a 0)), none, none, none, none, none, none] := hl
  have m16 : mskK (fun mv => fitK n (f 2) sa sb sx mv q) 4 < 16 := mskK_lt _ 4
  generalize hal : (fun ka kb => alM (fun mv => fitK n (f 2) sa sb sx mv q) (fun mv => trN n mv (f 2) ka kb) 4) = al at hr
  have hal4 : ∀ a b, al a b ≤ 4 := fun a b => by rw [← hal]; exact alM_le _ _ 4
  refine r_aln K hl 0 dX6_ask_0 rfl rfl ?_
  refine r_ic K (nI 0) dX6_ask_1 k_0 ?_
  refine r_put K h ffX6_36 pfX6_0 0 [_, _, _, _, _, _, _, _, _, _] [_, _, _, _, _, _, _, _] rfl rfl rfl (Nat.le_of_ble_eq_true rfl) rfl rfl dX6_ask_2 (fun H locs h => ?_)
  refine r_aln K hl 0 dX6_ask_5 rfl rfl ?_
  refine r_callVE K h hl (c_X6_movesSet l g a _ um f fw fs n q sa sb sx hn2 hn h0 hq hsw) mc_X6_movesSet vm_X6_movesSet mlX6_116 0 rfl rfl rfl [0, 1, 2, 6] rfl rfl (fun _ => rfl) (fun u => [_, _, _, _, _, _, _, _]) (fun _ => rfl) (by decide) (by decide) rfl rfl (Nat.le_of_ble_eq_true rfl) ⟨Nat.zero_le _, Nat.zero_le _⟩ dX6_ask_6 (fun u H locs h => ?_)
  try dsimp only at h
  refine W.eq (g2 := F0 m 9 ls [_]) rfl ?_
  refine r_isn K hl 1 [_, _, _, _, _, _, _] dX6_ask_9 rfl (by decide) rfl (fun ls hl => ?_)
  refine r_iln K hl 1 dX6_ask_10 rfl rfl ?_
  refine r_iln K hl 1 dX6_ask_11 rfl rfl ?_
  refine r_ic K (nI 1) dX6_ask_12 k_1 ?_
  refine r_sub K dX6_ask_13 ?_
  refine r_and K dX6_ask_14 ?_
  refine r_zne K 21 dX6_ask_15 (by decide) (fun c15 => ?_) (fun c => absurd c (fun z => hb ((pop_1 _ m16).mp z)))
  refine r_bp K (-9) dX6_ask_21 kb_m9 ?_
  refine r_isn K hl 2 [_, _, _, _, _, _, _] dX6_ask_23 rfl (by decide) rfl (fun ls hl => ?_)
  refine r_ic K (nI 5) dX6_ask_24 k_5 ?_
  refine r_isn K hl 3 [_, _, _, _, _, _, _] dX6_ask_25 rfl (by decide) rfl (fun ls hl => ?_)
  refine r_ic K (nI 1) dX6_ask_26 k_1 ?_
  refine r_is K hl 4 [_, _, _, _, _, _, _] dX6_ask_27 (by decide) rfl (fun ls hl => ?_)
  have loop : ∀ (j k : Nat) (y z : Option Value) (u v : Row), k + j = 4 → ∀ (H : Heap) (locs : List Loc), Hp g A s H locs (mW g a (nI 0) (um) (nI q) (f) (u) (fp) (fi) (fk) (fs) (v)) → ∀ ls, Lq ls 7 [some (.ref (a 0)), some (.int (nI (mskK (fun mv => fitK n (f 2) sa sb sx mv q) 4))), some (.int (askA al k).1), some (.int (nI (askA al k).2)), some (.int (nI (k + 1))), y, z] → W p0 l e R s m args below meth c H locs 0 0 Q (F0 m 29 ls []) := by
    intro j
    induction j with
    | zero =>
      intro k y z u v hk H locs h ls hl
      obtain rfl : k = 4 := by omega
      refine r_il K hl 4 dX6_ask_29 rfl ?_
      refine r_ic K (nI 5) dX6_ask_31 k_5 ?_
      refine r_cgeN K 99 dX6_ask_32 (by decide) (by omega) (by omega) (fun c32 => ?_) (fun c => absurd c (by omega))
      refine r_iln K hl 2 dX6_ask_99 rfl rfl ?_
      exact hr.1 (u, v) _ _ _ _ _ dX6_ask_100 h rfl
    | succ j ih =>
      intro k y z u v hk H locs h ls hl
      refine r_il K hl 4 dX6_ask_29 rfl ?_
      refine r_ic K (nI 5) dX6_ask_31 k_5 ?_
      refine r_cgeN K 99 dX6_ask_32 (by decide) (by omega) (by omega) (fun c => absurd c (by omega)) (fun c32 => ?_)
      refine r_ic K (nI 1) dX6_ask_35 k_1 ?_
      refine r_is K hl 5 [_, _, _, _, _, _, _] dX6_ask_36 (by decide) rfl (fun ls hl => ?_)
      have loop2 : ∀ (j2 k2 : Nat) (z : Option Value) (u v : Row), k2 + j2 = 4 → ∀ (H : Heap) (locs : List Loc), Hp g A s H locs (mW g a (nI 0) (um) (nI q) (f) (u) (fp) (fi) (fk) (fs) (v)) → ∀ ls, Lq ls 7 [some (.ref (a 0)), some (.int (nI (mskK (fun mv => fitK n (f 2) sa sb sx mv q) 4))), some (.int (askB al (k + 1) k2 (askA al k)).1), some (.int (nI (askB al (k + 1) k2 (askA al k)).2)), some (.int (nI (k + 1))), some (.int (nI (k2 + 1))), z] → W p0 l e R s m args below meth c H locs 0 0 Q (F0 m 38 ls []) := by
        intro j2
        induction j2 with
        | zero =>
          intro k2 z u v hk2 H locs h ls hl
          obtain rfl : k2 = 4 := by omega
          refine r_il K hl 5 dX6_ask_38 rfl ?_
          refine r_ic K (nI 5) dX6_ask_40 k_5 ?_
          refine r_cgeN K 93 dX6_ask_41 (by decide) (by omega) (by omega) (fun c41 => ?_) (fun c => absurd c (by omega))
          refine r_incN K hl (k := 1) [_, _, _, _, _, _, _] dX6_ask_93 rfl (by decide) rfl (fun ls hl => ?_)
          refine r_go K 29 dX6_ask_96 (by decide) ?_
          exact ih (k + 1) _ _ _ _ (by omega) _ _ h _ hl
        | succ j2 ih2 =>
          intro k2 z u v hk2 H locs h ls hl
          refine r_il K hl 5 dX6_ask_38 rfl ?_
          refine r_ic K (nI 5) dX6_ask_40 k_5 ?_
          refine r_cgeN K 93 dX6_ask_41 (by decide) (by omega) (by omega) (fun c => absurd c (by omega)) (fun c41 => ?_)
          refine r_aln K hl 0 dX6_ask_44 rfl rfl ?_
          refine r_iln K hl 1 dX6_ask_45 rfl rfl ?_
          refine r_il K hl 4 dX6_ask_46 rfl ?_
          refine r_il K hl 5 dX6_ask_48 rfl ?_
          refine r_callVE K h hl (c_X6_mostAlike l g a _ um (nI q) f u v n (k + 1) (k2 + 1) (fun mv => fitK n (f 2) sa sb sx mv q) hn2 hn h0 (by omega) (by omega) (by omega) (by omega)) mc_X6_mostAlike vm_X6_mostAlike mlX6_120 0 rfl rfl rfl [0, 1, 2, 7] rfl rfl (fun _ => rfl) (fun u => [_, _, _, _, _, _, _, _]) (fun _ => rfl) (by decide) (by decide) rfl rfl (Nat.le_of_ble_eq_true rfl) ⟨Nat.zero_le _, Nat.zero_le _⟩ dX6_ask_50 (fun u' H locs h => ?_)
          try dsimp only at h
          refine W.eq (g2 := F0 m 53 ls [_]) rfl ?_
          rw [show alM (fun mv => fitK n (f 2) sa sb sx mv q) (fun mv => trN n mv (f 2) (k + 1) (k2 + 1)) 4 = al (k + 1) (k2 + 1) by rw [← hal]]
          have b1 := hal4 (k + 1) (k2 + 1)
          have b2 := askB_le (al := al) (a := k + 1) hal4 k2 _ (askA_le hal4 k)
          refine r_is K hl 6 [_, _, _, _, _, _, _] dX6_ask_53 (by decide) rfl (fun ls hl => ?_)
          refine r_il K hl 6 dX6_ask_55 rfl ?_
          refine r_iln K hl 3 dX6_ask_57 rfl rfl ?_
          refine r_cgeN K 72 dX6_ask_58 (by decide) (by omega) (by omega) (fun c58 => ?_) (fun c58 => ?_)
          · refine r_iln K hl 2 dX6_ask_72 rfl rfl ?_
            refine r_isn K hl 2 [_, _, _, _, _, _, _] dX6_ask_73 rfl (by decide) rfl (fun ls hl => ?_)
            refine r_il K hl 6 dX6_ask_74 rfl ?_
            refine r_iln K hl 3 dX6_ask_76 rfl rfl ?_
            refine r_cgeN K 85 dX6_ask_77 (by decide) (by omega) (by omega) (fun c77 => ?_) (fun c => absurd c (by omega))
            refine r_iln K hl 3 dX6_ask_85 rfl rfl ?_
            refine r_isn K hl 3 [_, _, _, _, _, _, _] dX6_ask_86 rfl (by decide) rfl (fun ls hl => ?_)
            refine r_incN K hl (k := 1) [_, _, _, _, _, _, _] dX6_ask_87 rfl (by decide) rfl (fun ls hl => ?_)
            refine r_go K 38 dX6_ask_90 (by decide) ?_
            have e : askB al (k + 1) (k2 + 1) (askA al k) = askB al (k + 1) k2 (askA al k) := by rw [askB]; exact if_neg (by omega)
            exact ih2 (k2 + 1) _ _ _ (by omega) _ _ h _ (by rw [e]; exact hl)
          · refine r_bp K (nI 10) dX6_ask_61 kb_10 ?_
            refine r_il K hl 4 dX6_ask_63 rfl ?_
            refine r_mulN K dX6_ask_65 ?_
            refine r_il K hl 5 dX6_ask_66 rfl ?_
            refine r_addN K dX6_ask_68 ?_
            refine r_go K 73 dX6_ask_69 (by decide) ?_
            refine r_isn K hl 2 [_, _, _, _, _, _, _] dX6_ask_73 rfl (by decide) rfl (fun ls hl => ?_)
            refine r_il K hl 6 dX6_ask_74 rfl ?_
            refine r_iln K hl 3 dX6_ask_76 rfl rfl ?_
            refine r_cgeN K 85 dX6_ask_77 (by decide) (by omega) (by omega) (fun c => absurd c (by omega)) (fun c77 => ?_)
            refine r_il K hl 6 dX6_ask_80 rfl ?_
            refine r_go K 86 dX6_ask_82 (by decide) ?_
            refine r_isn K hl 3 [_, _, _, _, _, _, _] dX6_ask_86 rfl (by decide) rfl (fun ls hl => ?_)
            refine r_incN K hl (k := 1) [_, _, _, _, _, _, _] dX6_ask_87 rfl (by decide) rfl (fun ls hl => ?_)
            refine r_go K 38 dX6_ask_90 (by decide) ?_
            have e : askB al (k + 1) (k2 + 1) (askA al k) = (nI (10 * (k + 1) + (k2 + 1)), al (k + 1) (k2 + 1)) := by rw [askB]; exact if_pos c58
            exact ih2 (k2 + 1) _ _ _ (by omega) _ _ h _ (by rw [e]; exact hl)
      exact loop2 4 0 _ _ _ rfl _ _ h _ hl
  exact loop 4 0 none none _ _ rfl _ _ h _ hl

set_option maxHeartbeats 4000000 in
set_option maxRecDepth 100000 in
theorem c_X6_keep_bad (l : Launch) (g : GG) (a : Nat → Nat) (th um sm : Int32) (f fw fp fi fk fs ft : Row) (x : Int32) (hb : inB x (nI 0) (nI 1) = false) : Ct l g yX6_keep cX6_keep 3 (some .int) 1 [.ref (a 0), .int x] (mW g a (th) (um) (sm) (f) (fw) (fp) (fi) (fk) (fs) (ft)) (some (.int (-1))) (mW g a (nI 0) (um) (sm) (f) (fw) (fp) (fi) (fk) (fs) (ft)) := by
  refine Ct.start (by decide +kernel) (Nat.le_of_ble_eq_true rfl) (by simp [Value.category]) (Or.inr ⟨.int, _, rfl, rfl, rfl⟩) ?_
  intro p0 e R s m args below meth c A Q K hr h ls hl
  have hl : Lq ls 3 [some (.ref (a 0)), some (.int x), none] := hl
  refine r_aln K hl 0 dX6_keep_0 rfl rfl ?_
  refine r_ic K (nI 0) dX6_keep_1 k_0 ?_
  refine r_put K h ffX6_36 pfX6_0 0 [_, _, _, _, _, _, _, _, _, _] [_, _, _, _, _, _, _, _] rfl rfl rfl (Nat.le_of_ble_eq_true rfl) rfl rfl dX6_keep_2 (fun H locs h => ?_)
  refine r_iln K hl 1 dX6_keep_5 rfl rfl ?_
  refine r_ic K (nI 0) dX6_keep_6 k_0 ?_
  refine r_ic K (nI 1) dX6_keep_7 k_1 ?_
  refine r_callS K h hl (c_X6_in l g x (nI 0) (nI 1)) mc_X6_in st_X6_in mlX6_69 [] rfl rfl rfl [_, _, _, _, _, _, _, _] rfl (by decide) (by decide) rfl rfl (Nat.le_of_ble_eq_true rfl) ⟨Nat.zero_le _, Nat.zero_le _⟩ dX6_keep_8 (fun H locs h => ?_)
  refine W.eq (g2 := F0 m 11 ls [_]) rfl ?_
  refine r_zneB K 16 dX6_keep_11 (by decide) (fun c => absurd ((hb).symm.trans c) (by decide)) (fun _ => ?_)
  refine r_ic K (-1) dX6_keep_14 k_m1 ?_
  exact hr.1 _ _ _ _ _ dX6_keep_15 h rfl

set_option maxHeartbeats 4000000 in
set_option maxRecDepth 100000 in
theorem c_X6_back_bad (l : Launch) (g : GG) (a : Nat → Nat) (th um sm : Int32) (f fw fp fi fk fs ft : Row) (x : Int32) (hb : inB x (nI 0) (nI 1) = false) : Ct l g yX6_back cX6_back 3 (some .int) 1 [.ref (a 0), .int x] (mW g a (th) (um) (sm) (f) (fw) (fp) (fi) (fk) (fs) (ft)) (some (.int (-1))) (mW g a (nI 0) (um) (sm) (f) (fw) (fp) (fi) (fk) (fs) (ft)) := by
  refine Ct.start (by decide +kernel) (Nat.le_of_ble_eq_true rfl) (by simp [Value.category]) (Or.inr ⟨.int, _, rfl, rfl, rfl⟩) ?_
  intro p0 e R s m args below meth c A Q K hr h ls hl
  have hl : Lq ls 3 [some (.ref (a 0)), some (.int x), none] := hl
  refine r_aln K hl 0 dX6_back_0 rfl rfl ?_
  refine r_ic K (nI 0) dX6_back_1 k_0 ?_
  refine r_put K h ffX6_36 pfX6_0 0 [_, _, _, _, _, _, _, _, _, _] [_, _, _, _, _, _, _, _] rfl rfl rfl (Nat.le_of_ble_eq_true rfl) rfl rfl dX6_back_2 (fun H locs h => ?_)
  refine r_iln K hl 1 dX6_back_5 rfl rfl ?_
  refine r_ic K (nI 0) dX6_back_6 k_0 ?_
  refine r_ic K (nI 1) dX6_back_7 k_1 ?_
  refine r_callS K h hl (c_X6_in l g x (nI 0) (nI 1)) mc_X6_in st_X6_in mlX6_69 [] rfl rfl rfl [_, _, _, _, _, _, _, _] rfl (by decide) (by decide) rfl rfl (Nat.le_of_ble_eq_true rfl) ⟨Nat.zero_le _, Nat.zero_le _⟩ dX6_back_8 (fun H locs h => ?_)
  refine W.eq (g2 := F0 m 11 ls [_]) rfl ?_
  refine r_zneB K 16 dX6_back_11 (by decide) (fun c => absurd ((hb).symm.trans c) (by decide)) (fun _ => ?_)
  refine r_ic K (-1) dX6_back_14 k_m1 ?_
  exact hr.1 _ _ _ _ _ dX6_back_15 h rfl

set_option maxHeartbeats 4000000 in
set_option maxRecDepth 100000 in
theorem c_X6_keep_ok (l : Launch) (g : GG) (a : Nat → Nat) (th um sm : Int32) (f fw fp fi fk fs ft : Row) (k : Nat) (hk : k ≤ 1) : Ct l g yX6_keep cX6_keep 3 (some .int) 1 [.ref (a 0), .int (nI k)] (mW g a (th) (um) (sm) (f) (fw) (fp) (fi) (fk) (fs) (ft)) (some (.int (f 3))) (mW g a (nI 0) (um) (sm) (f) (fw) (fp) (va_cpy f fi 0 (512 * k) 512) (upd fk k (nI 1)) (fs) (ft)) := by
  refine Ct.start (by decide +kernel) (Nat.le_of_ble_eq_true rfl) (by simp [Value.category]) (Or.inr ⟨.int, _, rfl, rfl, rfl⟩) ?_
  intro p0 e R s m args below meth c A Q K hr h ls hl
  have hl : Lq ls 3 [some (.ref (a 0)), some (.int (nI k)), none] := hl
  refine r_aln K hl 0 dX6_keep_0 rfl rfl ?_
  refine r_ic K (nI 0) dX6_keep_1 k_0 ?_
  refine r_put K h ffX6_36 pfX6_0 0 [_, _, _, _, _, _, _, _, _, _] [_, _, _, _, _, _, _, _] rfl rfl rfl (Nat.le_of_ble_eq_true rfl) rfl rfl dX6_keep_2 (fun H locs h => ?_)
  refine r_iln K hl 1 dX6_keep_5 rfl rfl ?_
  refine r_ic K (nI 0) dX6_keep_6 k_0 ?_
  refine r_ic K (nI 1) dX6_keep_7 k_1 ?_
  refine r_callS K h hl (c_X6_in l g (nI k) (nI 0) (nI 1)) mc_X6_in st_X6_in mlX6_69 [] rfl rfl rfl [_, _, _, _, _, _, _, _] rfl (by decide) (by decide) rfl rfl (Nat.le_of_ble_eq_true rfl) ⟨Nat.zero_le _, Nat.zero_le _⟩ dX6_keep_8 (fun H locs h => ?_)
  refine W.eq (g2 := F0 m 11 ls [_]) rfl ?_
  refine r_zneB K 16 dX6_keep_11 (by decide) (fun _ => ?_) (fun c => absurd (((inB_of (Nat.zero_le k) hk (by omega))).symm.trans c) (by decide))
  refine r_ic K (nI 0) dX6_keep_16 k_0 ?_
  refine r_isn K hl 2 [_, _, _] dX6_keep_17 rfl (by decide) rfl (fun ls hl => ?_)
  have loop : ∀ (j i : Nat), i + j = 512 → ∀ (H : Heap) (locs : List Loc), Hp g A s H locs (mW g a (nI 0) (um) (sm) (f) (fw) (fp) (va_cpy f fi 0 (512 * k) i) (fk) (fs) (ft)) → ∀ ls, Lq ls 3 [some (.ref (a 0)), some (.int (nI k)), some (.int (nI i))] → W p0 l e R s m args below meth c H locs 0 0 Q (F0 m 18 ls []) := by
    intro j
    induction j with
    | zero =>
      intro i hk H locs h ls hl
      obtain rfl : i = 512 := by omega
      refine r_iln K hl 2 dX6_keep_18 rfl rfl ?_
      refine r_sp K (nI 512) dX6_keep_19 ks_512 ?_
      refine r_cgeN K 49 dX6_keep_22 (by decide) (by omega) (by omega) (fun c22 => ?_) (fun c => absurd c (by omega))
      refine r_aln K hl 0 dX6_keep_49 rfl rfl ?_
      refine r_get K h ffX6_22 0 rfl rfl dX6_keep_50 ?_
      refine r_iln K hl 1 dX6_keep_53 rfl rfl ?_
      refine r_ic K (nI 1) dX6_keep_54 k_1 ?_
      refine r_zas K h 5 [_, _, _, _, _, _, _, _] rfl (by omega) (by decide) (by decide) rfl dX6_keep_55 (fun H locs h => ?_)
      refine r_aln K hl 0 dX6_keep_56 rfl rfl ?_
      refine r_get K h ffX6_7 0 rfl rfl dX6_keep_57 ?_
      refine r_ic K (nI 3) dX6_keep_60 k_3 ?_
      refine r_ial K h 1 rfl (by omega) (by decide) dX6_keep_61 ?_
      exact hr.1 _ _ _ _ _ dX6_keep_62 h rfl
    | succ j ih =>
      intro i hk H locs h ls hl
      refine r_iln K hl 2 dX6_keep_18 rfl rfl ?_
      refine r_sp K (nI 512) dX6_keep_19 ks_512 ?_
      refine r_cgeN K 49 dX6_keep_22 (by decide) (by omega) (by omega) (fun c => absurd c (by omega)) (fun c22 => ?_)
      refine r_aln K hl 0 dX6_keep_25 rfl rfl ?_
      refine r_get K h ffX6_19 0 rfl rfl dX6_keep_26 ?_
      refine r_sp K (nI 512) dX6_keep_29 ks_512 ?_
      refine r_iln K hl 1 dX6_keep_32 rfl rfl ?_
      refine r_mulN K dX6_keep_33 ?_
      refine r_iln K hl 2 dX6_keep_34 rfl rfl ?_
      refine r_addN K dX6_keep_35 ?_
      refine r_aln K hl 0 dX6_keep_36 rfl rfl ?_
      refine r_get K h ffX6_7 0 rfl rfl dX6_keep_37 ?_
      refine r_iln K hl 2 dX6_keep_40 rfl rfl ?_
      refine r_ial K h 1 rfl (by omega) (by decide) dX6_keep_41 ?_
      refine r_ias K h 4 [_, _, _, _, _, _, _, _] rfl (by omega) (by decide) rfl dX6_keep_42 (fun H locs h => ?_)
      refine r_incN K hl (k := 1) [_, _, _] dX6_keep_43 rfl (by decide) rfl (fun ls hl => ?_)
      refine r_go K 18 dX6_keep_46 (by decide) ?_
      exact ih (i + 1) (by omega) _ _ (h.to (by rw [← cpy_s, Nat.zero_add])) _ hl
  exact loop 512 0 rfl _ _ (h.to (by rw [cpy_0])) _ hl

set_option maxHeartbeats 4000000 in
set_option maxRecDepth 100000 in
theorem c_X6_back_state (l : Launch) (g : GG) (a : Nat → Nat) (th um sm : Int32) (f fw fp fi fk fs ft : Row) (k : Nat) (hk : k ≤ 1) (hb : fk k = 0) : Ct l g yX6_back cX6_back 3 (some .int) 1 [.ref (a 0), .int (nI k)] (mW g a (th) (um) (sm) (f) (fw) (fp) (fi) (fk) (fs) (ft)) (some (.int (-2))) (mW g a (nI 0) (um) (sm) (f) (fw) (fp) (fi) (fk) (fs) (ft)) := by
  refine Ct.start (by decide +kernel) (Nat.le_of_ble_eq_true rfl) (by simp [Value.category]) (Or.inr ⟨.int, _, rfl, rfl, rfl⟩) ?_
  intro p0 e R s m args below meth c A Q K hr h ls hl
  have hl : Lq ls 3 [some (.ref (a 0)), some (.int (nI k)), none] := hl
  refine r_aln K hl 0 dX6_back_0 rfl rfl ?_
  refine r_ic K (nI 0) dX6_back_1 k_0 ?_
  refine r_put K h ffX6_36 pfX6_0 0 [_, _, _, _, _, _, _, _, _, _] [_, _, _, _, _, _, _, _] rfl rfl rfl (Nat.le_of_ble_eq_true rfl) rfl rfl dX6_back_2 (fun H locs h => ?_)
  refine r_iln K hl 1 dX6_back_5 rfl rfl ?_
  refine r_ic K (nI 0) dX6_back_6 k_0 ?_
  refine r_ic K (nI 1) dX6_back_7 k_1 ?_
  refine r_callS K h hl (c_X6_in l g (nI k) (nI 0) (nI 1)) mc_X6_in st_X6_in mlX6_69 [] rfl rfl rfl [_, _, _, _, _, _, _, _] rfl (by decide) (by decide) rfl rfl (Nat.le_of_ble_eq_true rfl) ⟨Nat.zero_le _, Nat.zero_le _⟩ dX6_back_8 (fun H locs h => ?_)
  refine W.eq (g2 := F0 m 11 ls [_]) rfl ?_
  refine r_zneB K 16 dX6_back_11 (by decide) (fun _ => ?_) (fun c => absurd (((inB_of (Nat.zero_le k) hk (by omega))).symm.trans c) (by decide))
  refine r_aln K hl 0 dX6_back_16 rfl rfl ?_
  refine r_get K h ffX6_22 0 rfl rfl dX6_back_17 ?_
  refine r_iln K hl 1 dX6_back_20 rfl rfl ?_
  refine r_zal K h 5 rfl (by omega) (by decide) dX6_back_21 ?_
  refine r_zne K 28 dX6_back_22 (by decide) (fun c => absurd hb c) (fun c22 => ?_)
  refine r_bp K (-2) dX6_back_25 kb_m2 ?_
  exact hr.1 _ _ _ _ _ dX6_back_27 h rfl

set_option maxHeartbeats 4000000 in
set_option maxRecDepth 100000 in
theorem c_X6_back_ok (l : Launch) (g : GG) (a : Nat → Nat) (th um sm : Int32) (f fw fp fi fk fs ft : Row) (k : Nat) (hk : k ≤ 1) (hb : ¬ fk k = 0) : Ct l g yX6_back cX6_back 3 (some .int) 1 [.ref (a 0), .int (nI k)] (mW g a (th) (um) (sm) (f) (fw) (fp) (fi) (fk) (fs) (ft)) (some (.int (fi (512 * k + 3)))) (mW g a (nI 0) (nI 0) (sm) (fun j => fi (512 * k + j)) (fw) (fp) (fi) (fk) (fs) (ft)) := by
  refine Ct.start (by decide +kernel) (Nat.le_of_ble_eq_true rfl) (by simp [Value.category]) (Or.inr ⟨.int, _, rfl, rfl, rfl⟩) ?_
  intro p0 e R s m args below meth c A Q K hr h ls hl
  have hl : Lq ls 3 [some (.ref (a 0)), some (.int (nI k)), none] := hl
  refine r_aln K hl 0 dX6_back_0 rfl rfl ?_
  refine r_ic K (nI 0) dX6_back_1 k_0 ?_
  refine r_put K h ffX6_36 pfX6_0 0 [_, _, _, _, _, _, _, _, _, _] [_, _, _, _, _, _, _, _] rfl rfl rfl (Nat.le_of_ble_eq_true rfl) rfl rfl dX6_back_2 (fun H locs h => ?_)
  refine r_iln K hl 1 dX6_back_5 rfl rfl ?_
  refine r_ic K (nI 0) dX6_back_6 k_0 ?_
  refine r_ic K (nI 1) dX6_back_7 k_1 ?_
  refine r_callS K h hl (c_X6_in l g (nI k) (nI 0) (nI 1)) mc_X6_in st_X6_in mlX6_69 [] rfl rfl rfl [_, _, _, _, _, _, _, _] rfl (by decide) (by decide) rfl rfl (Nat.le_of_ble_eq_true rfl) ⟨Nat.zero_le _, Nat.zero_le _⟩ dX6_back_8 (fun H locs h => ?_)
  refine W.eq (g2 := F0 m 11 ls [_]) rfl ?_
  refine r_zneB K 16 dX6_back_11 (by decide) (fun _ => ?_) (fun c => absurd (((inB_of (Nat.zero_le k) hk (by omega))).symm.trans c) (by decide))
  refine r_aln K hl 0 dX6_back_16 rfl rfl ?_
  refine r_get K h ffX6_22 0 rfl rfl dX6_back_17 ?_
  refine r_iln K hl 1 dX6_back_20 rfl rfl ?_
  refine r_zal K h 5 rfl (by omega) (by decide) dX6_back_21 ?_
  refine r_zne K 28 dX6_back_22 (by decide) (fun c22 => ?_) (fun c => absurd c hb)
  refine r_ic K (nI 0) dX6_back_28 k_0 ?_
  refine r_isn K hl 2 [_, _, _] dX6_back_29 rfl (by decide) rfl (fun ls hl => ?_)
  have loop : ∀ (j i : Nat), i + j = 512 → ∀ (H : Heap) (locs : List Loc), Hp g A s H locs (mW g a (nI 0) (um) (sm) (va_cpy fi f (512 * k) 0 i) (fw) (fp) (fi) (fk) (fs) (ft)) → ∀ ls, Lq ls 3 [some (.ref (a 0)), some (.int (nI k)), some (.int (nI i))] → W p0 l e R s m args below meth c H locs 0 0 Q (F0 m 30 ls []) := by
    intro j
    induction j with
    | zero =>
      intro i hk H locs h ls hl
      obtain rfl : i = 512 := by omega
      refine r_iln K hl 2 dX6_back_30 rfl rfl ?_
      refine r_sp K (nI 512) dX6_back_31 ks_512 ?_
      refine r_cgeN K 61 dX6_back_34 (by decide) (by omega) (by omega) (fun c34 => ?_) (fun c => absurd c (by omega))
      have h := h.arr 1 (fun j => fi (512 * k + j)) rfl (fun j hj => by rw [cpy_i (by omega) (by omega)]; rfl)
      have h := h.to (show _ = (mW g a (nI 0) (um) (sm) (fun j => fi (512 * k + j)) (fw) (fp) (fi) (fk) (fs) (ft)) from rfl)
      refine r_aln K hl 0 dX6_back_61 rfl rfl ?_
      refine r_ic K (nI 0) dX6_back_62 k_0 ?_
      refine r_put K h ffX6_66 pfX6_4 0 [_, _, _, _, _, _, _, _, _, _] [_, _, _, _, _, _, _, _] rfl rfl rfl (Nat.le_of_ble_eq_true rfl) rfl rfl dX6_back_63 (fun H locs h => ?_)
      refine r_aln K hl 0 dX6_back_66 rfl rfl ?_
      refine r_get K h ffX6_7 0 rfl rfl dX6_back_67 ?_
      refine r_ic K (nI 3) dX6_back_70 k_3 ?_
      refine r_ial K h 1 rfl (by omega) (by decide) dX6_back_71 ?_
      exact hr.1 _ _ _ _ _ dX6_back_72 h rfl
    | succ j ih =>
      intro i hk H locs h ls hl
      refine r_iln K hl 2 dX6_back_30 rfl rfl ?_
      refine r_sp K (nI 512) dX6_back_31 ks_512 ?_
      refine r_cgeN K 61 dX6_back_34 (by decide) (by omega) (by omega) (fun c => absurd c (by omega)) (fun c34 => ?_)
      refine r_aln K hl 0 dX6_back_37 rfl rfl ?_
      refine r_get K h ffX6_7 0 rfl rfl dX6_back_38 ?_
      refine r_iln K hl 2 dX6_back_41 rfl rfl ?_
      refine r_aln K hl 0 dX6_back_42 rfl rfl ?_
      refine r_get K h ffX6_19 0 rfl rfl dX6_back_43 ?_
      refine r_sp K (nI 512) dX6_back_46 ks_512 ?_
      refine r_iln K hl 1 dX6_back_49 rfl rfl ?_
      refine r_mulN K dX6_back_50 ?_
      refine r_iln K hl 2 dX6_back_51 rfl rfl ?_
      refine r_addN K dX6_back_52 ?_
      refine r_ial K h 4 rfl (by omega) (by decide) dX6_back_53 ?_
      refine r_ias K h 1 [_, _, _, _, _, _, _, _] rfl (by omega) (by decide) rfl dX6_back_54 (fun H locs h => ?_)
      refine r_incN K hl (k := 1) [_, _, _] dX6_back_55 rfl (by decide) rfl (fun ls hl => ?_)
      refine r_go K 30 dX6_back_58 (by decide) ?_
      exact ih (i + 1) (by omega) _ _ (h.to (by rw [← cpy_s, Nat.zero_add])) _ hl
  exact loop 512 0 rfl _ _ (h.to (by rw [cpy_0])) _ hl

set_option maxHeartbeats 4000000 in
set_option maxRecDepth 100000 in
theorem c_X6_photosBy_t (l : Launch) (g : GG) (a : Nat → Nat) (th um sm : Int32) (f : Row) (ph : Nat) (h5 : f 5 = nI ph) (hph : ph ≤ 24) : Ct l g yX6_photosBy cX6_photosBy 4 (some .int) 0 [.ref (a 0), .int (nI 1)] [mOb a th um sm, aI g (a 1) 512 f] (some (.int (nI (phL f ph)))) [mOb a th um sm, aI g (a 1) 512 f] := by
  refine Ct.start (by decide +kernel) (Nat.le_of_ble_eq_true rfl) (by simp [Value.category]) (Or.inr ⟨.int, _, rfl, rfl, rfl⟩) ?_
  intro p0 e R s m args below meth c A Q K hr h ls hl
  have hl : Lq ls 4 [some (.ref (a 0)), some (.int (nI 1)), none, none] := hl
  refine r_ic K (nI 0) dX6_photosBy_0 k_0 ?_
  refine r_isn K hl 2 [_, _, _, _] dX6_photosBy_1 rfl (by decide) rfl (fun ls hl => ?_)
  refine r_ic K (nI 0) dX6_photosBy_2 k_0 ?_
  refine r_isn K hl 3 [_, _, _, _] dX6_photosBy_3 rfl (by decide) rfl (fun ls hl => ?_)
  have loop : ∀ (j i : Nat), i + j = ph → ∀ (H : Heap) (locs : List Loc), Hp g A s H locs [mOb a th um sm, aI g (a 1) 512 f] → ∀ ls, Lq ls 4 [some (.ref (a 0)), some (.int (nI 1)), some (.int (nI (phL f i))), some (.int (nI i))] → W p0 l e R s m args below meth c H locs 0 0 Q (F0 m 4 ls []) := by
    intro j
    induction j with
    | zero =>
      intro i hk H locs h ls hl
      obtain rfl : i = ph := by omega
      refine r_iln K hl 3 dX6_photosBy_4 rfl rfl ?_
      refine r_aln K hl 0 dX6_photosBy_5 rfl rfl ?_
      refine r_get K h ffX6_7 0 rfl rfl dX6_photosBy_6 ?_
      refine r_ic K (nI 5) dX6_photosBy_9 k_5 ?_
      refine r_ialE K h 1 rfl (by omega) (by decide) h5 dX6_photosBy_10 ?_
      refine r_cgeN K 65 dX6_photosBy_11 (by decide) (by omega) (by omega) (fun c11 => ?_) (fun c => absurd c (by omega))
      refine r_iln K hl 2 dX6_photosBy_65 rfl rfl ?_
      exact hr.1 _ _ _ _ _ dX6_photosBy_66 h rfl
    | succ j ih =>
      intro i hk H locs h ls hl
      refine r_iln K hl 3 dX6_photosBy_4 rfl rfl ?_
      refine r_aln K hl 0 dX6_photosBy_5 rfl rfl ?_
      refine r_get K h ffX6_7 0 rfl rfl dX6_photosBy_6 ?_
      refine r_ic K (nI 5) dX6_photosBy_9 k_5 ?_
      refine r_ialE K h 1 rfl (by omega) (by decide) h5 dX6_photosBy_10 ?_
      refine r_cgeN K 65 dX6_photosBy_11 (by decide) (by omega) (by omega) (fun c => absurd c (by omega)) (fun c11 => ?_)
      refine r_iln K hl 2 dX6_photosBy_14 rfl rfl ?_
      refine r_iln K hl 1 dX6_photosBy_15 rfl rfl ?_
      refine r_zeq K 42 dX6_photosBy_16 (by decide) (fun c => absurd c (by decide)) (fun c16 => ?_)
      refine r_aln K hl 0 dX6_photosBy_19 rfl rfl ?_
      refine r_get K h ffX6_7 0 rfl rfl dX6_photosBy_20 ?_
      refine r_sp K (nI 200) dX6_photosBy_23 ks_200 ?_
      refine r_bp K (nI 10) dX6_photosBy_26 kb_10 ?_
      refine r_iln K hl 3 dX6_photosBy_28 rfl rfl ?_
      refine r_mulN K dX6_photosBy_29 ?_
      refine r_addN K dX6_photosBy_30 ?_
      refine r_ic K (nI 4) dX6_photosBy_31 k_4 ?_
      refine r_addN K dX6_photosBy_32 ?_
      refine r_ial K h 1 rfl (by omega) (by decide) dX6_photosBy_33 ?_
      refine r_bp K (-9) dX6_photosBy_34 kb_m9 ?_
      refine r_ceq K 56 dX6_photosBy_36 (by decide) (fun c36 => ?_) (fun c36 => ?_)
      · refine r_ic K (nI 0) dX6_photosBy_56 k_0 ?_
        refine r_addN K dX6_photosBy_57 ?_
        refine r_isn K hl 2 [_, _, _, _] dX6_photosBy_58 rfl (by decide) rfl (fun ls hl => ?_)
        refine r_incN K hl (k := 1) [_, _, _, _] dX6_photosBy_59 rfl (by decide) rfl (fun ls hl => ?_)
        refine r_go K 4 dX6_photosBy_62 (by decide) ?_
        exact ih (i + 1) (by omega) _ _ h _ (by rw [phL, if_pos c36]; exact hl)
      · refine r_go K 52 dX6_photosBy_39 (by decide) ?_
        refine r_ic K (nI 1) dX6_photosBy_52 k_1 ?_
        refine r_go K 57 dX6_photosBy_53 (by decide) ?_
        refine r_addN K dX6_photosBy_57 ?_
        refine r_isn K hl 2 [_, _, _, _] dX6_photosBy_58 rfl (by decide) rfl (fun ls hl => ?_)
        refine r_incN K hl (k := 1) [_, _, _, _] dX6_photosBy_59 rfl (by decide) rfl (fun ls hl => ?_)
        refine r_go K 4 dX6_photosBy_62 (by decide) ?_
        exact ih (i + 1) (by omega) _ _ h _ (by rw [phL, if_neg c36]; exact hl)
  exact loop ph 0 (by omega) _ _ h _ hl

set_option maxHeartbeats 4000000 in
set_option maxRecDepth 100000 in
theorem c_X6_photosBy_f (l : Launch) (g : GG) (a : Nat → Nat) (th um sm : Int32) (f : Row) (n ph wr : Nat) (h5 : f 5 = nI ph) (hph : ph ≤ 24) (hn : n ≤ 4) (h0 : f 0 = nI n) (h6 : f 6 = nI wr) (hwr : wr ≤ 24) (hw : PHW f ph) : Ct l g yX6_photosBy cX6_photosBy 4 (some .int) 2 [.ref (a 0), .int (nI 0)] [mOb a th um sm, aI g (a 1) 512 f] (some (.int (nI (phF f ph)))) [mOb a th um sm, aI g (a 1) 512 f] := by
  refine Ct.start (by decide +kernel) (Nat.le_of_ble_eq_true rfl) (by simp [Value.category]) (Or.inr ⟨.int, _, rfl, rfl, rfl⟩) ?_
  intro p0 e R s m args below meth c A Q K hr h ls hl
  have hl : Lq ls 4 [some (.ref (a 0)), some (.int (nI 0)), none, none] := hl
  refine r_ic K (nI 0) dX6_photosBy_0 k_0 ?_
  refine r_isn K hl 2 [_, _, _, _] dX6_photosBy_1 rfl (by decide) rfl (fun ls hl => ?_)
  refine r_ic K (nI 0) dX6_photosBy_2 k_0 ?_
  refine r_isn K hl 3 [_, _, _, _] dX6_photosBy_3 rfl (by decide) rfl (fun ls hl => ?_)
  have loop : ∀ (j i : Nat), i + j = ph → ∀ (H : Heap) (locs : List Loc), Hp g A s H locs [mOb a th um sm, aI g (a 1) 512 f] → ∀ ls, Lq ls 4 [some (.ref (a 0)), some (.int (nI 0)), some (.int (nI (phF f i))), some (.int (nI i))] → W p0 l e R s m args below meth c H locs 0 0 Q (F0 m 4 ls []) := by
    intro j
    induction j with
    | zero =>
      intro i hk H locs h ls hl
      obtain rfl : i = ph := by omega
      refine r_iln K hl 3 dX6_photosBy_4 rfl rfl ?_
      refine r_aln K hl 0 dX6_photosBy_5 rfl rfl ?_
      refine r_get K h ffX6_7 0 rfl rfl dX6_photosBy_6 ?_
      refine r_ic K (nI 5) dX6_photosBy_9 k_5 ?_
      refine r_ialE K h 1 rfl (by omega) (by decide) h5 dX6_photosBy_10 ?_
      refine r_cgeN K 65 dX6_photosBy_11 (by decide) (by omega) (by omega) (fun c11 => ?_) (fun c => absurd c (by omega))
      refine r_iln K hl 2 dX6_photosBy_65 rfl rfl ?_
      exact hr.1 _ _ _ _ _ dX6_photosBy_66 h rfl
    | succ j ih =>
      intro i hk H locs h ls hl
      refine r_iln K hl 3 dX6_photosBy_4 rfl rfl ?_
      refine r_aln K hl 0 dX6_photosBy_5 rfl rfl ?_
      refine r_get K h ffX6_7 0 rfl rfl dX6_photosBy_6 ?_
      refine r_ic K (nI 5) dX6_photosBy_9 k_5 ?_
      refine r_ialE K h 1 rfl (by omega) (by decide) h5 dX6_photosBy_10 ?_
      refine r_cgeN K 65 dX6_photosBy_11 (by decide) (by omega) (by omega) (fun c => absurd c (by omega)) (fun c11 => ?_)
      refine r_iln K hl 2 dX6_photosBy_14 rfl rfl ?_
      refine r_iln K hl 1 dX6_photosBy_15 rfl rfl ?_
      refine r_zeq K 42 dX6_photosBy_16 (by decide) (fun c16 => ?_) (fun c => absurd c (fun z => z rfl))
      obtain ⟨bg, en, p1, p2, p3, p4⟩ := hw i (by omega)
      have em : momG f wr n i bg (en + 1 - bg) = mMom f i := by rw [mMom, rWr_of h6 hwr, rN_of h0 hn, p1, p2, nI_clamp (by omega), nI_clamp (by omega)]
      refine r_aln K hl 0 dX6_photosBy_42 rfl rfl ?_
      refine r_iln K hl 3 dX6_photosBy_43 rfl rfl ?_
      refine r_callV K h hl (c_X6_momentOf l g a _ _ _ f n i wr bg en (by omega) hn h0 h6 hwr p1 p2 p3 p4) mc_X6_momentOf vm_X6_momentOf mlX6_103 0 rfl rfl rfl [0, 1] rfl rfl rfl [_, _] rfl (by decide) (by decide) rfl rfl (Nat.le_of_ble_eq_true rfl) ⟨Nat.zero_le _, Nat.zero_le _⟩ dX6_photosBy_44 (fun H locs h => ?_)
      refine W.eq (g2 := F0 m 47 ls [_, _]) rfl ?_
      refine r_bp K (-9) dX6_photosBy_47 kb_m9 ?_
      rw [em]
      refine r_cne K 56 dX6_photosBy_49 (by decide) (fun c49 => ?_) (fun c49 => ?_)
      · refine r_ic K (nI 0) dX6_photosBy_56 k_0 ?_
        refine r_addN K dX6_photosBy_57 ?_
        refine r_isn K hl 2 [_, _, _, _] dX6_photosBy_58 rfl (by decide) rfl (fun ls hl => ?_)
        refine r_incN K hl (k := 1) [_, _, _, _] dX6_photosBy_59 rfl (by decide) rfl (fun ls hl => ?_)
        refine r_go K 4 dX6_photosBy_62 (by decide) ?_
        exact ih (i + 1) (by omega) _ _ h _ (by rw [phF, if_neg c49]; exact hl)
      · refine r_ic K (nI 1) dX6_photosBy_52 k_1 ?_
        refine r_go K 57 dX6_photosBy_53 (by decide) ?_
        refine r_addN K dX6_photosBy_57 ?_
        refine r_isn K hl 2 [_, _, _, _] dX6_photosBy_58 rfl (by decide) rfl (fun ls hl => ?_)
        refine r_incN K hl (k := 1) [_, _, _, _] dX6_photosBy_59 rfl (by decide) rfl (fun ls hl => ?_)
        refine r_go K 4 dX6_photosBy_62 (by decide) ?_
        exact ih (i + 1) (by omega) _ _ h _ (by rw [phF, if_pos c49]; exact hl)
  exact loop ph 0 (by omega) _ _ h _ hl

set_option maxHeartbeats 4000000 in
set_option maxRecDepth 100000 in
theorem c_X6_idleOnes (l : Launch) (g : GG) (a : Nat → Nat) (th um sm : Int32) (f : Row) (n : Nat) (hn : n ≤ 4) (h0 : f 0 = nI n) : Ct l g yX6_idleOnes cX6_idleOnes 3 (some .int) 2 [.ref (a 0)] [mOb a th um sm, aI g (a 1) 512 f] (some (.int (nI (mskK (idB f) n)))) [mOb a th um sm, aI g (a 1) 512 f] := by
  refine Ct.start (by decide +kernel) (Nat.le_of_ble_eq_true rfl) (by simp [Value.category]) (Or.inr ⟨.int, _, rfl, rfl, rfl⟩) ?_
  intro p0 e R s m args below meth c A Q K hr h ls hl
  have hl : Lq ls 3 [some (.ref (a 0)), none, none] := hl
  refine r_ic K (nI 0) dX6_idleOnes_0 k_0 ?_
  refine r_isn K hl 1 [_, _, _] dX6_idleOnes_1 rfl (by decide) rfl (fun ls hl => ?_)
  refine r_ic K (nI 0) dX6_idleOnes_2 k_0 ?_
  refine r_isn K hl 2 [_, _, _] dX6_idleOnes_3 rfl (by decide) rfl (fun ls hl => ?_)
  have loop : ∀ (j k : Nat), k + j = n → ∀ (H : Heap) (locs : List Loc), Hp g A s H locs [mOb a th um sm, aI g (a 1) 512 f] → ∀ ls, Lq ls 3 [some (.ref (a 0)), some (.int (nI (mskK (idB f) k))), some (.int (nI k))] → W p0 l e R s m args below meth c H locs 0 0 Q (F0 m 4 ls []) := by
    intro j
    induction j with
    | zero =>
      intro k hk H locs h ls hl
      obtain rfl : k = n := by omega
      refine r_iln K hl 2 dX6_idleOnes_4 rfl rfl ?_
      refine r_aln K hl 0 dX6_idleOnes_5 rfl rfl ?_
      refine r_get K h ffX6_7 0 rfl rfl dX6_idleOnes_6 ?_
      refine r_ic K (nI 0) dX6_idleOnes_9 k_0 ?_
      refine r_ialE K h 1 rfl (by omega) (by decide) h0 dX6_idleOnes_10 ?_
      refine r_cgeN K 38 dX6_idleOnes_11 (by decide) (by omega) (by omega) (fun c11 => ?_) (fun c => absurd c (by omega))
      refine r_iln K hl 1 dX6_idleOnes_38 rfl rfl ?_
      exact hr.1 _ _ _ _ _ dX6_idleOnes_39 h rfl
    | succ j ih =>
      intro k hk H locs h ls hl
      refine r_iln K hl 2 dX6_idleOnes_4 rfl rfl ?_
      refine r_aln K hl 0 dX6_idleOnes_5 rfl rfl ?_
      refine r_get K h ffX6_7 0 rfl rfl dX6_idleOnes_6 ?_
      refine r_ic K (nI 0) dX6_idleOnes_9 k_0 ?_
      refine r_ialE K h 1 rfl (by omega) (by decide) h0 dX6_idleOnes_10 ?_
      refine r_cgeN K 38 dX6_idleOnes_11 (by decide) (by omega) (by omega) (fun c => absurd c (by omega)) (fun c11 => ?_)
      refine r_iln K hl 1 dX6_idleOnes_14 rfl rfl ?_
      refine r_aln K hl 0 dX6_idleOnes_15 rfl rfl ?_
      refine r_iln K hl 2 dX6_idleOnes_16 rfl rfl ?_
      refine r_callV K h hl (c_X6_isIdle l g a _ _ _ f k (by omega)) mc_X6_isIdle vm_X6_isIdle mlX6_79 0 rfl rfl rfl [0, 1] rfl rfl rfl [_, _] rfl (by decide) (by decide) rfl rfl (Nat.le_of_ble_eq_true rfl) ⟨Nat.zero_le _, Nat.zero_le _⟩ dX6_idleOnes_17 (fun H locs h => ?_)
      refine W.eq (g2 := F0 m 20 ls [_, _]) rfl ?_
      have hlt := mskK_lt (idB f) k
      have h16 : mskK (idB f) k < 16 := by rcases (by omega : k = 0 ∨ k = 1 ∨ k = 2 ∨ k = 3) with rfl | rfl | rfl | rfl <;> omega
      have eid : idB f (k + 1) = decide (f (32 + 42 * k + 0) = 0) := rfl
      refine r_zeqB K 29 dX6_idleOnes_20 (by decide) (fun c20 => ?_) (fun c20 => ?_)
      · refine r_ic K (nI 0) dX6_idleOnes_29 k_0 ?_
        refine r_or K dX6_idleOnes_30 ?_
        refine r_isn K hl 1 [_, _, _] dX6_idleOnes_31 rfl (by decide) rfl (fun ls hl => ?_)
        refine r_incN K hl (k := 1) [_, _, _] dX6_idleOnes_32 rfl (by decide) rfl (fun ls hl => ?_)
        refine r_go K 4 dX6_idleOnes_35 (by decide) ?_
        rw [or_0, show mskK (idB f) k = mskK (idB f) (k + 1) by rw [mskK, eid, c20]; rfl] at hl
        exact ih (k + 1) (by omega) _ _ h _ hl
      · refine r_ic K (nI 1) dX6_idleOnes_23 k_1 ?_
        refine r_iln K hl 2 dX6_idleOnes_24 rfl rfl ?_
        refine r_shl K dX6_idleOnes_25 ?_
        refine r_go K 30 dX6_idleOnes_26 (by decide) ?_
        refine r_or K dX6_idleOnes_30 ?_
        refine r_isn K hl 1 [_, _, _] dX6_idleOnes_31 rfl (by decide) rfl (fun ls hl => ?_)
        refine r_incN K hl (k := 1) [_, _, _] dX6_idleOnes_32 rfl (by decide) rfl (fun ls hl => ?_)
        refine r_go K 4 dX6_idleOnes_35 (by decide) ?_
        rw [or_bit k (by omega) _ h16 hlt, show mskK (idB f) k + 2 ^ k = mskK (idB f) (k + 1) by rw [mskK, eid, c20]; rfl] at hl
        exact ih (k + 1) (by omega) _ _ h _ hl
  exact loop n 0 (by omega) _ _ h _ hl

set_option maxHeartbeats 4000000 in
set_option maxRecDepth 100000 in
theorem c_X6_count_0 (l : Launch) (g : GG) (a : Nat → Nat) (th um sm : Int32) (f fw fp fi fk fs ft : Row) (n ph wr : Nat) (h5 : f 5 = nI ph) (hph : ph ≤ 24) (hn : n ≤ 4) (h0 : f 0 = nI n) (h6 : f 6 = nI wr) (hwr : wr ≤ 24) (hw : PHW f ph) : Ct l g yX6_count cX6_count 2 (some .int) 3 [.ref (a 0), .int (nI 0)] (mW g a (th) (um) (sm) (f) (fw) (fp) (fi) (fk) (fs) (ft)) (some (.int (f 0))) (mW g a (nI 0) (um) (sm) (f) (fw) (fp) (fi) (fk) (fs) (ft)) := by
  refine Ct.start (by decide +kernel) (Nat.le_of_ble_eq_true rfl) (by simp [Value.category]) (Or.inr ⟨.int, _, rfl, rfl, rfl⟩) ?_
  intro p0 e R s m args below meth c A Q K hr h ls hl
  have hl : Lq ls 2 [some (.ref (a 0)), some (.int (nI 0))] := hl
  refine r_aln K hl 0 dX6_count_0 rfl rfl ?_
  refine r_ic K (nI 0) dX6_count_1 k_0 ?_
  refine r_put K h ffX6_36 pfX6_0 0 [_, _, _, _, _, _, _, _, _, _] [_, _, _, _, _, _, _, _] rfl rfl rfl (Nat.le_of_ble_eq_true rfl) rfl rfl dX6_count_2 (fun H locs h => ?_)
  refine r_iln K hl 1 dX6_count_5 rfl rfl ?_
  refine r_tsO K 78 dX6_count_6 (by decide) (by decide) ?_
  refine r_iln K hl 1 dX6_count_78 rfl rfl ?_
  refine r_ic K (nI 0) dX6_count_79 k_0 ?_
  refine r_ic K (nI 4) dX6_count_80 k_4 ?_
  refine r_callS K h hl (c_X6_in l g (nI 0) (nI 0) (nI 4)) mc_X6_in st_X6_in mlX6_69 [] rfl rfl rfl [_, _, _, _, _, _, _, _] rfl (by decide) (by decide) rfl rfl (Nat.le_of_ble_eq_true rfl) ⟨Nat.zero_le _, Nat.zero_le _⟩ dX6_count_81 (fun H locs h => ?_)
  refine W.eq (g2 := F0 m 84 ls [_]) rfl ?_
  refine r_zneB K 91 dX6_count_84 (by decide) (fun _ => ?_) (fun c => absurd (((inB_of (Nat.zero_le 0) (by omega) (by omega))).symm.trans c) (by decide))
  refine r_iln K hl 1 dX6_count_91 rfl rfl ?_
  refine r_ic K (nI 4) dX6_count_92 k_4 ?_
  refine r_cneN K 105 dX6_count_93 (by decide) (by omega) (by omega) (fun c93 => ?_) (fun c => absurd c (by decide))
  refine r_aln K hl 0 dX6_count_105 rfl rfl ?_
  refine r_get K h ffX6_7 0 rfl rfl dX6_count_106 ?_
  refine r_iln K hl 1 dX6_count_109 rfl rfl ?_
  refine r_ial K h 1 rfl (by omega) (by decide) dX6_count_110 ?_
  exact hr.1 _ _ _ _ _ dX6_count_111 h rfl

set_option maxHeartbeats 4000000 in
set_option maxRecDepth 100000 in
theorem c_X6_count_1 (l : Launch) (g : GG) (a : Nat → Nat) (th um sm : Int32) (f fw fp fi fk fs ft : Row) (n ph wr : Nat) (h5 : f 5 = nI ph) (hph : ph ≤ 24) (hn : n ≤ 4) (h0 : f 0 = nI n) (h6 : f 6 = nI wr) (hwr : wr ≤ 24) (hw : PHW f ph) : Ct l g yX6_count cX6_count 2 (some .int) 3 [.ref (a 0), .int (nI 1)] (mW g a (th) (um) (sm) (f) (fw) (fp) (fi) (fk) (fs) (ft)) (some (.int (f 1))) (mW g a (nI 0) (um) (sm) (f) (fw) (fp) (fi) (fk) (fs) (ft)) := by
  refine Ct.start (by decide +kernel) (Nat.le_of_ble_eq_true rfl) (by simp [Value.category]) (Or.inr ⟨.int, _, rfl, rfl, rfl⟩) ?_
  intro p0 e R s m args below meth c A Q K hr h ls hl
  have hl : Lq ls 2 [some (.ref (a 0)), some (.int (nI 1))] := hl
  refine r_aln K hl 0 dX6_count_0 rfl rfl ?_
  refine r_ic K (nI 0) dX6_count_1 k_0 ?_
  refine r_put K h ffX6_36 pfX6_0 0 [_, _, _, _, _, _, _, _, _, _] [_, _, _, _, _, _, _, _] rfl rfl rfl (Nat.le_of_ble_eq_true rfl) rfl rfl dX6_count_2 (fun H locs h => ?_)
  refine r_iln K hl 1 dX6_count_5 rfl rfl ?_
  refine r_tsO K 78 dX6_count_6 (by decide) (by decide) ?_
  refine r_iln K hl 1 dX6_count_78 rfl rfl ?_
  refine r_ic K (nI 0) dX6_count_79 k_0 ?_
  refine r_ic K (nI 4) dX6_count_80 k_4 ?_
  refine r_callS K h hl (c_X6_in l g (nI 1) (nI 0) (nI 4)) mc_X6_in st_X6_in mlX6_69 [] rfl rfl rfl [_, _, _, _, _, _, _, _] rfl (by decide) (by decide) rfl rfl (Nat.le_of_ble_eq_true rfl) ⟨Nat.zero_le _, Nat.zero_le _⟩ dX6_count_81 (fun H locs h => ?_)
  refine W.eq (g2 := F0 m 84 ls [_]) rfl ?_
  refine r_zneB K 91 dX6_count_84 (by decide) (fun _ => ?_) (fun c => absurd (((inB_of (Nat.zero_le 1) (by omega) (by omega))).symm.trans c) (by decide))
  refine r_iln K hl 1 dX6_count_91 rfl rfl ?_
  refine r_ic K (nI 4) dX6_count_92 k_4 ?_
  refine r_cneN K 105 dX6_count_93 (by decide) (by omega) (by omega) (fun c93 => ?_) (fun c => absurd c (by decide))
  refine r_aln K hl 0 dX6_count_105 rfl rfl ?_
  refine r_get K h ffX6_7 0 rfl rfl dX6_count_106 ?_
  refine r_iln K hl 1 dX6_count_109 rfl rfl ?_
  refine r_ial K h 1 rfl (by omega) (by decide) dX6_count_110 ?_
  exact hr.1 _ _ _ _ _ dX6_count_111 h rfl

set_option maxHeartbeats 4000000 in
set_option maxRecDepth 100000 in
theorem c_X6_count_2 (l : Launch) (g : GG) (a : Nat → Nat) (th um sm : Int32) (f fw fp fi fk fs ft : Row) (n ph wr : Nat) (h5 : f 5 = nI ph) (hph : ph ≤ 24) (hn : n ≤ 4) (h0 : f 0 = nI n) (h6 : f 6 = nI wr) (hwr : wr ≤ 24) (hw : PHW f ph) : Ct l g yX6_count cX6_count 2 (some .int) 3 [.ref (a 0), .int (nI 2)] (mW g a (th) (um) (sm) (f) (fw) (fp) (fi) (fk) (fs) (ft)) (some (.int (f 2))) (mW g a (nI 0) (um) (sm) (f) (fw) (fp) (fi) (fk) (fs) (ft)) := by
  refine Ct.start (by decide +kernel) (Nat.le_of_ble_eq_true rfl) (by simp [Value.category]) (Or.inr ⟨.int, _, rfl, rfl, rfl⟩) ?_
  intro p0 e R s m args below meth c A Q K hr h ls hl
  have hl : Lq ls 2 [some (.ref (a 0)), some (.int (nI 2))] := hl
  refine r_aln K hl 0 dX6_count_0 rfl rfl ?_
  refine r_ic K (nI 0) dX6_count_1 k_0 ?_
  refine r_put K h ffX6_36 pfX6_0 0 [_, _, _, _, _, _, _, _, _, _] [_, _, _, _, _, _, _, _] rfl rfl rfl (Nat.le_of_ble_eq_true rfl) rfl rfl dX6_count_2 (fun H locs h => ?_)
  refine r_iln K hl 1 dX6_count_5 rfl rfl ?_
  refine r_tsO K 78 dX6_count_6 (by decide) (by decide) ?_
  refine r_iln K hl 1 dX6_count_78 rfl rfl ?_
  refine r_ic K (nI 0) dX6_count_79 k_0 ?_
  refine r_ic K (nI 4) dX6_count_80 k_4 ?_
  refine r_callS K h hl (c_X6_in l g (nI 2) (nI 0) (nI 4)) mc_X6_in st_X6_in mlX6_69 [] rfl rfl rfl [_, _, _, _, _, _, _, _] rfl (by decide) (by decide) rfl rfl (Nat.le_of_ble_eq_true rfl) ⟨Nat.zero_le _, Nat.zero_le _⟩ dX6_count_81 (fun H locs h => ?_)
  refine W.eq (g2 := F0 m 84 ls [_]) rfl ?_
  refine r_zneB K 91 dX6_count_84 (by decide) (fun _ => ?_) (fun c => absurd (((inB_of (Nat.zero_le 2) (by omega) (by omega))).symm.trans c) (by decide))
  refine r_iln K hl 1 dX6_count_91 rfl rfl ?_
  refine r_ic K (nI 4) dX6_count_92 k_4 ?_
  refine r_cneN K 105 dX6_count_93 (by decide) (by omega) (by omega) (fun c93 => ?_) (fun c => absurd c (by decide))
  refine r_aln K hl 0 dX6_count_105 rfl rfl ?_
  refine r_get K h ffX6_7 0 rfl rfl dX6_count_106 ?_
  refine r_iln K hl 1 dX6_count_109 rfl rfl ?_
  refine r_ial K h 1 rfl (by omega) (by decide) dX6_count_110 ?_
  exact hr.1 _ _ _ _ _ dX6_count_111 h rfl

set_option maxHeartbeats 4000000 in
set_option maxRecDepth 100000 in
theorem c_X6_count_3 (l : Launch) (g : GG) (a : Nat → Nat) (th um sm : Int32) (f fw fp fi fk fs ft : Row) (n ph wr : Nat) (h5 : f 5 = nI ph) (hph : ph ≤ 24) (hn : n ≤ 4) (h0 : f 0 = nI n) (h6 : f 6 = nI wr) (hwr : wr ≤ 24) (hw : PHW f ph) : Ct l g yX6_count cX6_count 2 (some .int) 3 [.ref (a 0), .int (nI 3)] (mW g a (th) (um) (sm) (f) (fw) (fp) (fi) (fk) (fs) (ft)) (some (.int (f 3))) (mW g a (nI 0) (um) (sm) (f) (fw) (fp) (fi) (fk) (fs) (ft)) := by
  refine Ct.start (by decide +kernel) (Nat.le_of_ble_eq_true rfl) (by simp [Value.category]) (Or.inr ⟨.int, _, rfl, rfl, rfl⟩) ?_
  intro p0 e R s m args below meth c A Q K hr h ls hl
  have hl : Lq ls 2 [some (.ref (a 0)), some (.int (nI 3))] := hl
  refine r_aln K hl 0 dX6_count_0 rfl rfl ?_
  refine r_ic K (nI 0) dX6_count_1 k_0 ?_
  refine r_put K h ffX6_36 pfX6_0 0 [_, _, _, _, _, _, _, _, _, _] [_, _, _, _, _, _, _, _] rfl rfl rfl (Nat.le_of_ble_eq_true rfl) rfl rfl dX6_count_2 (fun H locs h => ?_)
  refine r_iln K hl 1 dX6_count_5 rfl rfl ?_
  refine r_tsO K 78 dX6_count_6 (by decide) (by decide) ?_
  refine r_iln K hl 1 dX6_count_78 rfl rfl ?_
  refine r_ic K (nI 0) dX6_count_79 k_0 ?_
  refine r_ic K (nI 4) dX6_count_80 k_4 ?_
  refine r_callS K h hl (c_X6_in l g (nI 3) (nI 0) (nI 4)) mc_X6_in st_X6_in mlX6_69 [] rfl rfl rfl [_, _, _, _, _, _, _, _] rfl (by decide) (by decide) rfl rfl (Nat.le_of_ble_eq_true rfl) ⟨Nat.zero_le _, Nat.zero_le _⟩ dX6_count_81 (fun H locs h => ?_)
  refine W.eq (g2 := F0 m 84 ls [_]) rfl ?_
  refine r_zneB K 91 dX6_count_84 (by decide) (fun _ => ?_) (fun c => absurd (((inB_of (Nat.zero_le 3) (by omega) (by omega))).symm.trans c) (by decide))
  refine r_iln K hl 1 dX6_count_91 rfl rfl ?_
  refine r_ic K (nI 4) dX6_count_92 k_4 ?_
  refine r_cneN K 105 dX6_count_93 (by decide) (by omega) (by omega) (fun c93 => ?_) (fun c => absurd c (by decide))
  refine r_aln K hl 0 dX6_count_105 rfl rfl ?_
  refine r_get K h ffX6_7 0 rfl rfl dX6_count_106 ?_
  refine r_iln K hl 1 dX6_count_109 rfl rfl ?_
  refine r_ial K h 1 rfl (by omega) (by decide) dX6_count_110 ?_
  exact hr.1 _ _ _ _ _ dX6_count_111 h rfl

set_option maxHeartbeats 4000000 in
set_option maxRecDepth 100000 in
theorem c_X6_count_4 (l : Launch) (g : GG) (a : Nat → Nat) (th um sm : Int32) (f fw fp fi fk fs ft : Row) (n ph wr : Nat) (h5 : f 5 = nI ph) (hph : ph ≤ 24) (hn : n ≤ 4) (h0 : f 0 = nI n) (h6 : f 6 = nI wr) (hwr : wr ≤ 24) (hw : PHW f ph) : Ct l g yX6_count cX6_count 2 (some .int) 3 [.ref (a 0), .int (nI 4)] (mW g a (th) (um) (sm) (f) (fw) (fp) (fi) (fk) (fs) (ft)) (some (.int (f 5))) (mW g a (nI 0) (um) (sm) (f) (fw) (fp) (fi) (fk) (fs) (ft)) := by
  refine Ct.start (by decide +kernel) (Nat.le_of_ble_eq_true rfl) (by simp [Value.category]) (Or.inr ⟨.int, _, rfl, rfl, rfl⟩) ?_
  intro p0 e R s m args below meth c A Q K hr h ls hl
  have hl : Lq ls 2 [some (.ref (a 0)), some (.int (nI 4))] := hl
  refine r_aln K hl 0 dX6_count_0 rfl rfl ?_
  refine r_ic K (nI 0) dX6_count_1 k_0 ?_
  refine r_put K h ffX6_36 pfX6_0 0 [_, _, _, _, _, _, _, _, _, _] [_, _, _, _, _, _, _, _] rfl rfl rfl (Nat.le_of_ble_eq_true rfl) rfl rfl dX6_count_2 (fun H locs h => ?_)
  refine r_iln K hl 1 dX6_count_5 rfl rfl ?_
  refine r_tsO K 78 dX6_count_6 (by decide) (by decide) ?_
  refine r_iln K hl 1 dX6_count_78 rfl rfl ?_
  refine r_ic K (nI 0) dX6_count_79 k_0 ?_
  refine r_ic K (nI 4) dX6_count_80 k_4 ?_
  refine r_callS K h hl (c_X6_in l g (nI 4) (nI 0) (nI 4)) mc_X6_in st_X6_in mlX6_69 [] rfl rfl rfl [_, _, _, _, _, _, _, _] rfl (by decide) (by decide) rfl rfl (Nat.le_of_ble_eq_true rfl) ⟨Nat.zero_le _, Nat.zero_le _⟩ dX6_count_81 (fun H locs h => ?_)
  refine W.eq (g2 := F0 m 84 ls [_]) rfl ?_
  refine r_zneB K 91 dX6_count_84 (by decide) (fun _ => ?_) (fun c => absurd (((inB_of (Nat.zero_le 4) (by omega) (by omega))).symm.trans c) (by decide))
  refine r_iln K hl 1 dX6_count_91 rfl rfl ?_
  refine r_ic K (nI 4) dX6_count_92 k_4 ?_
  refine r_cneN K 105 dX6_count_93 (by decide) (by omega) (by omega) (fun c => absurd rfl c) (fun c93 => ?_)
  refine r_aln K hl 0 dX6_count_96 rfl rfl ?_
  refine r_get K h ffX6_7 0 rfl rfl dX6_count_97 ?_
  refine r_ic K (nI 5) dX6_count_100 k_5 ?_
  refine r_ial K h 1 rfl (by omega) (by decide) dX6_count_101 ?_
  refine r_go K 111 dX6_count_102 (by decide) ?_
  exact hr.1 _ _ _ _ _ dX6_count_111 h rfl

set_option maxHeartbeats 4000000 in
set_option maxRecDepth 100000 in
theorem c_X6_count_5 (l : Launch) (g : GG) (a : Nat → Nat) (th um sm : Int32) (f fw fp fi fk fs ft : Row) (n ph wr : Nat) (h5 : f 5 = nI ph) (hph : ph ≤ 24) (hn : n ≤ 4) (h0 : f 0 = nI n) (h6 : f 6 = nI wr) (hwr : wr ≤ 24) (hw : PHW f ph) : Ct l g yX6_count cX6_count 2 (some .int) 3 [.ref (a 0), .int (nI 5)] (mW g a (th) (um) (sm) (f) (fw) (fp) (fi) (fk) (fs) (ft)) (some (.int (nI (phL f ph)))) (mW g a (nI 0) (um) (sm) (f) (fw) (fp) (fi) (fk) (fs) (ft)) := by
  refine Ct.start (by decide +kernel) (Nat.le_of_ble_eq_true rfl) (by simp [Value.category]) (Or.inr ⟨.int, _, rfl, rfl, rfl⟩) ?_
  intro p0 e R s m args below meth c A Q K hr h ls hl
  have hl : Lq ls 2 [some (.ref (a 0)), some (.int (nI 5))] := hl
  refine r_aln K hl 0 dX6_count_0 rfl rfl ?_
  refine r_ic K (nI 0) dX6_count_1 k_0 ?_
  refine r_put K h ffX6_36 pfX6_0 0 [_, _, _, _, _, _, _, _, _, _] [_, _, _, _, _, _, _, _] rfl rfl rfl (Nat.le_of_ble_eq_true rfl) rfl rfl dX6_count_2 (fun H locs h => ?_)
  refine r_iln K hl 1 dX6_count_5 rfl rfl ?_
  refine r_tsI K 38 44 dX6_count_6 (by decide) (by decide) (by decide) (by decide) ?_
  refine r_aln K hl 0 dX6_count_44 rfl rfl ?_
  refine r_ic K (nI 1) dX6_count_45 k_1 ?_
  refine r_callV K h hl (c_X6_photosBy_t l g a _ _ _ f ph h5 hph) mc_X6_photosBy vm_X6_photosBy mlX6_123 0 rfl rfl rfl [0, 1] rfl rfl rfl [_, _, _, _, _, _, _, _] rfl (by decide) (by decide) rfl rfl (Nat.le_of_ble_eq_true rfl) ⟨Nat.zero_le _, Nat.zero_le _⟩ dX6_count_46 (fun H locs h => ?_)
  refine W.eq (g2 := F0 m 49 ls [_]) rfl ?_
  exact hr.1 _ _ _ _ _ dX6_count_49 h rfl

set_option maxHeartbeats 4000000 in
set_option maxRecDepth 100000 in
theorem c_X6_count_6 (l : Launch) (g : GG) (a : Nat → Nat) (th um sm : Int32) (f fw fp fi fk fs ft : Row) (n ph wr : Nat) (h5 : f 5 = nI ph) (hph : ph ≤ 24) (hn : n ≤ 4) (h0 : f 0 = nI n) (h6 : f 6 = nI wr) (hwr : wr ≤ 24) (hw : PHW f ph) : Ct l g yX6_count cX6_count 2 (some .int) 3 [.ref (a 0), .int (nI 6)] (mW g a (th) (um) (sm) (f) (fw) (fp) (fi) (fk) (fs) (ft)) (some (.int (nI (phF f ph)))) (mW g a (nI 0) (um) (sm) (f) (fw) (fp) (fi) (fk) (fs) (ft)) := by
  refine Ct.start (by decide +kernel) (Nat.le_of_ble_eq_true rfl) (by simp [Value.category]) (Or.inr ⟨.int, _, rfl, rfl, rfl⟩) ?_
  intro p0 e R s m args below meth c A Q K hr h ls hl
  have hl : Lq ls 2 [some (.ref (a 0)), some (.int (nI 6))] := hl
  refine r_aln K hl 0 dX6_count_0 rfl rfl ?_
  refine r_ic K (nI 0) dX6_count_1 k_0 ?_
  refine r_put K h ffX6_36 pfX6_0 0 [_, _, _, _, _, _, _, _, _, _] [_, _, _, _, _, _, _, _] rfl rfl rfl (Nat.le_of_ble_eq_true rfl) rfl rfl dX6_count_2 (fun H locs h => ?_)
  refine r_iln K hl 1 dX6_count_5 rfl rfl ?_
  refine r_tsI K 44 50 dX6_count_6 (by decide) (by decide) (by decide) (by decide) ?_
  refine r_aln K hl 0 dX6_count_50 rfl rfl ?_
  refine r_ic K (nI 0) dX6_count_51 k_0 ?_
  refine r_callV K h hl (c_X6_photosBy_f l g a _ _ _ f n ph wr h5 hph hn h0 h6 hwr hw) mc_X6_photosBy vm_X6_photosBy mlX6_123 0 rfl rfl rfl [0, 1] rfl rfl rfl [_, _, _, _, _, _, _, _] rfl (by decide) (by decide) rfl rfl (Nat.le_of_ble_eq_true rfl) ⟨Nat.zero_le _, Nat.zero_le _⟩ dX6_count_52 (fun H locs h => ?_)
  refine W.eq (g2 := F0 m 55 ls [_]) rfl ?_
  exact hr.1 _ _ _ _ _ dX6_count_55 h rfl

set_option maxHeartbeats 4000000 in
set_option maxRecDepth 100000 in
theorem c_X6_count_7 (l : Launch) (g : GG) (a : Nat → Nat) (th um sm : Int32) (f fw fp fi fk fs ft : Row) (n ph wr : Nat) (h5 : f 5 = nI ph) (hph : ph ≤ 24) (hn : n ≤ 4) (h0 : f 0 = nI n) (h6 : f 6 = nI wr) (hwr : wr ≤ 24) (hw : PHW f ph) : Ct l g yX6_count cX6_count 2 (some .int) 3 [.ref (a 0), .int (nI 7)] (mW g a (th) (um) (sm) (f) (fw) (fp) (fi) (fk) (fs) (ft)) (some (.int (nI (mskK (idB f) n)))) (mW g a (nI 0) (um) (sm) (f) (fw) (fp) (fi) (fk) (fs) (ft)) := by
  refine Ct.start (by decide +kernel) (Nat.le_of_ble_eq_true rfl) (by simp [Value.category]) (Or.inr ⟨.int, _, rfl, rfl, rfl⟩) ?_
  intro p0 e R s m args below meth c A Q K hr h ls hl
  have hl : Lq ls 2 [some (.ref (a 0)), some (.int (nI 7))] := hl
  refine r_aln K hl 0 dX6_count_0 rfl rfl ?_
  refine r_ic K (nI 0) dX6_count_1 k_0 ?_
  refine r_put K h ffX6_36 pfX6_0 0 [_, _, _, _, _, _, _, _, _, _] [_, _, _, _, _, _, _, _] rfl rfl rfl (Nat.le_of_ble_eq_true rfl) rfl rfl dX6_count_2 (fun H locs h => ?_)
  refine r_iln K hl 1 dX6_count_5 rfl rfl ?_
  refine r_tsI K 50 56 dX6_count_6 (by decide) (by decide) (by decide) (by decide) ?_
  refine r_aln K hl 0 dX6_count_56 rfl rfl ?_
  refine r_callV K h hl (c_X6_idleOnes l g a _ _ _ f n hn h0) mc_X6_idleOnes vm_X6_idleOnes mlX6_127 0 rfl rfl rfl [0, 1] rfl rfl rfl [_, _, _, _, _, _, _, _] rfl (by decide) (by decide) rfl rfl (Nat.le_of_ble_eq_true rfl) ⟨Nat.zero_le _, Nat.zero_le _⟩ dX6_count_57 (fun H locs h => ?_)
  refine W.eq (g2 := F0 m 60 ls [_]) rfl ?_
  exact hr.1 _ _ _ _ _ dX6_count_60 h rfl

set_option maxHeartbeats 4000000 in
set_option maxRecDepth 100000 in
theorem c_X6_count_8 (l : Launch) (g : GG) (a : Nat → Nat) (th um sm : Int32) (f fw fp fi fk fs ft : Row) (n ph wr : Nat) (h5 : f 5 = nI ph) (hph : ph ≤ 24) (hn : n ≤ 4) (h0 : f 0 = nI n) (h6 : f 6 = nI wr) (hwr : wr ≤ 24) (hw : PHW f ph) : Ct l g yX6_count cX6_count 2 (some .int) 3 [.ref (a 0), .int (nI 8)] (mW g a (th) (um) (sm) (f) (fw) (fp) (fi) (fk) (fs) (ft)) (some (.int (f 4))) (mW g a (nI 0) (um) (sm) (f) (fw) (fp) (fi) (fk) (fs) (ft)) := by
  refine Ct.start (by decide +kernel) (Nat.le_of_ble_eq_true rfl) (by simp [Value.category]) (Or.inr ⟨.int, _, rfl, rfl, rfl⟩) ?_
  intro p0 e R s m args below meth c A Q K hr h ls hl
  have hl : Lq ls 2 [some (.ref (a 0)), some (.int (nI 8))] := hl
  refine r_aln K hl 0 dX6_count_0 rfl rfl ?_
  refine r_ic K (nI 0) dX6_count_1 k_0 ?_
  refine r_put K h ffX6_36 pfX6_0 0 [_, _, _, _, _, _, _, _, _, _] [_, _, _, _, _, _, _, _] rfl rfl rfl (Nat.le_of_ble_eq_true rfl) rfl rfl dX6_count_2 (fun H locs h => ?_)
  refine r_iln K hl 1 dX6_count_5 rfl rfl ?_
  refine r_tsI K 55 61 dX6_count_6 (by decide) (by decide) (by decide) (by decide) ?_
  refine r_aln K hl 0 dX6_count_61 rfl rfl ?_
  refine r_get K h ffX6_7 0 rfl rfl dX6_count_62 ?_
  refine r_ic K (nI 4) dX6_count_65 k_4 ?_
  refine r_ial K h 1 rfl (by omega) (by decide) dX6_count_66 ?_
  exact hr.1 _ _ _ _ _ dX6_count_67 h rfl

set_option maxHeartbeats 4000000 in
set_option maxRecDepth 100000 in
theorem c_X6_count_9 (l : Launch) (g : GG) (a : Nat → Nat) (th um sm : Int32) (f fw fp fi fk fs ft : Row) (n ph wr : Nat) (h5 : f 5 = nI ph) (hph : ph ≤ 24) (hn : n ≤ 4) (h0 : f 0 = nI n) (h6 : f 6 = nI wr) (hwr : wr ≤ 24) (hw : PHW f ph) : Ct l g yX6_count cX6_count 2 (some .int) 3 [.ref (a 0), .int (nI 9)] (mW g a (th) (um) (sm) (f) (fw) (fp) (fi) (fk) (fs) (ft)) (some (.int (sm))) (mW g a (nI 0) (um) (sm) (f) (fw) (fp) (fi) (fk) (fs) (ft)) := by
  refine Ct.start (by decide +kernel) (Nat.le_of_ble_eq_true rfl) (by simp [Value.category]) (Or.inr ⟨.int, _, rfl, rfl, rfl⟩) ?_
  intro p0 e R s m args below meth c A Q K hr h ls hl
  have hl : Lq ls 2 [some (.ref (a 0)), some (.int (nI 9))] := hl
  refine r_aln K hl 0 dX6_count_0 rfl rfl ?_
  refine r_ic K (nI 0) dX6_count_1 k_0 ?_
  refine r_put K h ffX6_36 pfX6_0 0 [_, _, _, _, _, _, _, _, _, _] [_, _, _, _, _, _, _, _] rfl rfl rfl (Nat.le_of_ble_eq_true rfl) rfl rfl dX6_count_2 (fun H locs h => ?_)
  refine r_iln K hl 1 dX6_count_5 rfl rfl ?_
  refine r_tsI K 62 68 dX6_count_6 (by decide) (by decide) (by decide) (by decide) ?_
  refine r_aln K hl 0 dX6_count_68 rfl rfl ?_
  refine r_get K h ffX6_76 0 rfl rfl dX6_count_69 ?_
  exact hr.1 _ _ _ _ _ dX6_count_72 h rfl

set_option maxHeartbeats 4000000 in
set_option maxRecDepth 100000 in
theorem c_X6_count_10 (l : Launch) (g : GG) (a : Nat → Nat) (th um sm : Int32) (f fw fp fi fk fs ft : Row) (n ph wr : Nat) (h5 : f 5 = nI ph) (hph : ph ≤ 24) (hn : n ≤ 4) (h0 : f 0 = nI n) (h6 : f 6 = nI wr) (hwr : wr ≤ 24) (hw : PHW f ph) : Ct l g yX6_count cX6_count 2 (some .int) 3 [.ref (a 0), .int (nI 10)] (mW g a (th) (um) (sm) (f) (fw) (fp) (fi) (fk) (fs) (ft)) (some (.int (um))) (mW g a (nI 0) (um) (sm) (f) (fw) (fp) (fi) (fk) (fs) (ft)) := by
  refine Ct.start (by decide +kernel) (Nat.le_of_ble_eq_true rfl) (by simp [Value.category]) (Or.inr ⟨.int, _, rfl, rfl, rfl⟩) ?_
  intro p0 e R s m args below meth c A Q K hr h ls hl
  have hl : Lq ls 2 [some (.ref (a 0)), some (.int (nI 10))] := hl
  refine r_aln K hl 0 dX6_count_0 rfl rfl ?_
  refine r_ic K (nI 0) dX6_count_1 k_0 ?_
  refine r_put K h ffX6_36 pfX6_0 0 [_, _, _, _, _, _, _, _, _, _] [_, _, _, _, _, _, _, _] rfl rfl rfl (Nat.le_of_ble_eq_true rfl) rfl rfl dX6_count_2 (fun H locs h => ?_)
  refine r_iln K hl 1 dX6_count_5 rfl rfl ?_
  refine r_tsI K 67 73 dX6_count_6 (by decide) (by decide) (by decide) (by decide) ?_
  refine r_aln K hl 0 dX6_count_73 rfl rfl ?_
  refine r_get K h ffX6_66 0 rfl rfl dX6_count_74 ?_
  exact hr.1 _ _ _ _ _ dX6_count_77 h rfl

theorem cnt_bad {x : Int32} (hb : inB x (nI 0) (nI 10) = false) : x.toInt < 5 ∨ 10 < x.toInt := by
  have h := of_decide_eq_false hb
  by_cases h1 : x.toInt < 5
  · exact Or.inl h1
  · by_cases h2 : 10 < x.toInt
    · exact Or.inr h2
    · refine absurd ⟨?_, ?_⟩ h
      · rw [Int32.le_iff_toInt_le]; have : (nI 0).toInt = 0 := by decide
        omega
      · rw [Int32.le_iff_toInt_le]; have : (nI 10).toInt = 10 := by decide
        omega
theorem cnt_bad2 {x : Int32} (hb : inB x (nI 0) (nI 10) = false) : inB x (nI 0) (nI 4) = false := by
  cases h : inB x (nI 0) (nI 4) with
  | false => rfl
  | true =>
    obtain ⟨k, h1, h2, rfl⟩ := inB_lit (by decide) (by decide) h
    rw [inB_of h1 (by omega) (by omega)] at hb
    cases hb

set_option maxHeartbeats 4000000 in
set_option maxRecDepth 100000 in
theorem c_X6_count_bad (l : Launch) (g : GG) (a : Nat → Nat) (th um sm : Int32) (f fw fp fi fk fs ft : Row) (x : Int32) (hb : inB x (nI 0) (nI 10) = false) : Ct l g yX6_count cX6_count 2 (some .int) 1 [.ref (a 0), .int x] (mW g a (th) (um) (sm) (f) (fw) (fp) (fi) (fk) (fs) (ft)) (some (.int (-1))) (mW g a (nI 0) (um) (sm) (f) (fw) (fp) (fi) (fk) (fs) (ft)) := by
  refine Ct.start (by decide +kernel) (Nat.le_of_ble_eq_true rfl) (by simp [Value.category]) (Or.inr ⟨.int, _, rfl, rfl, rfl⟩) ?_
  intro p0 e R s m args below meth c A Q K hr h ls hl
  have hl : Lq ls 2 [some (.ref (a 0)), some (.int x)] := hl
  refine r_aln K hl 0 dX6_count_0 rfl rfl ?_
  refine r_ic K (nI 0) dX6_count_1 k_0 ?_
  refine r_put K h ffX6_36 pfX6_0 0 [_, _, _, _, _, _, _, _, _, _] [_, _, _, _, _, _, _, _] rfl rfl rfl (Nat.le_of_ble_eq_true rfl) rfl rfl dX6_count_2 (fun H locs h => ?_)
  refine r_iln K hl 1 dX6_count_5 rfl rfl ?_
  refine r_tsO K 78 dX6_count_6 (cnt_bad hb) (by decide) ?_
  refine r_iln K hl 1 dX6_count_78 rfl rfl ?_
  refine r_ic K (nI 0) dX6_count_79 k_0 ?_
  refine r_ic K (nI 4) dX6_count_80 k_4 ?_
  refine r_callS K h hl (c_X6_in l g x (nI 0) (nI 4)) mc_X6_in st_X6_in mlX6_69 [] rfl rfl rfl [_, _, _, _, _, _, _, _] rfl (by decide) (by decide) rfl rfl (Nat.le_of_ble_eq_true rfl) ⟨Nat.zero_le _, Nat.zero_le _⟩ dX6_count_81 (fun H locs h => ?_)
  refine W.eq (g2 := F0 m 84 ls [_]) rfl ?_
  refine r_zneB K 91 dX6_count_84 (by decide) (fun c => absurd ((cnt_bad2 hb).symm.trans c) (by decide)) (fun _ => ?_)
  refine r_ic K (-1) dX6_count_87 k_m1 ?_
  refine r_go K 111 dX6_count_88 (by decide) ?_
  exact hr.1 _ _ _ _ _ dX6_count_111 h rfl
