theorem CtE.mapE {S S' : Type} {l : Launch} {g : GG} {y : MethodName} {cc : ByteArray} {n : Nat} {rt : Option FieldType} {d : Nat} {av : List Value} {w0 : va_W} {ans : Option Value} {w1 : S → va_W} {w1' : S' → va_W} (h : CtE l g y cc n rt d av w0 ans w1) (φ : S → S') (hφ : ∀ u, w1' (φ u) = w1 u) : CtE l g y cc n rt d av w0 ans w1' := fun sz => (h sz).mono (fun _ _ q => q) (fun _ _ _ _ _ q => ⟨⟨q.1.1, by obtain ⟨u, hu⟩ := q.1.2; exact ⟨φ u, by rw [hφ]; exact hu⟩⟩, q.2⟩) (fun _ q => q)
theorem Inv.stage {V : Nat → Nat → Row} {sa sb sr f fp fi fk fs : Row} {pn um q T : Nat} (h : Inv V sa sb sr f fp fi fk fs pn um q T) (X : Nat → Row) : Inv (setV V 1 X) sa sb sr f fp fi fk fs pn um q T := by
  obtain ⟨h1, h2, h3, h4, h5, h6, h7⟩ := h
  refine ⟨by rw [setV_ne (by omega)]; exact h1, h2, h3, fun i hi => ?_, fun k hk hn => ?_, h6, h7⟩
  · rw [setV_ne (by unfold rg; omega)]; exact h4 i hi
  · rw [setV_ne (by omega)]; exact h5 k hk hn
/-- a call that changes the stage alone -/
theorem Both.stg {l : Launch} {g : GG} {yX : MethodName} {cX : ByteArray} {nX : Nat} {yM : MethodName} {cM : ByteArray} {nM : Nat} {As : List Value} {V : Nat → Nat → Row} {pn : Nat} {sa sb sr rb f fp fi fk fs : Row} {um q T : Nat} (hI : Inv V sa sb sr f fp fi fk fs pn um q T) (ans : Int32) (dX dM : Nat) (hdX : dX ≤ 8) (hdM : dM ≤ 8) (hX : ∀ (b : Nat → Nat) (wa : Nat → Nat → Nat), CtE l g yX cX nX (some .int) dX (.ref (b 0) :: As) (lvB g b wa (nI pn) (nI um) (nI q) fk sa sb sr rb ++ WS g wa V) (some (.int ans)) (fun u : (Nat → Row) × Row => lvB g b wa (nI pn) (nI um) (nI q) fk sa sb sr u.2 ++ WS g wa (setV V 1 u.1))) (hM : ∀ (a : Nat → Nat) (th : Int32) (fw ft : Row), CtE l g yM cM nM (some .int) dM (.ref (a 0) :: As) (mW g a th (nI um) (nI q) f fw fp fi fk fs ft) (some (.int ans)) (fun u : Row × Row => mW g a (nI 0) (nI um) (nI q) f u.1 fp fi fk fs u.2)) : Both l g yX cX nX yM cM nM As (V, pn, sa, sb, sr, rb) f fp fi fk fs um q T :=
  ⟨ans, f, fp, fi, fk, fs, um, q, dX, dM, hdX, hdM, fun b wa => (hX b wa).mapE (fun u => ⟨(setV V 1 u.1, pn, sa, sb, sr, u.2), (hI.stage u.1).more (Nat.le_add_right _ _)⟩) (fun _ => rfl), hM⟩
theorem both_lone (l : Launch) (g : GG) (V : Nat → Nat → Row) (pn : Nat) (sa sb sr rb f fp fi fk fs : Row) (um q T : Nat) (hT : T < 700000) (hI : Inv V sa sb sr f fp fi fk fs pn um q T) (x : Int32) : Both l g yX5_lone cX5_lone 2 yX6_lone cX6_lone 3 [.int x] (V, pn, sa, sb, sr, rb) f fp fi fk fs um q T := by
  have hI0 := hI
  obtain ⟨⟨n, mv, ph, wr, t, ac, hR, ht, hac, h4⟩, hpn, hum, hpast, him, hq, hsn⟩ := hI
  obtain ⟨hn2, hn, hm1, hm, hph, hwr⟩ := hR.1.1
  cases b1 : inB x (nI 0) (nI (n - 1)) with
  | false => exact Both.same hI0 (-1) 7 2 (by omega) (by omega) (fun b wa => c_X5_lone_bad l g b wa fk sa sb sr rb V f n mv ph wr t hR (nI pn) (nI um) (nI q) x b1) (fun a th fw ft => c_X6_lone_bad l g a th (nI um) (nI q) f fw fp fi fk fs ft n (by omega) hn hR.1.2.1 x b1)
  | true =>
    obtain ⟨p, hp, rfl⟩ := inB_nat (by omega) (by omega) b1
    exact Both.stg hI0 _ 7 4 (by omega) (by omega) (fun b wa => (c_X5_lone_ok l g b wa fk sa sb sr rb V f n mv ph wr t hR (nI pn) (nI um) (nI q) p hp (by omega)).mapE (fun u => (u, rb)) (fun _ => rfl)) (fun a th fw ft => (c_X6_lone_ok l g a th (nI um) (nI q) f fw fp fi fk fs ft n mv p ⟨ph, wr, hR.1⟩ hp).toE (_, ft) rfl)
theorem both_byTurns (l : Launch) (g : GG) (V : Nat → Nat → Row) (pn : Nat) (sa sb sr rb f fp fi fk fs : Row) (um q T : Nat) (hT : T < 700000) (hI : Inv V sa sb sr f fp fi fk fs pn um q T) : Both l g yX5_byTurns cX5_byTurns 4 yX6_byTurns cX6_byTurns 4 [] (V, pn, sa, sb, sr, rb) f fp fi fk fs um q T := by
  have hI0 := hI
  obtain ⟨⟨n, mv, ph, wr, t, ac, hR, ht, hac, h4⟩, hpn, hum, hpast, him, hq, hsn⟩ := hI
  exact Both.stg hI0 _ 7 4 (by omega) (by omega) (fun b wa => (c_X5_byTurns_ok l g b wa fk sa sb sr rb V f n mv ph wr t hR (nI pn) (nI um) (nI q) (by omega)).mapE (fun u => (u, rb)) (fun _ => rfl)) (fun a th fw ft => (c_X6_byTurns_ok l g a th (nI um) (nI q) f fw fp fi fk fs ft n mv ⟨ph, wr, hR.1⟩).toE (_, ft) rfl)
theorem both_trial (l : Launch) (g : GG) (V : Nat → Nat → Row) (pn : Nat) (sa sb sr rb f fp fi fk fs : Row) (um q T : Nat) (hT : T < 700000) (hI : Inv V sa sb sr f fp fi fk fs pn um q T) (x y z : Int32) : Both l g yX5_trial cX5_trial 4 yX6_trial cX6_trial 4 [.int x, .int y, .int z] (V, pn, sa, sb, sr, rb) f fp fi fk fs um q T := by
  have hI0 := hI
  obtain ⟨⟨n, mv, ph, wr, t, ac, hR, ht, hac, h4⟩, hpn, hum, hpast, him, hq, hsn⟩ := hI
  obtain ⟨hn2, hn, hm1, hm, hph, hwr⟩ := hR.1.1
  refine two_false (p := inB x (nI 1) (nI 4)) (q := inB y (nI 1) (nI 4) && inB z (nI 1) (nI 4)) (fun hb => ?_) (fun b1 b2 => ?_)
  · exact Both.same hI0 (-1) 7 2 (by omega) (by omega) (fun b wa => c_X5_trial_bad l g b wa fk sa sb sr rb V (nI pn) (nI um) (nI q) x y z hb) (fun a th fw ft => c_X6_trial_bad l g a th (nI um) (nI q) f fw fp fi fk fs ft x y z hb)
  · have b3 := (Bool.and_eq_true _ _).mp b2
    obtain ⟨k1, e1, e2, rfl⟩ := inB_lit (by omega) (by omega) b1
    obtain ⟨k2, e3, e4, rfl⟩ := inB_lit (by omega) (by omega) b3.1
    obtain ⟨k3, e5, e6, rfl⟩ := inB_lit (by omega) (by omega) b3.2
    exact Both.stg hI0 _ 7 5 (by omega) (by omega) (fun b wa => (c_X5_trial_ok l g b wa fk sa sb sr rb V f n mv ph wr t hR (nI pn) (nI um) (nI q) k1 k2 k3 e1 e2 e3 e4 e5 e6).mapE (fun u => (u, rb)) (fun _ => rfl)) (fun a th fw ft => (c_X6_trial_ok l g a th (nI um) (nI q) f fw fp fi fk fs ft n k1 k2 k3 hn2 hn hR.1.2.1 e1 e2 e3 e4 e5 e6).toE (_, ft) rfl)
theorem both_which (l : Launch) (g : GG) (V : Nat → Nat → Row) (pn : Nat) (sa sb sr rb f fp fi fk fs : Row) (um q T : Nat) (hT : T < 700000) (hI : Inv V sa sb sr f fp fi fk fs pn um q T) : Both l g yX5_which cX5_which 1 yX6_which cX6_which 1 [] (V, pn, sa, sb, sr, rb) f fp fi fk fs um q T := by
  have hI0 := hI
  obtain ⟨⟨n, mv, ph, wr, t, ac, hR, ht, hac, h4⟩, hpn, hum, hpast, him, hq, ta, tb, hsn⟩ := hI
  obtain ⟨hn2, hn, hm1, hm, hph, hwr⟩ := hR.1.1
  exact Both.stg hI0 _ 7 6 (by omega) (by omega) (fun b wa => (c_X5_which_ok l g b wa fk sa sb sr rb V f n mv ph wr t hR (nI pn) (nI um) q hq ta tb (fun i hi => by obtain ⟨a1, a2, a3, a4, a5, a6⟩ := hsn i hi; exact ⟨a1, a2, a6⟩)).mapE (fun u => (u, rb)) (fun _ => rfl)) (fun a th fw ft => (c_X6_which_ok l g a th (nI um) f fw fp fi fk fs ft n q ta tb sr hn2 hn hR.1.2.1 hq (fun i hi => by obtain ⟨a1, a2, a3, a4, a5, a6⟩ := hsn i hi; exact ⟨a3, a4, a5, a6⟩)).mapE (fun u => (u, ft)) (fun _ => rfl))
theorem both_ask (l : Launch) (g : GG) (V : Nat → Nat → Row) (pn : Nat) (sa sb sr rb f fp fi fk fs : Row) (um q T : Nat) (hT : T < 700000) (hI : Inv V sa sb sr f fp fi fk fs pn um q T) : Both l g yX5_ask cX5_ask 7 yX6_ask cX6_ask 7 [] (V, pn, sa, sb, sr, rb) f fp fi fk fs um q T := by
  have hI0 := hI
  obtain ⟨⟨n, mv, ph, wr, t, ac, hR, ht, hac, h4⟩, hpn, hum, hpast, him, hq, ta, tb, hsn⟩ := hI
  obtain ⟨hn2, hn, hm1, hm, hph, hwr⟩ := hR.1.1
  have s1 : ∀ i, i < q → sa i = nI (ta i) ∧ sb i = nI (tb i) ∧ 1 ≤ ta i ∧ ta i ≤ 4 ∧ 1 ≤ tb i ∧ tb i ≤ 4 := fun i hi => by obtain ⟨a1, a2, a3, a4, a5, a6⟩ := hsn i hi; exact ⟨a1, a2, a6⟩
  have s2 : ∀ i, i < q → fs (3 * i) = nI (ta i) ∧ fs (3 * i + 1) = nI (tb i) ∧ fs (3 * i + 2) = sr i ∧ 1 ≤ ta i ∧ ta i ≤ 4 ∧ 1 ≤ tb i ∧ tb i ≤ 4 := fun i hi => by obtain ⟨a1, a2, a3, a4, a5, a6⟩ := hsn i hi; exact ⟨a3, a4, a5, a6⟩
  by_cases hb : Nat.land (mskK (fun mv => fitK n (f 2) ta tb sr mv q) 4) (mskK (fun mv => fitK n (f 2) ta tb sr mv q) 4 - 1) = 0
  · exact Both.stg hI0 _ 7 6 (by omega) (by omega) (fun b wa => c_X5_ask_none l g b wa fk sa sb sr rb V f n mv ph wr t hR (nI pn) (nI um) q hq ta tb s1 hb) (fun a th fw ft => c_X6_ask_none l g a th (nI um) f fw fp fi fk fs ft n q ta tb sr hn2 hn hR.1.2.1 hq s2 hb)
  · exact Both.stg hI0 _ 7 6 (by omega) (by omega) (fun b wa => c_X5_ask_ok l g b wa fk sa sb sr rb V f n mv ph wr t hR (nI pn) (nI um) q hq ta tb s1 hb) (fun a th fw ft => c_X6_ask_ok l g a th (nI um) f fw fp fi fk fs ft n q ta tb sr hn2 hn hR.1.2.1 hq s2 hb)
