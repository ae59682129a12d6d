theorem both_scans (l : Launch) (g : GG) (V : Nat → Nat → Row) (pn : Nat) (sa sb sr rb f fp fi fk fs : Row) (um q T : Nat) (hT : T < 700000) (hI : Inv V sa sb sr f fp fi fk fs pn um q T) (x : Int32) : Both l g yX5_scans cX5_scans 2 yX6_scans cX6_scans 2 [.int x] (V, pn, sa, sb, sr, rb) f fp fi fk fs um q T := by
  have hI0 := hI
  obtain ⟨⟨n, mv, ph, wr, t, ac, hR, ht, hac, h4⟩, hpn, hum, hpast, him, hq, ta, tb, hsn⟩ := hI
  obtain ⟨hn2, hn, hm1, hm, hph, hwr⟩ := hR.1.1
  cases b1 : inB x (nI 0) (nI (n - 1)) with
  | false => exact Both.same hI0 (-1) 7 2 (by omega) (by omega) (fun b wa => c_X5_scans_bad l g b wa fk sa sb sr rb V f n mv ph wr t hR (nI pn) (nI um) (nI q) x b1) (fun a th fw ft => c_X6_scans_bad l g a th (nI um) (nI q) f fw fp fi fk fs ft n (by omega) hn hR.1.2.1 x b1)
  | true =>
    obtain ⟨p, hp, rfl⟩ := inB_nat (by omega) (by omega) b1
    by_cases ha : f (32 + 42 * p + 0) = 0
    · by_cases h24 : ac = 24
      · subst h24
        exact Both.same hI0 (-3) 7 3 (by omega) (by omega) (fun b wa => c_X5_scans_full l g b wa fk sa sb sr rb V f n mv ph wr t hR (nI pn) (nI um) (nI q) p hp ha h4) (fun a th fw ft => c_X6_scans_full l g a th (nI um) (nI q) f fw fp fi fk fs ft n (by omega) hn hR.1.2.1 p hp ha h4)
      · have hX : RelX (cBeg (V 0) p (nI 1) (-9)) (mActs f p (nI 1) (nI 0)) (T + 20) := ⟨n, mv, ph, wr, t, ac + 1, rel_beg (kd := 1) (v := nI 0) (v' := -9) hR (by omega) hp (Or.inl rfl) rfl, by omega, by omega, by rw [acts_4, h4, nI_add]⟩
        exact ⟨_, _, _, fi, fk, fs, nU um, q, 7, 4, by omega, by omega, fun b wa => (c_X5_scans_ok l g b wa fk sa sb sr rb V f n mv ph wr t hR pn um hpn hum (nI q) p hp ha ac (by omega) h4).toE ⟨(setV (setV V (2 + pn) (cCop (V (2 + pn)) (V 0) ph wr)) 0 (cBeg (V 0) p (nI 1) (-9)), nN pn, sa, sb, sr, rb), inv_now hI0 hT hR ht hac h4 hX⟩ rfl, fun a th fw ft => (c_X6_scans_ok l g a th (nI q) um f fw fp fi fk fs ft n (by omega) hn hR.1.2.1 p hp hum ha (by rw [h4]; exact nIne (by omega) (by omega) h24)).toE (fw, ft) rfl⟩
    · exact Both.same hI0 (-2) 7 3 (by omega) (by omega) (fun b wa => c_X5_scans_state l g b wa fk sa sb sr rb V f n mv ph wr t hR (nI pn) (nI um) (nI q) p hp ha) (fun a th fw ft => c_X6_scans_state l g a th (nI um) (nI q) f fw fp fi fk fs ft n (by omega) hn hR.1.2.1 p hp ha)
theorem both_writes (l : Launch) (g : GG) (V : Nat → Nat → Row) (pn : Nat) (sa sb sr rb f fp fi fk fs : Row) (um q T : Nat) (hT : T < 700000) (hI : Inv V sa sb sr f fp fi fk fs pn um q T) (x v : Int32) : Both l g yX5_writes cX5_writes 3 yX6_writes cX6_writes 3 [.int x, .int v] (V, pn, sa, sb, sr, rb) f fp fi fk fs um q T := by
  have hI0 := hI
  obtain ⟨⟨n, mv, ph, wr, t, ac, hR, ht, hac, h4⟩, hpn, hum, hpast, him, hq, ta, tb, hsn⟩ := hI
  obtain ⟨hn2, hn, hm1, hm, hph, hwr⟩ := hR.1.1
  refine two_false (p := inB x (nI 0) (nI (n - 1))) (q := inB v (nI 0) (nI 99)) (fun hb => ?_) (fun b1 b2 => ?_)
  · exact Both.same hI0 (-1) 7 2 (by omega) (by omega) (fun b wa => c_X5_writes_bad l g b wa fk sa sb sr rb V f n mv ph wr t hR (nI pn) (nI um) (nI q) x v hb) (fun a th fw ft => c_X6_writes_bad l g a th (nI um) (nI q) f fw fp fi fk fs ft n (by omega) hn hR.1.2.1 x v hb)
  · obtain ⟨p, hp, rfl⟩ := inB_nat (by omega) (by omega) b1
    by_cases ha : f (32 + 42 * p + 0) = 0
    · by_cases h24 : ac = 24
      · subst h24
        exact Both.same hI0 (-3) 7 3 (by omega) (by omega) (fun b wa => c_X5_writes_full l g b wa fk sa sb sr rb V f n mv ph wr t hR (nI pn) (nI um) (nI q) p hp v b2 ha h4) (fun a th fw ft => c_X6_writes_full l g a th (nI um) (nI q) f fw fp fi fk fs ft n (by omega) hn hR.1.2.1 p v hp b2 ha h4)
      · have hX : RelX (cBeg (V 0) p (nI 2) v) (mActs f p (nI 2) v) (T + 20) := ⟨n, mv, ph, wr, t, ac + 1, rel_beg (kd := 2) (v := v) (v' := v) hR (by omega) hp (Or.inr rfl) rfl, by omega, by omega, by rw [acts_4, h4, nI_add]⟩
        exact ⟨_, _, _, fi, fk, fs, nU um, q, 7, 4, by omega, by omega, fun b wa => (c_X5_writes_ok l g b wa fk sa sb sr rb V f n mv ph wr t hR pn um hpn hum (nI q) p hp v b2 ha ac (by omega) h4).toE ⟨(setV (setV V (2 + pn) (cCop (V (2 + pn)) (V 0) ph wr)) 0 (cBeg (V 0) p (nI 2) v), nN pn, sa, sb, sr, rb), inv_now hI0 hT hR ht hac h4 hX⟩ rfl, fun a th fw ft => (c_X6_writes_ok l g a th (nI q) um f fw fp fi fk fs ft n (by omega) hn hR.1.2.1 p v hp b2 hum ha (by rw [h4]; exact nIne (by omega) (by omega) h24)).toE (fw, ft) rfl⟩
    · exact Both.same hI0 (-2) 7 3 (by omega) (by omega) (fun b wa => c_X5_writes_state l g b wa fk sa sb sr rb V f n mv ph wr t hR (nI pn) (nI um) (nI q) p hp v b2 ha) (fun a th fw ft => c_X6_writes_state l g a th (nI um) (nI q) f fw fp fi fk fs ft n (by omega) hn hR.1.2.1 p v hp b2 ha)
