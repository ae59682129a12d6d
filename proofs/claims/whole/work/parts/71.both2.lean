theorem two_false {p q : Bool} {P : Prop} (h1 : (p && q) = false → P) (h2 : p = true → q = true → P) : P := by
  cases hp : p with
  | false => exact h1 (by rw [hp]; rfl)
  | true =>
    cases hq : q with
    | false => exact h1 (by rw [hp, hq]; rfl)
    | true => exact h2 hp hq
theorem both_cell (l : Launch) (g : GG) (V : Nat → Nat → Row) (pn : Nat) (sa sb sr rb f fp fi fk fs : Row) (um q T : Nat) (hT : T < 800000) (hI : Inv V sa sb sr f fp fi fk fs pn um q T) (x y : Int32) : Both l g yX5_cell cX5_cell 3 yX6_cell cX6_cell 3 [.int x, .int y] (V, pn, sa, sb, sr, rb) f fp fi fk fs um q T := by
  have hI0 := hI
  obtain ⟨⟨n, mv, ph, wr, t, ac, hR, ht, hac, h4⟩, hpn, hum, hpast, him, hq, hsn⟩ := hI
  obtain ⟨hn2, hn, hm1, hm, hph, hwr⟩ := hR.1.1
  refine two_false (p := inB x (nI 0) (nI (n - 1))) (q := inB y (nI 0) (nI 5)) (fun hb => ?_) (fun b1 b2 => ?_)
  · exact Both.same hI0 (-1) 7 2 (by omega) (by omega) (fun b wa => c_X5_cell_bad l g b wa fk sa sb sr rb V f n mv ph wr t hR (nI pn) (nI um) (nI q) x y hb) (fun a th fw ft => c_X6_cell_bad l g a th (nI um) (nI q) f fw fp fi fk fs ft n (by omega) hn hR.1.2.1 x y hb)
  · obtain ⟨p, hp, rfl⟩ := inB_nat (by omega) (by omega) b1
    obtain ⟨k, -, hk, rfl⟩ := inB_lit (by omega) (by omega) b2
    exact Both.same hI0 _ 7 2 (by omega) (by omega) (fun b wa => c_X5_cell_ok l g b wa fk sa sb sr rb V f n mv ph wr t hR (nI pn) (nI um) (nI q) p k hp hk) (fun a th fw ft => c_X6_cell_ok l g a th (nI um) (nI q) f fw fp fi fk fs ft n (by omega) hn hR.1.2.1 p k hp hk)
theorem both_writer (l : Launch) (g : GG) (V : Nat → Nat → Row) (pn : Nat) (sa sb sr rb f fp fi fk fs : Row) (um q T : Nat) (hT : T < 800000) (hI : Inv V sa sb sr f fp fi fk fs pn um q T) (x y : Int32) : Both l g yX5_writer cX5_writer 4 yX6_writer cX6_writer 5 [.int x, .int y] (V, pn, sa, sb, sr, rb) f fp fi fk fs um q T := by
  have hI0 := hI
  obtain ⟨⟨n, mv, ph, wr, t, ac, hR, ht, hac, h4⟩, hpn, hum, hpast, him, hq, hsn⟩ := hI
  obtain ⟨hn2, hn, hm1, hm, hph, hwr⟩ := hR.1.1
  refine two_false (p := inB x (nI 0) (nI (n - 1))) (q := inB y (nI 0) (nI 8)) (fun hb => ?_) (fun b1 b2 => ?_)
  · exact Both.same hI0 (-1) 7 2 (by omega) (by omega) (fun b wa => c_X5_writer_bad l g b wa fk sa sb sr rb V f n mv ph wr t hR (nI pn) (nI um) (nI q) x y hb) (fun a th fw ft => c_X6_writer_bad l g a th (nI um) (nI q) f fw fp fi fk fs ft n (by omega) hn hR.1.2.1 x y hb)
  · obtain ⟨p, hp, rfl⟩ := inB_nat (by omega) (by omega) b1
    obtain ⟨k, -, hk, rfl⟩ := inB_lit (by omega) (by omega) b2
    exact Both.same hI0 _ 7 2 (by omega) (by omega) (fun b wa => c_X5_writer_ok l g b wa fk sa sb sr rb V f n mv ph wr t hR (nI pn) (nI um) (nI q) p k hp hk) (fun a th fw ft => c_X6_writer_ok l g a th (nI um) (nI q) f fw fp fi fk fs ft n mv p k ⟨ph, wr, hR.1⟩ hp hk)
theorem both_read (l : Launch) (g : GG) (V : Nat → Nat → Row) (pn : Nat) (sa sb sr rb f fp fi fk fs : Row) (um q T : Nat) (hT : T < 800000) (hI : Inv V sa sb sr f fp fi fk fs pn um q T) (x y v : Int32) : Both l g yX5_read cX5_read 5 yX6_read cX6_read 6 [.int x, .int y, .int v] (V, pn, sa, sb, sr, rb) f fp fi fk fs um q T := by
  have hI0 := hI
  obtain ⟨⟨n, mv, ph, wr, t, ac, hR, ht, hac, h4⟩, hpn, hum, hpast, him, hq, hsn⟩ := hI
  obtain ⟨hn2, hn, hm1, hm, hph, hwr⟩ := hR.1.1
  refine two_false (p := inB x (nI 0) (nI (n - 1))) (q := inB y (nI 0) (nI (n - 1)) && inB v (nI 0) (nI 1)) (fun hb => ?_) (fun b1 b2 => ?_)
  · exact Both.same hI0 (-1) 7 2 (by omega) (by omega) (fun b wa => c_X5_read_bad l g b wa fk sa sb sr rb V f n mv ph wr t hR (nI pn) (nI um) (nI q) x y v hb) (fun a th fw ft => c_X6_read_bad l g a th (nI um) (nI q) f fw fp fi fk fs ft n (by omega) hn hR.1.2.1 x y v hb)
  · have b3 := (Bool.and_eq_true _ _).mp b2
    obtain ⟨p, hp, rfl⟩ := inB_nat (by omega) (by omega) b1
    obtain ⟨p2, hp2, rfl⟩ := inB_nat (by omega) (by omega) b3.1
    obtain ⟨k, -, hk, rfl⟩ := inB_lit (by omega) (by omega) b3.2
    exact Both.same hI0 _ 7 2 (by omega) (by omega) (fun b wa => c_X5_read_ok l g b wa fk sa sb sr rb V f n mv ph wr t hR (nI pn) (nI um) (nI q) p p2 k hp hp2 hk) (fun a th fw ft => c_X6_read_ok l g a th (nI um) (nI q) f fw fp fi fk fs ft n mv p p2 k ⟨ph, wr, hR.1⟩ hp hp2 hk)
theorem both_photo (l : Launch) (g : GG) (V : Nat → Nat → Row) (pn : Nat) (sa sb sr rb f fp fi fk fs : Row) (um q T : Nat) (hT : T < 800000) (hI : Inv V sa sb sr f fp fi fk fs pn um q T) (x y : Int32) : Both l g yX5_photo cX5_photo 3 yX6_photo cX6_photo 3 [.int x, .int y] (V, pn, sa, sb, sr, rb) f fp fi fk fs um q T := by
  have hI0 := hI
  obtain ⟨⟨n, mv, ph, wr, t, ac, hR, ht, hac, h4⟩, hpn, hum, hpast, him, hq, hsn⟩ := hI
  obtain ⟨hn2, hn, hm1, hm, hph, hwr⟩ := hR.1.1
  refine two_false (p := inB x (nI 0) (nI ph - nI 1)) (q := inB y (nI 0) (nI 10)) (fun hb => ?_) (fun b1 b2 => ?_)
  · exact Both.same hI0 (-1) 7 1 (by omega) (by omega) (fun b wa => c_X5_photo_bad l g b wa fk sa sb sr rb V f n mv ph wr t hR (nI pn) (nI um) (nI q) x y hb) (fun a th fw ft => c_X6_photo_bad l g a th (nI um) (nI q) f fw fp fi fk fs ft ph hR.1.2.2.2.1 x y hb)
  · have hp1 : 1 ≤ ph := by
      rcases Nat.eq_zero_or_pos ph with e | e
      · subst e
        have h := of_decide_eq_true b1
        have h3 := Int32.le_iff_toInt_le.mp (Int32.le_trans h.1 h.2)
        have e1 : (nI 0).toInt = 0 := by decide
        have e2 : (nI 0 - nI 1).toInt = -1 := by decide
        omega
      · exact e
    rw [pk_sub hp1] at b1
    obtain ⟨i, hi, rfl⟩ := inB_nat hp1 (by omega) b1
    obtain ⟨k, -, hk, rfl⟩ := inB_lit (by omega) (by omega) b2
    by_cases e : k < 10
    · exact Both.same hI0 _ 7 1 (by omega) (by omega) (fun b wa => c_X5_photo_ok l g b wa fk sa sb sr rb V f n mv ph wr t hR (nI pn) (nI um) (nI q) i k hi e) (fun a th fw ft => c_X6_photo_ok l g a th (nI um) (nI q) f fw fp fi fk fs ft ph i k hR.1.2.2.2.1 hph hi e)
    · obtain rfl : k = 10 := by omega
      obtain ⟨bg, en, r, c1, c2, c3, c4, -⟩ := hR.2.1.2.2.2.1 i hi
      exact Both.same hI0 _ 7 2 (by omega) (by omega) (fun b wa => c_X5_photo_mom l g b wa fk sa sb sr rb V f n mv ph wr t hR (nI pn) (nI um) (nI q) i 10 hi rfl) (fun a th fw ft => c_X6_photo_mom l g a th (nI um) (nI q) f fw fp fi fk fs ft n ph i wr bg en hR.1.2.2.2.1 hph hi hn hR.1.2.1 hR.1.2.2.2.2.1 hwr c1 c2 c3 (by omega))
theorem both_reads (l : Launch) (g : GG) (V : Nat → Nat → Row) (pn : Nat) (sa sb sr rb f fp fi fk fs : Row) (um q T : Nat) (hT : T < 800000) (hI : Inv V sa sb sr f fp fi fk fs pn um q T) (x y : Int32) : Both l g yX5_reads cX5_reads 3 yX6_reads cX6_reads 8 [.int x, .int y] (V, pn, sa, sb, sr, rb) f fp fi fk fs um q T := by
  have hI0 := hI
  obtain ⟨⟨n, mv, ph, wr, t, ac, hR, ht, hac, h4⟩, hpn, hum, hpast, him, hq, hsn⟩ := hI
  obtain ⟨hn2, hn, hm1, hm, hph, hwr⟩ := hR.1.1
  refine two_false (p := inB x (nI 0) (nI 99)) (q := inB y (nI 0) (nI 2)) (fun hb => ?_) (fun b1 b2 => ?_)
  · exact Both.same hI0 (-1) 7 1 (by omega) (by omega) (fun b wa => c_X5_reads_bad l g b wa fk sa sb sr rb V (nI pn) (nI um) (nI q) x y hb) (fun a th fw ft => c_X6_reads_bad l g a th (nI um) (nI q) f fw fp fi fk fs ft x y hb)
  · obtain ⟨k, -, hk, rfl⟩ := inB_lit (by omega) (by omega) b2
    exact Both.same hI0 _ 7 1 (by omega) (by omega) (fun b wa => c_X5_reads_ok l g b wa fk sa sb sr rb V f n mv ph wr t hR (nI pn) (nI um) (nI q) x k b1 hk) (fun a th fw ft => c_X6_reads_ok l g a th (nI um) (nI q) f fw fp fi fk fs ft ph k x hR.1.2.2.2.1 hph b1 hk)
