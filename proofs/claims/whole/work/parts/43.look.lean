theorem up1_if {n : Nat} : up1 (decide (n < 24)) n = if n < 24 then n + 1 else n := by
  by_cases h : n < 24
  · rw [decide_eq_true h, if_pos h]; rfl
  · rw [decide_eq_false h, if_neg h]; rfl
theorem cvA_kw (V : Nat → Row) (p wr : Nat) (hp : p < 4) : cvA V p wr 0 = upd (V 0) 3 ((V 0) 3 + nI 1) := by
  unfold cvA; simp (disch := omega) only [setB_ne, setB_eq]
theorem cvA_fv (V : Nat → Row) (p wr : Nat) (hp : p < 4) : cvA V p wr 2 = upd (V 2) p ((upd (V (6 + 8 * p)) 3 ((V (6 + 8 * p)) 3 + nI 1)) 1) := by
  unfold cvA; simp (disch := omega) only [setB_ne, setB_eq]
theorem cvA_fe (V : Nat → Row) (p wr : Nat) (hp : p < 4) : cvA V p wr 3 = upd (V 3) p (verB ((upd (V 0) 3 ((V 0) 3 + nI 1)) 2) ((V 3) p)) := by
  unfold cvA; simp (disch := omega) only [setB_ne, setB_eq]
theorem cvA_fw (V : Nat → Row) (p wr : Nat) (hp : p < 4) : cvA V p wr 4 = va_cpy (V (7 + 8 * p)) (V 4) 0 (p * 4) 4 := by
  unfold cvA; simp (disch := omega) only [setB_ne, setB_eq]
theorem cvA_hsz (V : Nat → Row) (p wr : Nat) (hp : p < 4) : cvA V p wr 40 = upd (V 40) 0 (nI (up1 (decide (wr < 24)) wr)) := by
  unfold cvA; simp (disch := omega) only [setB_ne, setB_eq]
theorem cvA_ti (V : Nat → Row) (p wr : Nat) (hp : p < 4) : cvA V p wr 41 = ifU (decide (wr < 24)) (V 41) wr ((upd (V 0) 3 ((V 0) 3 + nI 1)) 3) := by
  unfold cvA; simp (disch := omega) only [setB_ne, setB_eq]
theorem cvA_pls (V : Nat → Row) (p wr : Nat) (hp : p < 4) : cvA V p wr 42 = ifU (decide (wr < 24)) (V 42) wr (nI p) := by
  unfold cvA; simp (disch := omega) only [setB_ne, setB_eq]
theorem cvA_wv (V : Nat → Row) (p wr : Nat) (hp : p < 4) : cvA V p wr 43 = ifU (decide (wr < 24)) (V 43) wr ((upd (V (6 + 8 * p)) 3 ((V (6 + 8 * p)) 3 + nI 1)) 1) := by
  unfold cvA; simp (disch := omega) only [setB_ne, setB_eq]
theorem cvA_k (V : Nat → Row) (p wr : Nat) (hp : p < 4) : cvA V p wr (6 + 8 * p) = kB (nI 0) (-9) (nI 0) := by
  unfold cvA; simp (disch := omega) only [setB_ne, setB_eq]
theorem cvA_pv (V : Nat → Row) (p wr : Nat) (hp : p < 4) : cvA V p wr (7 + 8 * p) = z0 := by
  unfold cvA; simp (disch := omega) only [setB_ne, setB_eq]
theorem cvA_mv (V : Nat → Row) (p wr : Nat) (hp : p < 4) : cvA V p wr (8 + 8 * p) = z0 := by
  unfold cvA; simp (disch := omega) only [setB_ne, setB_eq]
theorem cvA_ah (V : Nat → Row) (p wr : Nat) (hp : p < 4) : cvA V p wr (9 + 8 * p) = z0 := by
  unfold cvA; simp (disch := omega) only [setB_ne, setB_eq]
theorem cvA_rv (V : Nat → Row) (p wr : Nat) (hp : p < 4) : cvA V p wr (11 + 8 * p) = z0 := by
  unfold cvA; simp (disch := omega) only [setB_ne, setB_eq]
theorem cvA_rs (V : Nat → Row) (p wr : Nat) (hp : p < 4) : cvA V p wr (12 + 8 * p) = z0 := by
  unfold cvA; simp (disch := omega) only [setB_ne, setB_eq]
theorem cvA_rw (V : Nat → Row) (p wr : Nat) (hp : p < 4) : cvA V p wr (13 + 8 * p) = z0 := by
  unfold cvA; simp (disch := omega) only [setB_ne, setB_eq]
theorem cvA_o (V : Nat → Row) (p wr : Nat) (hp : p < 4) (j : Nat) (hkw : j ≠ 0) (hfv : j ≠ 2) (hfe : j ≠ 3) (hfw : j ≠ 4) (hhsz : j ≠ 40) (hti : j ≠ 41) (hpls : j ≠ 42) (hwv : j ≠ 43) (hk : j ≠ (6 + 8 * p)) (hpv : j ≠ (7 + 8 * p)) (hmv : j ≠ (8 + 8 * p)) (hah : j ≠ (9 + 8 * p)) (hrv : j ≠ (11 + 8 * p)) (hrs : j ≠ (12 + 8 * p)) (hrw : j ≠ (13 + 8 * p)) : cvA V p wr j = V j := by
  unfold cvA; simp only [setB_ne hkw, setB_ne hfv, setB_ne hfe, setB_ne hfw, setB_ne hhsz, setB_ne hti, setB_ne hpls, setB_ne hwv, setB_ne hk, setB_ne hpv, setB_ne hmv, setB_ne hah, setB_ne hrv, setB_ne hrs, setB_ne hrw]
theorem cvB_kw (V : Nat → Row) (p nc : Nat) (hp : p < 4) : cvB V p nc 0 = upd (V 0) 3 ((V 0) 3 + nI 1) := by
  unfold cvB; simp (disch := omega) only [setB_ne, setB_eq]
theorem cvB_k (V : Nat → Row) (p nc : Nat) (hp : p < 4) : cvB V p nc (6 + 8 * p) = upd (upd (V (6 + 8 * p)) 3 ((V (6 + 8 * p)) 3 + nI 1)) 4 (nI (nc + 1)) := by
  unfold cvB; simp (disch := omega) only [setB_ne, setB_eq]
theorem cvB_rv (V : Nat → Row) (p nc : Nat) (hp : p < 4) : cvB V p nc (11 + 8 * p) = upd (V (11 + 8 * p)) nc ((V 2) nc) := by
  unfold cvB; simp (disch := omega) only [setB_ne, setB_eq]
theorem cvB_rs (V : Nat → Row) (p nc : Nat) (hp : p < 4) : cvB V p nc (12 + 8 * p) = upd (V (12 + 8 * p)) nc ((V 3) nc) := by
  unfold cvB; simp (disch := omega) only [setB_ne, setB_eq]
theorem cvB_rw (V : Nat → Row) (p nc : Nat) (hp : p < 4) : cvB V p nc (13 + 8 * p) = va_cpy (V 4) (V (13 + 8 * p)) (nc * 4) (nc * 4) 4 := by
  unfold cvB; simp (disch := omega) only [setB_ne, setB_eq]
theorem cvB_o (V : Nat → Row) (p nc : Nat) (hp : p < 4) (j : Nat) (hkw : j ≠ 0) (hk : j ≠ (6 + 8 * p)) (hrv : j ≠ (11 + 8 * p)) (hrs : j ≠ (12 + 8 * p)) (hrw : j ≠ (13 + 8 * p)) : cvB V p nc j = V j := by
  unfold cvB; simp only [setB_ne hkw, setB_ne hk, setB_ne hrv, setB_ne hrs, setB_ne hrw]
theorem cvC0_kw (V : Nat → Row) (p n nc wh : Nat) (hp : p < 4) : cvC0 V p n nc wh 0 = upd (V 0) 3 ((V 0) 3 + nI 1) := by
  unfold cvC0; simp (disch := omega) only [setB_ne, setB_eq]
theorem cvC0_k (V : Nat → Row) (p n nc wh : Nat) (hp : p < 4) : cvC0 V p n nc wh (6 + 8 * p) = upd (upd (upd (upd (V (6 + 8 * p)) 3 ((V (6 + 8 * p)) 3 + nI 1)) 4 (nI (nc + 1))) 4 (nI 0)) 5 (nI (wh + 1)) := by
  unfold cvC0; simp (disch := omega) only [setB_ne, setB_eq]
theorem cvC0_ah (V : Nat → Row) (p n nc wh : Nat) (hp : p < 4) : cvC0 V p n nc wh (9 + 8 * p) = upd (V (12 + 8 * p)) nc ((V 3) nc) := by
  unfold cvC0; simp (disch := omega) only [setB_ne, setB_eq]
theorem cvC0_rv (V : Nat → Row) (p n nc wh : Nat) (hp : p < 4) : cvC0 V p n nc wh (11 + 8 * p) = upd (V (11 + 8 * p)) nc ((V 2) nc) := by
  unfold cvC0; simp (disch := omega) only [setB_ne, setB_eq]
theorem cvC0_rs (V : Nat → Row) (p n nc wh : Nat) (hp : p < 4) : cvC0 V p n nc wh (12 + 8 * p) = upd (V (12 + 8 * p)) nc ((V 3) nc) := by
  unfold cvC0; simp (disch := omega) only [setB_ne, setB_eq]
theorem cvC0_rw (V : Nat → Row) (p n nc wh : Nat) (hp : p < 4) : cvC0 V p n nc wh (13 + 8 * p) = va_cpy (V 4) (V (13 + 8 * p)) (nc * 4) (nc * 4) 4 := by
  unfold cvC0; simp (disch := omega) only [setB_ne, setB_eq]
theorem cvC0_o (V : Nat → Row) (p n nc wh : Nat) (hp : p < 4) (j : Nat) (hkw : j ≠ 0) (hk : j ≠ (6 + 8 * p)) (hah : j ≠ (9 + 8 * p)) (hrv : j ≠ (11 + 8 * p)) (hrs : j ≠ (12 + 8 * p)) (hrw : j ≠ (13 + 8 * p)) : cvC0 V p n nc wh j = V j := by
  unfold cvC0; simp only [setB_ne hkw, setB_ne hk, setB_ne hah, setB_ne hrv, setB_ne hrs, setB_ne hrw]
theorem cvCn_kw (V : Nat → Row) (p n nc wh : Nat) (hp : p < 4) : cvCn V p n nc wh 0 = upd (V 0) 3 ((V 0) 3 + nI 1) := by
  unfold cvCn; simp (disch := omega) only [setB_ne, setB_eq]
theorem cvCn_k (V : Nat → Row) (p n nc wh : Nat) (hp : p < 4) : cvCn V p n nc wh (6 + 8 * p) = upd (upd (upd (upd (V (6 + 8 * p)) 3 ((V (6 + 8 * p)) 3 + nI 1)) 4 (nI (nc + 1))) 4 (nI 0)) 5 (nI (wh + 1)) := by
  unfold cvCn; simp (disch := omega) only [setB_ne, setB_eq]
theorem cvCn_mv (V : Nat → Row) (p n nc wh : Nat) (hp : p < 4) : cvCn V p n nc wh (8 + 8 * p) = cMv (V (8 + 8 * p)) (upd (V (12 + 8 * p)) nc ((V 3) nc)) (V (9 + 8 * p)) n := by
  unfold cvCn; simp (disch := omega) only [setB_ne, setB_eq]
theorem cvCn_ah (V : Nat → Row) (p n nc wh : Nat) (hp : p < 4) : cvCn V p n nc wh (9 + 8 * p) = upd (V (12 + 8 * p)) nc ((V 3) nc) := by
  unfold cvCn; simp (disch := omega) only [setB_ne, setB_eq]
theorem cvCn_rv (V : Nat → Row) (p n nc wh : Nat) (hp : p < 4) : cvCn V p n nc wh (11 + 8 * p) = upd (V (11 + 8 * p)) nc ((V 2) nc) := by
  unfold cvCn; simp (disch := omega) only [setB_ne, setB_eq]
theorem cvCn_rs (V : Nat → Row) (p n nc wh : Nat) (hp : p < 4) : cvCn V p n nc wh (12 + 8 * p) = upd (V (12 + 8 * p)) nc ((V 3) nc) := by
  unfold cvCn; simp (disch := omega) only [setB_ne, setB_eq]
theorem cvCn_rw (V : Nat → Row) (p n nc wh : Nat) (hp : p < 4) : cvCn V p n nc wh (13 + 8 * p) = va_cpy (V 4) (V (13 + 8 * p)) (nc * 4) (nc * 4) 4 := by
  unfold cvCn; simp (disch := omega) only [setB_ne, setB_eq]
theorem cvCn_o (V : Nat → Row) (p n nc wh : Nat) (hp : p < 4) (j : Nat) (hkw : j ≠ 0) (hk : j ≠ (6 + 8 * p)) (hmv : j ≠ (8 + 8 * p)) (hah : j ≠ (9 + 8 * p)) (hrv : j ≠ (11 + 8 * p)) (hrs : j ≠ (12 + 8 * p)) (hrw : j ≠ (13 + 8 * p)) : cvCn V p n nc wh j = V j := by
  unfold cvCn; simp only [setB_ne hkw, setB_ne hk, setB_ne hmv, setB_ne hah, setB_ne hrv, setB_ne hrs, setB_ne hrw]
theorem cvTv1_kw (V : Nat → Row) (p n nc wh ph wr : Nat) (pl : Nat → Nat) (hp : p < 4) : cvTv1 V p n nc wh ph wr pl 0 = upd (V 0) 3 ((V 0) 3 + nI 1) := by
  unfold cvTv1; simp (disch := omega) only [setB_ne, setB_eq]
theorem cvTv1_asz (V : Nat → Row) (p n nc wh ph wr : Nat) (pl : Nat → Nat) (hp : p < 4) : cvTv1 V p n nc wh ph wr pl 38 = upd (V 38) 0 (nI (up1 (decide (ph < 24)) ph)) := by
  unfold cvTv1; simp (disch := omega) only [setB_ne, setB_eq]
theorem cvTv1_fx (V : Nat → Row) (p n nc wh ph wr : Nat) (pl : Nat → Nat) (hp : p < 4) : cvTv1 V p n nc wh ph wr pl 39 = bif decide (ph < 24) then cFa (V 39) ph (nI p) (upd (upd (upd (upd (upd (upd (V (6 + 8 * p)) 3 ((V (6 + 8 * p)) 3 + nI 1)) 4 (nI (nc + 1))) 4 (nI 0)) 5 (nI (wh + 1))) 7 (-9)) 6 (nI 1)) ((V 0) 3 + nI 1) (cMom (V 41) pl (V 43) (upd (V (11 + 8 * p)) nc ((V 2) nc)) ((V (6 + 8 * p)) 2) wr).1 (upd (V (11 + 8 * p)) nc ((V 2) nc)) else (V 39) := by
  unfold cvTv1; simp (disch := omega) only [setB_ne, setB_eq]
theorem cvTv1_th (V : Nat → Row) (p n nc wh ph wr : Nat) (pl : Nat → Nat) (hp : p < 4) : cvTv1 V p n nc wh ph wr pl 44 = thK pl (V 43) (cMom (V 41) pl (V 43) (upd (V (11 + 8 * p)) nc ((V 2) nc)) ((V (6 + 8 * p)) 2) wr).2 := by
  unfold cvTv1; simp (disch := omega) only [setB_ne, setB_eq]
theorem cvTv1_k (V : Nat → Row) (p n nc wh ph wr : Nat) (pl : Nat → Nat) (hp : p < 4) : cvTv1 V p n nc wh ph wr pl (6 + 8 * p) = kB (nI 0) (-9) (nI 0) := by
  unfold cvTv1; simp (disch := omega) only [setB_ne, setB_eq]
theorem cvTv1_pv (V : Nat → Row) (p n nc wh ph wr : Nat) (pl : Nat → Nat) (hp : p < 4) : cvTv1 V p n nc wh ph wr pl (7 + 8 * p) = z0 := by
  unfold cvTv1; simp (disch := omega) only [setB_ne, setB_eq]
theorem cvTv1_mv (V : Nat → Row) (p n nc wh ph wr : Nat) (pl : Nat → Nat) (hp : p < 4) : cvTv1 V p n nc wh ph wr pl (8 + 8 * p) = z0 := by
  unfold cvTv1; simp (disch := omega) only [setB_ne, setB_eq]
theorem cvTv1_ah (V : Nat → Row) (p n nc wh ph wr : Nat) (pl : Nat → Nat) (hp : p < 4) : cvTv1 V p n nc wh ph wr pl (9 + 8 * p) = z0 := by
  unfold cvTv1; simp (disch := omega) only [setB_ne, setB_eq]
theorem cvTv1_rv (V : Nat → Row) (p n nc wh ph wr : Nat) (pl : Nat → Nat) (hp : p < 4) : cvTv1 V p n nc wh ph wr pl (11 + 8 * p) = z0 := by
  unfold cvTv1; simp (disch := omega) only [setB_ne, setB_eq]
theorem cvTv1_rs (V : Nat → Row) (p n nc wh ph wr : Nat) (pl : Nat → Nat) (hp : p < 4) : cvTv1 V p n nc wh ph wr pl (12 + 8 * p) = z0 := by
  unfold cvTv1; simp (disch := omega) only [setB_ne, setB_eq]
theorem cvTv1_rw (V : Nat → Row) (p n nc wh ph wr : Nat) (pl : Nat → Nat) (hp : p < 4) : cvTv1 V p n nc wh ph wr pl (13 + 8 * p) = z0 := by
  unfold cvTv1; simp (disch := omega) only [setB_ne, setB_eq]
theorem cvTv1_o (V : Nat → Row) (p n nc wh ph wr : Nat) (pl : Nat → Nat) (hp : p < 4) (j : Nat) (hkw : j ≠ 0) (hasz : j ≠ 38) (hfx : j ≠ 39) (hth : j ≠ 44) (hk : j ≠ (6 + 8 * p)) (hpv : j ≠ (7 + 8 * p)) (hmv : j ≠ (8 + 8 * p)) (hah : j ≠ (9 + 8 * p)) (hrv : j ≠ (11 + 8 * p)) (hrs : j ≠ (12 + 8 * p)) (hrw : j ≠ (13 + 8 * p)) : cvTv1 V p n nc wh ph wr pl j = V j := by
  unfold cvTv1; simp only [setB_ne hkw, setB_ne hasz, setB_ne hfx, setB_ne hth, setB_ne hk, setB_ne hpv, setB_ne hmv, setB_ne hah, setB_ne hrv, setB_ne hrs, setB_ne hrw]
theorem cvTv2_kw (V : Nat → Row) (p n nc wh ph wr : Nat) (pl : Nat → Nat) (hp : p < 4) : cvTv2 V p n nc wh ph wr pl 0 = upd (V 0) 3 ((V 0) 3 + nI 1) := by
  unfold cvTv2; simp (disch := omega) only [setB_ne, setB_eq]
theorem cvTv2_asz (V : Nat → Row) (p n nc wh ph wr : Nat) (pl : Nat → Nat) (hp : p < 4) : cvTv2 V p n nc wh ph wr pl 38 = upd (V 38) 0 (nI (up1 (decide (ph < 24)) ph)) := by
  unfold cvTv2; simp (disch := omega) only [setB_ne, setB_eq]
theorem cvTv2_fx (V : Nat → Row) (p n nc wh ph wr : Nat) (pl : Nat → Nat) (hp : p < 4) : cvTv2 V p n nc wh ph wr pl 39 = bif decide (ph < 24) then cFa (V 39) ph (nI p) (upd (upd (upd (upd (upd (upd (V (6 + 8 * p)) 3 ((V (6 + 8 * p)) 3 + nI 1)) 4 (nI (nc + 1))) 4 (nI 0)) 5 (nI (wh + 1))) 7 (-9)) 6 (nI 1)) ((V 0) 3 + nI 1) (cMom (V 41) pl (V 43) (upd (V (11 + 8 * p)) nc ((V 2) nc)) ((V (6 + 8 * p)) 2) wr).1 (upd (V (11 + 8 * p)) nc ((V 2) nc)) else (V 39) := by
  unfold cvTv2; simp (disch := omega) only [setB_ne, setB_eq]
theorem cvTv2_th (V : Nat → Row) (p n nc wh ph wr : Nat) (pl : Nat → Nat) (hp : p < 4) : cvTv2 V p n nc wh ph wr pl 44 = thK pl (V 43) (cMom (V 41) pl (V 43) (upd (V (11 + 8 * p)) nc ((V 2) nc)) ((V (6 + 8 * p)) 2) wr).2 := by
  unfold cvTv2; simp (disch := omega) only [setB_ne, setB_eq]
theorem cvTv2_k (V : Nat → Row) (p n nc wh ph wr : Nat) (pl : Nat → Nat) (hp : p < 4) : cvTv2 V p n nc wh ph wr pl (6 + 8 * p) = upd (upd (upd (upd (upd (upd (V (6 + 8 * p)) 3 ((V (6 + 8 * p)) 3 + nI 1)) 4 (nI (nc + 1))) 4 (nI 0)) 5 (nI (wh + 1))) 7 (-9)) 6 (nI 1) := by
  unfold cvTv2; simp (disch := omega) only [setB_ne, setB_eq]
theorem cvTv2_pv (V : Nat → Row) (p n nc wh ph wr : Nat) (pl : Nat → Nat) (hp : p < 4) : cvTv2 V p n nc wh ph wr pl (7 + 8 * p) = upd (V (11 + 8 * p)) nc ((V 2) nc) := by
  unfold cvTv2; simp (disch := omega) only [setB_ne, setB_eq]
theorem cvTv2_mv (V : Nat → Row) (p n nc wh ph wr : Nat) (pl : Nat → Nat) (hp : p < 4) : cvTv2 V p n nc wh ph wr pl (8 + 8 * p) = cMv (V (8 + 8 * p)) (upd (V (12 + 8 * p)) nc ((V 3) nc)) (V (9 + 8 * p)) n := by
  unfold cvTv2; simp (disch := omega) only [setB_ne, setB_eq]
theorem cvTv2_ah (V : Nat → Row) (p n nc wh ph wr : Nat) (pl : Nat → Nat) (hp : p < 4) : cvTv2 V p n nc wh ph wr pl (9 + 8 * p) = upd (V (12 + 8 * p)) nc ((V 3) nc) := by
  unfold cvTv2; simp (disch := omega) only [setB_ne, setB_eq]
theorem cvTv2_rv (V : Nat → Row) (p n nc wh ph wr : Nat) (pl : Nat → Nat) (hp : p < 4) : cvTv2 V p n nc wh ph wr pl (11 + 8 * p) = upd (V (11 + 8 * p)) nc ((V 2) nc) := by
  unfold cvTv2; simp (disch := omega) only [setB_ne, setB_eq]
theorem cvTv2_rs (V : Nat → Row) (p n nc wh ph wr : Nat) (pl : Nat → Nat) (hp : p < 4) : cvTv2 V p n nc wh ph wr pl (12 + 8 * p) = upd (V (12 + 8 * p)) nc ((V 3) nc) := by
  unfold cvTv2; simp (disch := omega) only [setB_ne, setB_eq]
theorem cvTv2_rw (V : Nat → Row) (p n nc wh ph wr : Nat) (pl : Nat → Nat) (hp : p < 4) : cvTv2 V p n nc wh ph wr pl (13 + 8 * p) = va_cpy (V 4) (V (13 + 8 * p)) (nc * 4) (nc * 4) 4 := by
  unfold cvTv2; simp (disch := omega) only [setB_ne, setB_eq]
theorem cvTv2_o (V : Nat → Row) (p n nc wh ph wr : Nat) (pl : Nat → Nat) (hp : p < 4) (j : Nat) (hkw : j ≠ 0) (hasz : j ≠ 38) (hfx : j ≠ 39) (hth : j ≠ 44) (hk : j ≠ (6 + 8 * p)) (hpv : j ≠ (7 + 8 * p)) (hmv : j ≠ (8 + 8 * p)) (hah : j ≠ (9 + 8 * p)) (hrv : j ≠ (11 + 8 * p)) (hrs : j ≠ (12 + 8 * p)) (hrw : j ≠ (13 + 8 * p)) : cvTv2 V p n nc wh ph wr pl j = V j := by
  unfold cvTv2; simp only [setB_ne hkw, setB_ne hasz, setB_ne hfx, setB_ne hth, setB_ne hk, setB_ne hpv, setB_ne hmv, setB_ne hah, setB_ne hrv, setB_ne hrs, setB_ne hrw]
theorem cvTw1_kw (V : Nat → Row) (p n nc wh ph wr q : Nat) (pl : Nat → Nat) (hp : p < 4) : cvTw1 V p n nc wh ph wr q pl 0 = upd (V 0) 3 ((V 0) 3 + nI 1) := by
  unfold cvTw1; simp (disch := omega) only [setB_ne, setB_eq]
theorem cvTw1_asz (V : Nat → Row) (p n nc wh ph wr q : Nat) (pl : Nat → Nat) (hp : p < 4) : cvTw1 V p n nc wh ph wr q pl 38 = upd (V 38) 0 (nI (up1 (decide (ph < 24)) ph)) := by
  unfold cvTw1; simp (disch := omega) only [setB_ne, setB_eq]
theorem cvTw1_fx (V : Nat → Row) (p n nc wh ph wr q : Nat) (pl : Nat → Nat) (hp : p < 4) : cvTw1 V p n nc wh ph wr q pl 39 = bif decide (ph < 24) then cFa (V 39) ph (nI p) (upd (upd (upd (upd (upd (upd (V (6 + 8 * p)) 3 ((V (6 + 8 * p)) 3 + nI 1)) 4 (nI (nc + 1))) 4 (nI 0)) 5 (nI (wh + 1))) 7 (nI q)) 6 (nI 1)) ((V 0) 3 + nI 1) (cMom (V 41) pl (V 43) (fun j => (va_cpy (V 4) (V (13 + 8 * p)) (nc * 4) (nc * 4) 4) (q * 4 + j)) ((V (6 + 8 * p)) 2) wr).1 (fun j => (va_cpy (V 4) (V (13 + 8 * p)) (nc * 4) (nc * 4) 4) (q * 4 + j)) else (V 39) := by
  unfold cvTw1; simp (disch := omega) only [setB_ne, setB_eq]
theorem cvTw1_th (V : Nat → Row) (p n nc wh ph wr q : Nat) (pl : Nat → Nat) (hp : p < 4) : cvTw1 V p n nc wh ph wr q pl 44 = thK pl (V 43) (cMom (V 41) pl (V 43) (fun j => (va_cpy (V 4) (V (13 + 8 * p)) (nc * 4) (nc * 4) 4) (q * 4 + j)) ((V (6 + 8 * p)) 2) wr).2 := by
  unfold cvTw1; simp (disch := omega) only [setB_ne, setB_eq]
theorem cvTw1_k (V : Nat → Row) (p n nc wh ph wr q : Nat) (pl : Nat → Nat) (hp : p < 4) : cvTw1 V p n nc wh ph wr q pl (6 + 8 * p) = kB (nI 0) (-9) (nI 0) := by
  unfold cvTw1; simp (disch := omega) only [setB_ne, setB_eq]
theorem cvTw1_pv (V : Nat → Row) (p n nc wh ph wr q : Nat) (pl : Nat → Nat) (hp : p < 4) : cvTw1 V p n nc wh ph wr q pl (7 + 8 * p) = z0 := by
  unfold cvTw1; simp (disch := omega) only [setB_ne, setB_eq]
theorem cvTw1_mv (V : Nat → Row) (p n nc wh ph wr q : Nat) (pl : Nat → Nat) (hp : p < 4) : cvTw1 V p n nc wh ph wr q pl (8 + 8 * p) = z0 := by
  unfold cvTw1; simp (disch := omega) only [setB_ne, setB_eq]
theorem cvTw1_ah (V : Nat → Row) (p n nc wh ph wr q : Nat) (pl : Nat → Nat) (hp : p < 4) : cvTw1 V p n nc wh ph wr q pl (9 + 8 * p) = z0 := by
  unfold cvTw1; simp (disch := omega) only [setB_ne, setB_eq]
theorem cvTw1_rv (V : Nat → Row) (p n nc wh ph wr q : Nat) (pl : Nat → Nat) (hp : p < 4) : cvTw1 V p n nc wh ph wr q pl (11 + 8 * p) = z0 := by
  unfold cvTw1; simp (disch := omega) only [setB_ne, setB_eq]
theorem cvTw1_rs (V : Nat → Row) (p n nc wh ph wr q : Nat) (pl : Nat → Nat) (hp : p < 4) : cvTw1 V p n nc wh ph wr q pl (12 + 8 * p) = z0 := by
  unfold cvTw1; simp (disch := omega) only [setB_ne, setB_eq]
theorem cvTw1_rw (V : Nat → Row) (p n nc wh ph wr q : Nat) (pl : Nat → Nat) (hp : p < 4) : cvTw1 V p n nc wh ph wr q pl (13 + 8 * p) = z0 := by
  unfold cvTw1; simp (disch := omega) only [setB_ne, setB_eq]
theorem cvTw1_o (V : Nat → Row) (p n nc wh ph wr q : Nat) (pl : Nat → Nat) (hp : p < 4) (j : Nat) (hkw : j ≠ 0) (hasz : j ≠ 38) (hfx : j ≠ 39) (hth : j ≠ 44) (hk : j ≠ (6 + 8 * p)) (hpv : j ≠ (7 + 8 * p)) (hmv : j ≠ (8 + 8 * p)) (hah : j ≠ (9 + 8 * p)) (hrv : j ≠ (11 + 8 * p)) (hrs : j ≠ (12 + 8 * p)) (hrw : j ≠ (13 + 8 * p)) : cvTw1 V p n nc wh ph wr q pl j = V j := by
  unfold cvTw1; simp only [setB_ne hkw, setB_ne hasz, setB_ne hfx, setB_ne hth, setB_ne hk, setB_ne hpv, setB_ne hmv, setB_ne hah, setB_ne hrv, setB_ne hrs, setB_ne hrw]
theorem cvTw2_kw (V : Nat → Row) (p n nc wh ph wr q : Nat) (pl : Nat → Nat) (hp : p < 4) : cvTw2 V p n nc wh ph wr q pl 0 = upd (V 0) 3 ((V 0) 3 + nI 1) := by
  unfold cvTw2; simp (disch := omega) only [setB_ne, setB_eq]
theorem cvTw2_asz (V : Nat → Row) (p n nc wh ph wr q : Nat) (pl : Nat → Nat) (hp : p < 4) : cvTw2 V p n nc wh ph wr q pl 38 = upd (V 38) 0 (nI (up1 (decide (ph < 24)) ph)) := by
  unfold cvTw2; simp (disch := omega) only [setB_ne, setB_eq]
theorem cvTw2_fx (V : Nat → Row) (p n nc wh ph wr q : Nat) (pl : Nat → Nat) (hp : p < 4) : cvTw2 V p n nc wh ph wr q pl 39 = bif decide (ph < 24) then cFa (V 39) ph (nI p) (upd (upd (upd (upd (upd (upd (V (6 + 8 * p)) 3 ((V (6 + 8 * p)) 3 + nI 1)) 4 (nI (nc + 1))) 4 (nI 0)) 5 (nI (wh + 1))) 7 (nI q)) 6 (nI 1)) ((V 0) 3 + nI 1) (cMom (V 41) pl (V 43) (fun j => (va_cpy (V 4) (V (13 + 8 * p)) (nc * 4) (nc * 4) 4) (q * 4 + j)) ((V (6 + 8 * p)) 2) wr).1 (fun j => (va_cpy (V 4) (V (13 + 8 * p)) (nc * 4) (nc * 4) 4) (q * 4 + j)) else (V 39) := by
  unfold cvTw2; simp (disch := omega) only [setB_ne, setB_eq]
theorem cvTw2_th (V : Nat → Row) (p n nc wh ph wr q : Nat) (pl : Nat → Nat) (hp : p < 4) : cvTw2 V p n nc wh ph wr q pl 44 = thK pl (V 43) (cMom (V 41) pl (V 43) (fun j => (va_cpy (V 4) (V (13 + 8 * p)) (nc * 4) (nc * 4) 4) (q * 4 + j)) ((V (6 + 8 * p)) 2) wr).2 := by
  unfold cvTw2; simp (disch := omega) only [setB_ne, setB_eq]
theorem cvTw2_k (V : Nat → Row) (p n nc wh ph wr q : Nat) (pl : Nat → Nat) (hp : p < 4) : cvTw2 V p n nc wh ph wr q pl (6 + 8 * p) = upd (upd (upd (upd (upd (upd (V (6 + 8 * p)) 3 ((V (6 + 8 * p)) 3 + nI 1)) 4 (nI (nc + 1))) 4 (nI 0)) 5 (nI (wh + 1))) 7 (nI q)) 6 (nI 1) := by
  unfold cvTw2; simp (disch := omega) only [setB_ne, setB_eq]
theorem cvTw2_pv (V : Nat → Row) (p n nc wh ph wr q : Nat) (pl : Nat → Nat) (hp : p < 4) : cvTw2 V p n nc wh ph wr q pl (7 + 8 * p) = fun j => (va_cpy (V 4) (V (13 + 8 * p)) (nc * 4) (nc * 4) 4) (q * 4 + j) := by
  unfold cvTw2; simp (disch := omega) only [setB_ne, setB_eq]
theorem cvTw2_mv (V : Nat → Row) (p n nc wh ph wr q : Nat) (pl : Nat → Nat) (hp : p < 4) : cvTw2 V p n nc wh ph wr q pl (8 + 8 * p) = cMv (V (8 + 8 * p)) (upd (V (12 + 8 * p)) nc ((V 3) nc)) (V (9 + 8 * p)) n := by
  unfold cvTw2; simp (disch := omega) only [setB_ne, setB_eq]
theorem cvTw2_ah (V : Nat → Row) (p n nc wh ph wr q : Nat) (pl : Nat → Nat) (hp : p < 4) : cvTw2 V p n nc wh ph wr q pl (9 + 8 * p) = upd (V (12 + 8 * p)) nc ((V 3) nc) := by
  unfold cvTw2; simp (disch := omega) only [setB_ne, setB_eq]
theorem cvTw2_rv (V : Nat → Row) (p n nc wh ph wr q : Nat) (pl : Nat → Nat) (hp : p < 4) : cvTw2 V p n nc wh ph wr q pl (11 + 8 * p) = upd (V (11 + 8 * p)) nc ((V 2) nc) := by
  unfold cvTw2; simp (disch := omega) only [setB_ne, setB_eq]
theorem cvTw2_rs (V : Nat → Row) (p n nc wh ph wr q : Nat) (pl : Nat → Nat) (hp : p < 4) : cvTw2 V p n nc wh ph wr q pl (12 + 8 * p) = upd (V (12 + 8 * p)) nc ((V 3) nc) := by
  unfold cvTw2; simp (disch := omega) only [setB_ne, setB_eq]
theorem cvTw2_rw (V : Nat → Row) (p n nc wh ph wr q : Nat) (pl : Nat → Nat) (hp : p < 4) : cvTw2 V p n nc wh ph wr q pl (13 + 8 * p) = va_cpy (V 4) (V (13 + 8 * p)) (nc * 4) (nc * 4) 4 := by
  unfold cvTw2; simp (disch := omega) only [setB_ne, setB_eq]
theorem cvTw2_o (V : Nat → Row) (p n nc wh ph wr q : Nat) (pl : Nat → Nat) (hp : p < 4) (j : Nat) (hkw : j ≠ 0) (hasz : j ≠ 38) (hfx : j ≠ 39) (hth : j ≠ 44) (hk : j ≠ (6 + 8 * p)) (hpv : j ≠ (7 + 8 * p)) (hmv : j ≠ (8 + 8 * p)) (hah : j ≠ (9 + 8 * p)) (hrv : j ≠ (11 + 8 * p)) (hrs : j ≠ (12 + 8 * p)) (hrw : j ≠ (13 + 8 * p)) : cvTw2 V p n nc wh ph wr q pl j = V j := by
  unfold cvTw2; simp only [setB_ne hkw, setB_ne hasz, setB_ne hfx, setB_ne hth, setB_ne hk, setB_ne hpv, setB_ne hmv, setB_ne hah, setB_ne hrv, setB_ne hrs, setB_ne hrw]
