theorem setV_setV {V : Nat → Nat → Row} {i : Nat} {X Y : Nat → Row} : setV (setV V i X) i Y = setV V i Y := by
  funext k
  by_cases e : k = i
  · subst e; rw [setV_eq, setV_eq]
  · rw [setV_ne e, setV_ne e, setV_ne e]
theorem c_W_isReading (l : Launch) (g : GG) (a : Nat → Nat) (V : Nat → Row) (i : Nat) (hi : i < 4) : Ct l g yX0_isReading cX0_isReading 1 (some .boolean) 0 [.ref (a (6 + 8 * i))] (wW g a V) (some (.int (bI (decide (¬ V (6 + 8 * i) 0 = 0) && decide (V (6 + 8 * i) 6 = 0))))) (wW g a V) := in_T i hi ((c_X0_isReading l g (fun j => a (6 + 8 * i + j)) (V (6 + 8 * i))).frameP ((sT g a V i).tail) (List.Perm.refl _) (List.Perm.refl _))
theorem rel_rdB {V : Nat → Row} {f : Row} {n mv ph wr t p : Nat} (h : Rel V f n mv ph wr t) (hp : p < 4) : (decide (¬ V (6 + 8 * p) 0 = 0) && decide (V (6 + 8 * p) 6 = 0)) = rdB f p := by
  obtain ⟨k0, -, -, -, -, -, k6, -⟩ := h.2.2.2.2.1 p hp
  rw [k0, k6]; rfl
theorem rel_nc {V : Nat → Row} {f : Row} {n mv ph wr t p : Nat} (h : Rel V f n mv ph wr t) (hp : p < 4) (hr : rdB f p = true) : V (6 + 8 * p) 4 = nI (rSt f p % n) := by
  have := (h.2.2.2.2.1 p hp).2.2.2.2.1
  rw [this, hr]; rfl
theorem c_W_fact (l : Launch) (g : GG) (a : Nat → Nat) (V : Nat → Row) (i k : Nat) (hi : i < 24) (hk : k < 11) : Ct l g yX1_fact cX1_fact 3 (some .int) 0 [.ref (a 38), .int (nI i), .int (nI k)] (wW g a V) (some (.int (V 39 (i * 11 + k)))) (wW g a V) := in_L (c_X1_fact l g (a 38) (a 39) (V 38 0) (V 39) i k hi hk)
theorem c_W_countWith (l : Launch) (g : GG) (a : Nat → Nat) (V : Nat → Row) (ph k : Nat) (x : Int32) (hph : ph ≤ 24) (hk : k < 11) (h38 : V 38 0 = nI ph) : Ct l g yX1_countWith cX1_countWith 5 (some .int) 1 [.ref (a 38), .int (nI k), .int x] (wW g a V) (some (.int (nI (cCW (V 39) k x ph)))) (wW g a V) := by
  have q := c_X1_countWith l g (a 38) (a 39) (V 39) ph k x hph hk
  rw [← h38] at q
  exact in_L q
theorem c_W_least (l : Launch) (g : GG) (a : Nat → Nat) (V : Nat → Row) (ph : Nat) (x : Int32) (hph : ph ≤ 24) (h38 : V 38 0 = nI ph) : Ct l g yX1_leastReadsAbove cX1_leastReadsAbove 5 (some .int) 1 [.ref (a 38), .int x] (wW g a V) (some (.int (cLA (V 39) x ph))) (wW g a V) := by
  have q := c_X1_leastReadsAbove l g (a 38) (a 39) (V 39) ph x hph
  rw [← h38] at q
  exact in_L q
theorem c_W_great (l : Launch) (g : GG) (a : Nat → Nat) (V : Nat → Row) (ph : Nat) (x : Int32) (hph : ph ≤ 24) (h38 : V 38 0 = nI ph) : Ct l g yX1_greatestReadsBelow cX1_greatestReadsBelow 5 (some .int) 1 [.ref (a 38), .int x] (wW g a V) (some (.int (cGB (V 39) x ph))) (wW g a V) := by
  have q := c_X1_greatestReadsBelow l g (a 38) (a 39) (V 39) ph x hph
  rw [← h38] at q
  exact in_L q
theorem cw_t {fa f : Row} {x : Int32} : ∀ ph, (∀ i, i < ph → fa (i * 11 + 3) = f (200 + 10 * i + 3)) → cCW fa 3 x ph = rdT f x ph
  | 0, _ => rfl
  | i + 1, h => by rw [cCW, rdT, cw_t i (fun j hj => h j (by omega)), h i (by omega)]
theorem la_t {fa f : Row} {x : Int32} : ∀ ph, (∀ i, i < ph → fa (i * 11 + 3) = f (200 + 10 * i + 3)) → cLA fa x ph = rdA f x ph
  | 0, _ => rfl
  | i + 1, h => by rw [cLA, rdA, la_t i (fun j hj => h j (by omega)), h i (by omega)]
theorem m9lt {r : Nat} (h : r ≤ 60) : (-9 : Int32) < nI r := by
  apply Int32.lt_iff_toInt_lt.mpr
  rw [nI_toInt (by omega), show (-9 : Int32).toInt = -9 by decide]; omega
theorem gb_t {fa f : Row} {x : Int32} : ∀ ph, (∀ i, i < ph → fa (i * 11 + 3) = f (200 + 10 * i + 3)) → (∀ i, i < ph → ∃ r, r ≤ 60 ∧ f (200 + 10 * i + 3) = nI r) → cGB fa x ph = rdZ f x ph
  | 0, _, _ => rfl
  | i + 1, h, hr => by
    obtain ⟨r, h1, h2⟩ := hr i (by omega)
    rw [cGB, rdZ, gb_t i (fun j hj => h j (by omega)) (fun j hj => hr j (by omega)), h i (by omega), h2]
    by_cases e : rdZ f x i = -9
    · rw [e]
      have := m9lt h1
      simp [this]
    · simp [e]
theorem cl_t {fa f : Row} : ∀ ph, (∀ i, i < ph → fa (i * 11 + 4) = f (200 + 10 * i + 4)) → cCW fa 4 (-9) ph + phL f ph = ph
  | 0, _ => rfl
  | i + 1, h => by
    have := cl_t i (fun j hj => h j (by omega))
    rw [cCW, phL, h i (by omega)]
    split <;> omega
theorem cf_t {fa f : Row} : ∀ ph, (∀ i, i < ph → fa (i * 11 + 10) = mMom f i) → cCW fa 10 (-9) ph = phF f ph
  | 0, _ => rfl
  | i + 1, h => by rw [cCW, phF, cf_t i (fun j hj => h j (by omega)), h i (by omega)]
theorem msk_eq {β γ : Nat → Bool} : ∀ k, (∀ j, j < k → β (j + 1) = γ (j + 1)) → mskK β k = mskK γ k
  | 0, _ => rfl
  | k + 1, h => by rw [mskK, mskK, msk_eq k (fun j hj => h j (by omega)), h k (by omega)]
