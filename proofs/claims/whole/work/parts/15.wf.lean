/-! a row that is well: what every step keeps -/
def WPi (f : Row) (p : Nat) : Prop := ∀ i, i < 42 → f (32 + 42 * p + i) = 0
def WPb (f : Row) (n mv p kd st wh hs : Nat) (mm : Nat → Nat) : Prop :=
  f (32 + 42 * p + 0) = nI kd ∧ f (32 + 42 * p + 2) = nI st ∧ f (32 + 42 * p + 4) = nI wh ∧ f (32 + 42 * p + 5) = nI hs ∧ (∀ c, c < 4 → f (32 + 42 * p + 6 + c) = nI (mm c)) ∧ (kd = 1 ∨ kd = 2) ∧
  (hs = 0 ∧ st / n = wh ∧ (∀ c, c < 4 → mm c < mv) ∧ (∀ c, n ≤ c → mm c = 0) ∧ wh ≤ 1 + (mm 0 + mm 1 + mm 2 + mm 3) ∨ hs = 1 ∧ kd = 2 ∧ st ≤ 60 ∧ wh ≤ 60)
def WP (f : Row) (n mv p : Nat) : Prop := WPi f p ∨ ∃ (kd st wh hs : Nat) (mm : Nat → Nat), WPb f n mv p kd st wh hs mm
def WFr (f : Row) (n mv ph wr : Nat) : Prop := (2 ≤ n ∧ n ≤ 4 ∧ 1 ≤ mv ∧ mv ≤ 4 ∧ ph ≤ 24 ∧ wr ≤ 24) ∧ f 0 = nI n ∧ f 1 = nI mv ∧ f 5 = nI ph ∧ f 6 = nI wr ∧ ∀ p, p < 4 → WP f n mv p
theorem WPb.st60 {f : Row} {n mv p kd st wh hs : Nat} {mm : Nat → Nat} (h : WPb f n mv p kd st wh hs mm) (hn2 : 2 ≤ n) (hn : n ≤ 4) (hm : mv ≤ 4) : st ≤ 60 := by
  obtain ⟨-, -, -, -, -, -, h | h⟩ := h
  · obtain ⟨-, h1, h2, h3, h4⟩ := h
    have a0 := h2 0 (by omega)
    have a1 := h2 1 (by omega)
    have a2 := h2 2 (by omega)
    have a3 := h2 3 (by omega)
    rcases (by omega : n = 2 ∨ n = 3 ∨ n = 4) with rfl | rfl | rfl
    · have := h3 2 (by omega); have := h3 3 (by omega); omega
    · have := h3 3 (by omega); omega
    · omega
  · exact h.2.2.1
theorem WPb.st55 {f : Row} {n mv p kd st wh : Nat} {mm : Nat → Nat} (h : WPb f n mv p kd st wh 0 mm) (hn2 : 2 ≤ n) (hn : n ≤ 4) (hm : mv ≤ 4) : st ≤ 55 ∧ wh ≤ 13 := by
  obtain ⟨-, -, -, -, -, -, h | h⟩ := h
  · obtain ⟨-, h1, h2, h3, h4⟩ := h
    have a0 := h2 0 (by omega)
    have a1 := h2 1 (by omega)
    have a2 := h2 2 (by omega)
    have a3 := h2 3 (by omega)
    rcases (by omega : n = 2 ∨ n = 3 ∨ n = 4) with rfl | rfl | rfl
    · have := h3 2 (by omega); have := h3 3 (by omega); omega
    · have := h3 3 (by omega); omega
    · omega
  · exact absurd h.1 (by omega)
theorem nI0 : nI 0 = 0 := rfl
theorem nIne {a b : Nat} (ha : a < 2 ^ 31) (hb : b < 2 ^ 31) (h : a ≠ b) : ¬ nI a = nI b := fun e => h ((nI_eq ha hb).mp e)
theorem WP.act {f : Row} {n mv p : Nat} (h : WP f n mv p) (ha : ¬ f (32 + 42 * p + 0) = 0) : ∃ (kd st wh hs : Nat) (mm : Nat → Nat), WPb f n mv p kd st wh hs mm := by
  rcases h with h | h
  · exact absurd (h 0 (by omega)) ha
  · exact h
theorem WPb.ne0 {f : Row} {n mv p kd st wh hs : Nat} {mm : Nat → Nat} (h : WPb f n mv p kd st wh hs mm) : ¬ f (32 + 42 * p + 0) = 0 := by
  rw [h.1]; rcases h.2.2.2.2.2.1 with e | e <;> rw [e] <;> decide
/-- what a writer's part rests on -/
theorem WP.to {f f' : Row} {n mv p : Nat} (h : WP f n mv p) (e : ∀ i, i < 42 → f' (32 + 42 * p + i) = f (32 + 42 * p + i)) : WP f' n mv p := by
  rcases h with h | ⟨kd, st, wh, hs, mm, h1, h2, h3, h4, h5, h6⟩
  · exact Or.inl (fun i hi => (e i hi).trans (h i hi))
  · exact Or.inr ⟨kd, st, wh, hs, mm, (e 0 (by omega)).trans h1, (e 2 (by omega)).trans h2, (e 4 (by omega)).trans h3, (e 5 (by omega)).trans h4, fun c hc => by
      have := e (6 + c) (by omega)
      rw [← Nat.add_assoc] at this
      exact this.trans (h5 c hc), h6⟩
/-! values of the parts of a step -/
theorem tk_o {f : Row} {p : Nat} {q : Option Nat} {k j : Nat} (h : j < 32 + 42 * p + 38 ∨ 32 + 42 * p + 38 + k ≤ j) : mTk f p q k j = f j := if_neg (by omega)
theorem tk_i {f : Row} {p : Nat} {q : Option Nat} {k c : Nat} (h : c < k) : mTk f p q k (32 + 42 * p + 38 + c) = mSrc f p q c := by
  unfold mTk; rw [if_pos (by omega), show 32 + 42 * p + 38 + c - (32 + 42 * p + 38) = c by omega]
theorem pho_o {f : Row} {p : Nat} {q : Option Nat} {j ph : Nat} (h5 : rPh f = ph) (h : j < 200 + 10 * ph ∨ 200 + 10 * ph + 10 ≤ j) (hj : j ≠ 5) : mPho f p q j = f j := by
  dsimp only [mPho]; rw [h5]
  rw [upd_ne hj, cpy_o (by omega), upd_ne (by omega), upd_ne (by omega), upd_ne (by omega), upd_ne (by omega), upd_ne (by omega), upd_ne (by omega)]
theorem pho_5 {f : Row} {p : Nat} {q : Option Nat} {ph : Nat} (h5 : f 5 = nI ph) (hph : ph < 2 ^ 31) : mPho f p q 5 = nI (ph + 1) := by
  dsimp only [mPho]
  rw [upd_self, cpy_o (by omega), upd_ne (by omega), upd_ne (by omega), upd_ne (by omega), upd_ne (by omega), upd_ne (by omega), upd_ne (by omega), h5, nI_add]
theorem ev_o {f : Row} {p j wr : Nat} (h6 : rWr f = wr) (h : j < 440 + 3 * wr ∨ 440 + 3 * wr + 3 ≤ j) (hj : j ≠ 6) : mEv f p j = f j := by
  dsimp only [mEv]; rw [h6]
  rw [upd_ne hj, upd_ne (by omega), upd_ne (by omega), upd_ne (by omega)]
theorem ev_6 {f : Row} {p wr : Nat} (h6 : f 6 = nI wr) : mEv f p 6 = nI (wr + 1) := by
  dsimp only [mEv]
  rw [upd_self, upd_ne (by omega), upd_ne (by omega), upd_ne (by omega), h6, nI_add]
theorem wr1_o {f : Row} {p j : Nat} (h : j < 8 + 6 * p ∨ 8 + 6 * p + 2 ≤ j) : mWr1 f p j = f j := by
  dsimp only [mWr1]; rw [upd_ne (by omega), upd_ne (by omega), upd_ne (by omega)]
theorem rWr_of {f : Row} {wr : Nat} (h6 : f 6 = nI wr) (h : wr ≤ 24) : rWr f = wr := by unfold rWr; rw [h6]; exact nI_clamp (by omega)
theorem rPh_of {f : Row} {ph : Nat} (h5 : f 5 = nI ph) (h : ph ≤ 24) : rPh f = ph := by unfold rPh; rw [h5]; exact nI_clamp (by omega)
theorem rN_of {f : Row} {n : Nat} (h0 : f 0 = nI n) (h : n ≤ 4) : rN f = n := by unfold rN; rw [h0]; exact nI_clamp (by omega)
theorem rSt_of {f : Row} {p st : Nat} (h0 : f (32 + 42 * p + 2) = nI st) (h : st < 1000) : rSt f p = st := by unfold rSt; rw [h0]; exact nI_clamp (by omega)
/-- a write: outside the writer's part, its cell, the events, nothing changes -/
theorem wr_o {f : Row} {p j wr : Nat} (h6 : f 6 = nI wr) (hwr : wr ≤ 24) (hp : p < 4) (h1 : j < 8 + 6 * p ∨ 8 + 6 * p + 6 ≤ j) (h2 : j < 32 + 42 * p ∨ 32 + 42 * p + 42 ≤ j) (h3 : j < 440 + 3 * wr ∨ 440 + 3 * wr + 3 ≤ j) (hj : j ≠ 6) : mWrite f p j = f j := by
  dsimp only [mWrite]
  rw [idl_o h2]
  have e4 : va_cpy (mWr1 f p) (mWr1 f p) (32 + 42 * p + 38) (8 + 6 * p + 2) 4 6 = nI wr := by rw [cpy_o (by omega), wr1_o (by omega)]; exact h6
  split
  · rw [ev_o (rWr_of e4 hwr) h3 hj, cpy_o (by omega), wr1_o (by omega)]
  · rw [cpy_o (by omega), wr1_o (by omega)]
theorem wr_6 {f : Row} {p wr : Nat} (h6 : f 6 = nI wr) (hwr : wr ≤ 24) (hp : p < 4) : mWrite f p 6 = nI (if wr < 24 then wr + 1 else wr) := by
  dsimp only [mWrite]
  rw [idl_o (by omega), rWr_of h6 hwr]
  have e4 : va_cpy (mWr1 f p) (mWr1 f p) (32 + 42 * p + 38) (8 + 6 * p + 2) 4 6 = nI wr := by rw [cpy_o (by omega), wr1_o (by omega)]; exact h6
  split
  · rw [ev_6 e4]
  · exact e4
theorem takes_o {f : Row} {p : Nat} {q : Option Nat} {j n ph : Nat} (h0 : f 0 = nI n) (hn : n ≤ 4) (h5 : f 5 = nI ph) (hph : ph ≤ 24) (h1 : j < 32 + 42 * p + 38 ∨ 32 + 42 * p + 42 ≤ j) (h2 : ph = 24 ∨ j < 200 + 10 * ph ∨ 200 + 10 * ph + 10 ≤ j) (h3 : j ≠ 5) (h4 : j ≠ 32 + 42 * p + 5) : mTakes f p q j = f j := by
  dsimp only [mTakes]
  rw [upd_ne h4]
  have e5 : mTk f p q (rN f) 5 = nI ph := by rw [tk_o (by omega)]; exact h5
  have en := rN_of h0 hn
  split
  · rename_i hlt
    rw [rPh_of h5 hph] at hlt
    rw [pho_o (rPh_of e5 hph) (by omega) h3, tk_o (by omega)]
  · rw [tk_o (by omega)]
theorem takes_5 {f : Row} {p : Nat} {q : Option Nat} {n ph : Nat} (h0 : f 0 = nI n) (hn : n ≤ 4) (h5 : f 5 = nI ph) (hph : ph ≤ 24) : mTakes f p q 5 = nI (if ph < 24 then ph + 1 else ph) := by
  dsimp only [mTakes]
  rw [upd_ne (by omega), rPh_of h5 hph]
  have e5 : mTk f p q (rN f) 5 = nI ph := by rw [tk_o (by omega)]; exact h5
  split
  · rw [pho_5 e5 (by omega)]
  · exact e5
theorem takes_h {f : Row} {p : Nat} {q : Option Nat} : mTakes f p q (32 + 42 * p + 5) = nI 1 := upd_self
theorem anyMv_f {f : Row} {p : Nat} (h : ¬ nI 1 < f (32 + 42 * p + 4)) : ∀ k, anyMv f p k = false
  | 0 => rfl
  | k + 1 => by
    rw [anyMv, anyMv_f h k]; unfold mMv; rw [decide_eq_false (p := nI 1 < f (32 + 42 * p + 4)) h]; rfl
theorem anyMv_ex {f : Row} {p : Nat} : ∀ k, anyMv f p k = true → ∃ c, c < k ∧ mMv f p c = true
  | 0, h => by cases h
  | k + 1, h => by
    rw [anyMv, Bool.or_eq_true] at h
    rcases h with h | h
    · obtain ⟨c, h1, h2⟩ := anyMv_ex k h; exact ⟨c, by omega, h2⟩
    · exact ⟨k, by omega, h⟩
theorem anyMv_no {f : Row} {p : Nat} : ∀ k, anyMv f p k = false → ∀ c, c < k → mMv f p c = false
  | 0, _, c, hc => by omega
  | k + 1, h, c, hc => by
    rw [anyMv, Bool.or_eq_false_iff] at h
    by_cases e : c = k
    · subst e; exact h.2
    · exact anyMv_no k h.1 c (by omega)
theorem lendG_none {f : Row} {p : Nat} : ∀ (i j : Nat), lendG f p j i = none → ∀ c, j ≤ c → c < j + i → ¬ f 1 ≤ f (32 + 42 * p + 6 + c)
  | 0, _, _, c, h1, h2 => by omega
  | i + 1, j, h, c, h1, h2 => by
    rw [lendG] at h
    split at h
    · cases h
    · rename_i hh
      by_cases e : c = j
      · subst e; exact hh
      · exact lendG_none i (j + 1) h c (by omega) (by omega)
theorem cnt_mv {f : Row} {p k c : Nat} (hk : k ≤ 4) (hc : c < 4) : mCnt f p k (32 + 42 * p + 6 + c) = if c < k ∧ mMv f p c = true then f (32 + 42 * p + 6 + c) + nI 1 else f (32 + 42 * p + 6 + c) := by
  unfold mCnt
  rw [if_neg (show ¬ (32 + 42 * p + 10 ≤ 32 + 42 * p + 6 + c ∧ 32 + 42 * p + 6 + c < 32 + 42 * p + 10 + k) by omega), show 32 + 42 * p + 6 + c - (32 + 42 * p + 6) = c by omega]
  by_cases h : c < k ∧ mMv f p c = true
  · rw [if_pos h, if_pos ⟨by omega, by omega, h.2⟩]
  · rw [if_neg h, if_neg (fun h2 => h ⟨by omega, h2.2.2⟩)]
theorem cnt_ah {f : Row} {p k c : Nat} (hc : c < k) : mCnt f p k (32 + 42 * p + 10 + c) = f (32 + 42 * p + 14 + 6 * c + 1) := by
  unfold mCnt; rw [if_pos (by omega), show 32 + 42 * p + 10 + c - (32 + 42 * p + 10) = c by omega]
theorem cnt_out {f : Row} {p k j : Nat} (h : j < 32 + 42 * p + 6 ∨ 32 + 42 * p + 14 ≤ j) (hk : k ≤ 4) : mCnt f p k j = f j := cnt_o (by omega) hk
