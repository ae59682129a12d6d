/-! the reference's object and its rows -/
abbrev aZ (g : GG) (a n : Nat) (f : Row) : Nat × va_E := (a, .inl (g.2 1, n, .inl f))
abbrev mOb (a : Nat → Nat) (th um sm : Int32) : Nat × va_E := (a 0, .inr (6, [.int th, .ref (a 1), .ref (a 2), .ref (a 3), .int um, .ref (a 4), .ref (a 5), .ref (a 6), .int sm, .ref (a 7)]))
abbrev mW (g : GG) (a : Nat → Nat) (th um sm : Int32) (f fw fp fi fk fs ft : Row) : va_W := [mOb a th um sm, aI g (a 1) 512 f, aI g (a 2) 512 fw, aI g (a 3) 2560 fp, aI g (a 4) 1024 fi, aZ g (a 5) 2 fk, aI g (a 6) 18 fs, aI g (a 7) 4 ft]
def nU (u : Nat) : Nat := if u = 5 then 5 else u + 1
def nP (u : Nat) (f fp : Row) : Row := va_cpy f (if u = 5 then va_cpy fp fp 512 0 2048 else fp) 0 (512 * (if u = 5 then 4 else u)) 512
theorem inB_nat {x : Int32} {n : Nat} (hn : 1 ≤ n) (hn2 : n < 1000) (h : inB x (nI 0) (nI (n - 1)) = true) : ∃ p, p < n ∧ x = nI p := by
  unfold inB at h
  have h := of_decide_eq_true h
  obtain ⟨j, h1, h2⟩ := nI_of2 (x := x) (M := nI (n - 1)) (n := n - 1) (nI_toInt (by omega)) (Int32.not_lt.mpr h.1) h.2
  exact ⟨j, by omega, h2⟩
theorem inB_of {x lo hi : Nat} (h1 : lo ≤ x) (h2 : x ≤ hi) (h3 : hi < 2 ^ 31) : inB (nI x) (nI lo) (nI hi) = true := decide_eq_true ⟨nI_le h1 (by omega), nI_le h2 h3⟩
theorem inB_lit {x : Int32} {lo hi : Nat} (h3 : hi < 2 ^ 31) (hl : lo < 2 ^ 31) (h : inB x (nI lo) (nI hi) = true) : ∃ k, lo ≤ k ∧ k ≤ hi ∧ x = nI k := by
  unfold inB at h
  have h := of_decide_eq_true h
  obtain ⟨j, h1, h2⟩ := nI_of2 (x := x) (M := nI hi) (n := hi) (nI_toInt (by omega)) (Int32.not_lt.mpr (Int32.le_trans (nI_pos' hl) h.1)) h.2
  refine ⟨j, ?_, h1, h2⟩
  have h4 := h.1
  rw [h2] at h4
  exact (nI_leI hl (by omega)).mp h4
/-- k steps of a writer, or as many as there are -/
def stF (f : Row) (p : Nat) : Nat → Row
  | 0 => f
  | k + 1 => if f (32 + 42 * p + 0) = 0 then f else stF (mStep f p) p k
def stC (f : Row) (p : Nat) : Nat → Nat
  | 0 => 0
  | k + 1 => if f (32 + 42 * p + 0) = 0 then 0 else stC (mStep f p) p k + 1
theorem stF_idle {f : Row} {p : Nat} (h : f (32 + 42 * p + 0) = 0) : ∀ k, stF f p k = f
  | 0 => rfl
  | k + 1 => by rw [stF, if_pos h]
theorem stC_idle {f : Row} {p : Nat} (h : f (32 + 42 * p + 0) = 0) : ∀ k, stC f p k = 0
  | 0 => rfl
  | k + 1 => by rw [stC, if_pos h]
/-- well, of some counts -/
def WFx (f : Row) (n mv : Nat) : Prop := ∃ ph wr, WFr f n mv ph wr
theorem wfx_step {f : Row} {n mv p : Nat} (h : WFx f n mv) (hp : p < n) (ha : ¬ f (32 + 42 * p + 0) = 0) : WFx (mStep f p) n mv := by
  obtain ⟨ph, wr, h⟩ := h
  have hp4 : p < 4 := by have := h.1.2.1; omega
  obtain ⟨kd, st, wh, hs, mm, hb⟩ := (h.2.2.2.2.2 p hp4).act ha
  obtain ⟨ph', wr', h1, -⟩ := wf_step h hp hb
  exact ⟨ph', wr', h1⟩
def begB (x y z : Int32) : Bool := inB x (nI 2) (nI 4) && (inB y (nI 1) (nI 4) && (decide (z = 0) || inB z (nI 2) (nI 8)))
