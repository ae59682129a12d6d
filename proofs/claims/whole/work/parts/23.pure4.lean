/-! trials, what was seen, counts: pure -/
theorem wf_bares {n mv : Nat} {w : Int32} (hn2 : 2 ≤ n) (hn : n ≤ 4) (hm1 : 1 ≤ mv) (hm : mv ≤ 4) : WFx (mBares (nI n) (nI mv) w) n mv := by
  have e : ∀ j, 3 ≤ j → mBares (nI n) (nI mv) w j = 0 := fun j hj => by unfold mBares; rw [upd_ne (by omega), upd_ne (by omega), upd_ne (by omega)]
  refine ⟨0, 0, ⟨hn2, hn, hm1, hm, by omega, by omega⟩, ?_, ?_, e 5 (by omega), e 6 (by omega), fun p hp => Or.inl (fun i hi => e _ (by omega))⟩
  · unfold mBares; rw [upd_ne (by omega), upd_ne (by omega), upd_self]
  · unfold mBares; rw [upd_ne (by omega), upd_self]
theorem acts_o {f : Row} {p j : Nat} {act v : Int32} (h : j < 32 + 42 * p ∨ 32 + 42 * p + 42 ≤ j) (h4 : j ≠ 4) : mActs f p act v j = f j := by
  dsimp only [mActs]; rw [upd_ne h4, upd_ne (by omega), upd_ne (by omega), upd_ne (by omega), idl_o h]
theorem acts_0 {f : Row} {p : Nat} {act v : Int32} : mActs f p act v (32 + 42 * p + 0) = act := by
  dsimp only [mActs]; rw [upd_ne (by omega), upd_ne (by omega), upd_ne (by omega), upd_self]
theorem acts_1 {f : Row} {p : Nat} {act v : Int32} : mActs f p act v (32 + 42 * p + 1) = v := by
  dsimp only [mActs]; rw [upd_ne (by omega), upd_ne (by omega), upd_self]
theorem acts_3 {f : Row} {p : Nat} {act v : Int32} : mActs f p act v (32 + 42 * p + 3) = f 3 := by
  dsimp only [mActs]; rw [upd_ne (by omega), upd_self, upd_ne (by omega), upd_ne (by omega), idl_o (by omega)]
theorem acts_4 {f : Row} {p : Nat} {act v : Int32} : mActs f p act v 4 = f 4 + nI 1 := by
  dsimp only [mActs]; rw [upd_self, upd_ne (by omega), upd_ne (by omega), upd_ne (by omega), idl_o (by omega)]
theorem acts_z {f : Row} {p i : Nat} {act v : Int32} (hi : i < 42) (h0 : i ≠ 0) (h1 : i ≠ 1) (h3 : i ≠ 3) : mActs f p act v (32 + 42 * p + i) = 0 := by
  dsimp only [mActs]; rw [upd_ne (by omega), upd_ne (by omega), upd_ne (by omega), upd_ne (by omega), idl_i (by omega) (by omega)]
theorem wf_acts {f : Row} {n mv p kd : Nat} {v : Int32} (hx : WFx f n mv) (hp : p < n) (hk : kd = 1 ∨ kd = 2) : WFx (mActs f p (nI kd) v) n mv := by
  obtain ⟨ph, wr, ⟨hn2, hn, hm1, hm, hph, hwr⟩, h0, h1, h5, h6, hW⟩ := hx
  refine ⟨ph, wr, ⟨hn2, hn, hm1, hm, hph, hwr⟩, ?_, ?_, ?_, ?_, fun p' hp' => ?_⟩
  · rw [acts_o (by omega) (by omega)]; exact h0
  · rw [acts_o (by omega) (by omega)]; exact h1
  · rw [acts_o (by omega) (by omega)]; exact h5
  · rw [acts_o (by omega) (by omega)]; exact h6
  · by_cases e : p' = p
    · subst e
      refine Or.inr ⟨kd, 0, 0, 0, fun _ => 0, acts_0, acts_z (by omega) (by omega) (by omega) (by omega), acts_z (by omega) (by omega) (by omega) (by omega), acts_z (by omega) (by omega) (by omega) (by omega), fun c hc => ?_, hk, Or.inl ⟨rfl, Nat.zero_div n, fun c _ => (show 0 < mv by omega), fun c _ => rfl, by omega⟩⟩
      rw [Nat.add_assoc]; exact acts_z (by omega) (by omega) (by omega) (by omega)
    · exact (hW p' hp').to (fun i hi => acts_o (by omega) (by omega))
theorem wf_stF {n mv p : Nat} (hp : p < n) : ∀ (k : Nat) (f : Row), WFx f n mv → WFx (stF f p k) n mv
  | 0, _, h => h
  | k + 1, f, h => by
    rw [stF]; split
    · exact h
    · rename_i ha; exact wf_stF hp k _ (wfx_step h hp ha)
theorem stF_other {n mv p p' : Nat} (hp : p < n) (hp' : p' < 4) (hne : p' ≠ p) (i : Nat) (hi : i < 42) : ∀ (k : Nat) (f : Row), WFx f n mv → stF f p k (32 + 42 * p' + i) = f (32 + 42 * p' + i)
  | 0, _, _ => rfl
  | k + 1, f, h => by
    rw [stF]; split
    · rfl
    · rename_i ha; rw [stF_other hp hp' hne i hi k _ (wfx_step h hp ha), wfx_other h hp ha hp' hne i hi]
theorem MB.mono_stF {n mv p j : Nat} (hp : p < n) : ∀ (k : Nat) (f : Row), WFx f n mv → MB f p j → MB (stF f p k) p j
  | 0, _, _, h => h
  | k + 1, f, hx, h => by
    rw [stF]; split
    · exact h
    · rename_i ha
      refine MB.mono_stF hp k _ (wfx_step hx hp ha) ?_
      have := (h.more (Nat.le_succ j)).step hx hp ha
      exact this
theorem MB.stF1 {n mv p j k : Nat} {f : Row} (hp : p < n) (hk : 1 ≤ k) (hx : WFx f n mv) (h : MB f p (j + 1)) : MB (stF f p k) p j := by
  obtain ⟨k, rfl⟩ : ∃ k', k = k' + 1 := ⟨k - 1, by omega⟩
  rw [stF]; split
  · rename_i ha; exact Or.inl ha
  · rename_i ha; exact MB.mono_stF hp k _ (wfx_step hx hp ha) (h.step hx hp ha)
/-- the other writer of a trial: one step, a new act if it is done -/
def tb1 (x : Row × Nat) : Row × Nat := if mStep x.1 1 (32 + 42 * 1 + 0) = 0 then (mActs (mStep x.1 1) 1 (nI 2) (nI (x.2 + 1)), x.2 + 1) else (mStep x.1 1, x.2)
def tbK (x : Row × Nat) : Nat → Row × Nat
  | 0 => x
  | k + 1 => tb1 (tbK x k)
def trR (x : Row × Nat) (a b : Nat) : Row × Nat := tbK (stF x.1 0 a, x.2) b
def trC (a b : Nat) : Nat → Row × Nat → Nat
  | 0, _ => 0
  | j + 1, x => if x.1 (32 + 42 * 0 + 0) = 0 then 0 else stC x.1 0 a + trC a b j (trR x a b)
def trF (a b : Nat) : Nat → Row × Nat → Row
  | 0, x => x.1
  | j + 1, x => if x.1 (32 + 42 * 0 + 0) = 0 then x.1 else trF a b j (trR x a b)
def tr0 (n mv : Nat) (w : Int32) : Row × Nat := (mActs (mActs (mBares (nI n) (nI mv) w) 0 (nI 1) (nI 0)) 1 (nI 2) (nI 1), 1)
/-- a trial: how many steps the scan took -/
def trN (n mv : Nat) (w : Int32) (a b : Nat) : Nat := trC a b 1000 (tr0 n mv w)
/-- well, writer 1 busy -/
def TWf (x : Row) (n mv : Nat) : Prop := WFx x n mv ∧ ¬ x (32 + 42 * 1 + 0) = 0
theorem tw_0 {n mv : Nat} {w : Int32} (hn2 : 2 ≤ n) (hn : n ≤ 4) (hm1 : 1 ≤ mv) (hm : mv ≤ 4) : TWf (tr0 n mv w).1 n mv := by
  refine ⟨wf_acts (wf_acts (wf_bares hn2 hn hm1 hm) (by omega) (Or.inl rfl)) (by omega) (Or.inr rfl), ?_⟩
  have e : (tr0 n mv w).1 (32 + 42 * 1 + 0) = nI 2 := acts_0 (f := mActs (mBares (nI n) (nI mv) w) 0 (nI 1) (nI 0)) (p := 1) (act := nI 2) (v := nI 1)
  rw [e]; decide
theorem tw_stF {x : Row} {n mv a : Nat} (hn2 : 2 ≤ n) (h : TWf x n mv) : TWf (stF x 0 a) n mv := ⟨wf_stF (by omega) a x h.1, by rw [stF_other (n := n) (mv := mv) (p := 0) (p' := 1) (by omega) (by omega) (by omega) 0 (by omega) a x h.1]; exact h.2⟩
theorem tw_tb1 {x : Row × Nat} {n mv : Nat} (hn2 : 2 ≤ n) (h : TWf x.1 n mv) : TWf (tb1 x).1 n mv := by
  have hw := wfx_step h.1 (by omega : 1 < n) h.2
  unfold tb1
  split
  · exact ⟨wf_acts hw (by omega) (Or.inr rfl), by
      have e : mActs (mStep x.1 1) 1 (nI 2) (nI (x.2 + 1)) (32 + 42 * 1 + 0) = nI 2 := acts_0 (p := 1)
      intro h2; exact absurd (e.symm.trans h2) (by decide)⟩
  · rename_i ha; exact ⟨hw, ha⟩
theorem tw_tbK {x : Row × Nat} {n mv : Nat} (hn2 : 2 ≤ n) (h : TWf x.1 n mv) : ∀ k, TWf (tbK x k).1 n mv
  | 0 => h
  | k + 1 => tw_tb1 hn2 (tw_tbK hn2 h k)
/-- the other writer leaves writer 0's part -/
theorem tb1_0 {x : Row × Nat} {n mv : Nat} (hn2 : 2 ≤ n) (h : TWf x.1 n mv) (i : Nat) (hi : i < 42) : (tb1 x).1 (32 + 42 * 0 + i) = x.1 (32 + 42 * 0 + i) := by
  have e := wfx_other h.1 (by omega : 1 < n) h.2 (p' := 0) (by omega) (by omega) i hi
  unfold tb1
  split
  · show mActs _ 1 _ _ _ = _; rw [acts_o (by omega) (by omega)]; exact e
  · exact e
theorem tbK_0 {x : Row × Nat} {n mv : Nat} (hn2 : 2 ≤ n) (h : TWf x.1 n mv) (i : Nat) (hi : i < 42) : ∀ k, (tbK x k).1 (32 + 42 * 0 + i) = x.1 (32 + 42 * 0 + i)
  | 0 => rfl
  | k + 1 => (tb1_0 hn2 (tw_tbK hn2 h k) i hi).trans (tbK_0 hn2 h i hi k)
theorem MB.cong {f f' : Row} {p j : Nat} (h : MB f p j) (e : ∀ i, i < 42 → f' (32 + 42 * p + i) = f (32 + 42 * p + i)) : MB f' p j := by
  rcases h with h | h
  · exact Or.inl ((e 0 (by omega)).trans h)
  · right; unfold rSt; rw [e 2 (by omega)]; exact h
theorem tw_trR {x : Row × Nat} {n mv a b j : Nat} (hn2 : 2 ≤ n) (ha : 1 ≤ a) (h : TWf x.1 n mv) (hm : MB x.1 0 (j + 1)) : TWf (trR x a b).1 n mv ∧ MB (trR x a b).1 0 j := by
  have h1 := tw_stF (a := a) hn2 h
  exact ⟨tw_tbK hn2 h1 b, (MB.stF1 (by omega) ha h.1 hm).cong (fun i hi => tbK_0 hn2 h1 i hi b)⟩
/-! what was seen -/
def fitK (n : Nat) (w : Int32) (sa sb : Nat → Nat) (sx : Nat → Int32) (mv : Nat) : Nat → Bool
  | 0 => true
  | k + 1 => fitK n w sa sb sx mv k && decide (nI (trN n mv w (sa k) (sb k)) = sx k)
theorem fitK_no {n : Nat} {w : Int32} {sa sb : Nat → Nat} {sx : Nat → Int32} {mv : Nat} : ∀ (d k : Nat), fitK n w sa sb sx mv k = false → fitK n w sa sb sx mv (k + d) = false
  | 0, k, h => h
  | d + 1, k, h => by rw [← Nat.add_assoc, fitK, fitK_no d k h]; rfl
def mskK (β : Nat → Bool) : Nat → Nat
  | 0 => 0
  | k + 1 => mskK β k + (if β (k + 1) then 2 ^ k else 0)
theorem mskK_lt (β : Nat → Bool) : ∀ k, mskK β k < 2 ^ k
  | 0 => by show 0 < 1; decide
  | k + 1 => by rw [mskK, Nat.pow_succ]; have := mskK_lt β k; split <;> omega
theorem or_bit : ∀ k, k < 4 → ∀ x, x < 16 → x < 2 ^ k → nI x ||| (nI 1 <<< (nI k &&& 31)) = nI (x + 2 ^ k) := by decide +kernel
theorem or_0 (x : Nat) : nI x ||| nI 0 = nI x := Int32.or_zero
theorem bit_k : ∀ k, k < 4 → ∀ x, x < 16 → ((nI x >>> (nI k &&& 31)) &&& nI 1 = nI 1 ↔ x.testBit k = true) := by decide +kernel
theorem msk_bit (β : Nat → Bool) : ∀ k, k < 4 → (mskK β 4).testBit k = β (k + 1) := by
  intro k hk
  simp only [mskK]
  rcases (by omega : k = 0 ∨ k = 1 ∨ k = 2 ∨ k = 3) with rfl | rfl | rfl | rfl <;> cases β 1 <;> cases β 2 <;> cases β 3 <;> cases β 4 <;> rfl
/-- of some moves those with the same number of steps -/
def alN (β : Nat → Bool) (t : Nat → Nat) (m : Nat) : Nat → Nat
  | 0 => 0
  | k + 1 => alN β t m k + (if β (k + 1) = true ∧ t (k + 1) = t (m + 1) then 1 else 0)
def alM (β : Nat → Bool) (t : Nat → Nat) : Nat → Nat
  | 0 => 0
  | m + 1 => if β (m + 1) then max (alM β t m) (alN β t m 4) else alM β t m
/-- the best question: (what is found, its number) after a whole row of b -/
def askB (al : Nat → Nat → Nat) (a : Nat) : Nat → Int32 × Nat → Int32 × Nat
  | 0, x => x
  | b + 1, x => let y := askB al a b x; if al a (b + 1) < y.2 then (nI (10 * a + (b + 1)), al a (b + 1)) else y
def askA (al : Nat → Nat → Nat) : Nat → Int32 × Nat
  | 0 => (-9, 5)
  | a + 1 => askB al (a + 1) 4 (askA al a)
/-! photos -/
def PHW (f : Row) (ph : Nat) : Prop := ∀ i, i < ph → ∃ bg en, f (200 + 10 * i + 1) = nI bg ∧ f (200 + 10 * i + 2) = nI en ∧ bg ≤ en ∧ en < 1000000
def phL (f : Row) : Nat → Nat
  | 0 => 0
  | i + 1 => phL f i + (if f (200 + 10 * i + 4) = -9 then 0 else 1)
def phF (f : Row) : Nat → Nat
  | 0 => 0
  | i + 1 => phF f i + (if mMom f i = -9 then 1 else 0)
def idB (f : Row) (k : Nat) : Bool := decide (f (32 + 42 * (k - 1) + 0) = 0)
