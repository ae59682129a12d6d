/-! what the reference's row keeps besides: times, zeros beyond n -/
def ZC (f : Row) (n : Nat) : Prop := ∀ c, c < 4 → (∀ k, n ≤ k → k < 4 → f (8 + 6 * c + 2 + k) = 0) ∧ (n ≤ c → ∀ i, i < 6 → f (8 + 6 * c + i) = 0)
def ZA (f : Row) (n t p : Nat) : Prop := (∃ bg, bg ≤ t ∧ f (32 + 42 * p + 3) = nI bg) ∧ (∀ c, n ≤ c → c < 4 → f (32 + 42 * p + 38 + c) = 0 ∧ f (32 + 42 * p + 10 + c) = 0 ∧ ∀ i, i < 6 → f (32 + 42 * p + 14 + 6 * c + i) = 0) ∧ ∀ c, c < 4 → ∀ k, n ≤ k → k < 4 → f (32 + 42 * p + 14 + 6 * c + 2 + k) = 0
def ZP (f : Row) (n ph t : Nat) : Prop := ∀ i, i < ph → ∃ bg en r, f (200 + 10 * i + 1) = nI bg ∧ f (200 + 10 * i + 2) = nI en ∧ bg ≤ en ∧ en ≤ t ∧ f (200 + 10 * i + 3) = nI r ∧ r ≤ 60 ∧ ∀ k, n ≤ k → k < 4 → f (200 + 10 * i + 6 + k) = 0
def ZH (f : Row) (n wr t : Nat) (T pl : Nat → Nat) : Prop := (∀ e, e < wr → f (440 + 3 * e) = nI (T e) ∧ f (440 + 3 * e + 1) = nI (pl e) ∧ pl e < n ∧ T e ≤ t) ∧ ∀ e e', e < e' → e' < wr → T e < T e'
def ZZ (f : Row) (n ph wr t : Nat) : Prop := f 3 = nI t ∧ ZC f n ∧ (∀ p, p < 4 → ZA f n t p) ∧ ZP f n ph t ∧ ∃ T pl, ZH f n wr t T pl
theorem ZA.to {f f' : Row} {n t t' p : Nat} (h : ZA f n t p) (ht : t ≤ t') (e : ∀ i, i < 42 → f' (32 + 42 * p + i) = f (32 + 42 * p + i)) : ZA f' n t' p := by
  obtain ⟨⟨bg, h1, h2⟩, h3, h4⟩ := h
  refine ⟨⟨bg, by omega, (e 3 (by omega)).trans h2⟩, fun c a1 a2 => ?_, fun c a1 k a2 a3 => ?_⟩
  · obtain ⟨b1, b2, b3⟩ := h3 c a1 a2
    have e1 := e (38 + c) (by omega)
    have e2 := e (10 + c) (by omega)
    rw [← Nat.add_assoc] at e1 e2
    refine ⟨e1.trans b1, e2.trans b2, fun i hi => ?_⟩
    have e3 := e (14 + 6 * c + i) (by omega)
    rw [← Nat.add_assoc, ← Nat.add_assoc] at e3
    exact e3.trans (b3 i hi)
  · have e3 := e (14 + 6 * c + 2 + k) (by omega)
    rw [← Nat.add_assoc, ← Nat.add_assoc, ← Nat.add_assoc] at e3
    exact e3.trans (h4 c a1 k a2 a3)
theorem ZA.zero {f : Row} {n t p : Nat} (h : WPi f p) : ZA f n t p := by
  refine ⟨⟨0, by omega, h 3 (by omega)⟩, fun c a1 a2 => ⟨?_, ?_, fun i hi => ?_⟩, fun c a1 k a2 a3 => ?_⟩
  · rw [Nat.add_assoc]; exact h _ (by omega)
  · rw [Nat.add_assoc]; exact h _ (by omega)
  · rw [Nat.add_assoc, Nat.add_assoc]; exact h _ (by omega)
  · rw [Nat.add_assoc, Nat.add_assoc, Nat.add_assoc]; exact h _ (by omega)
theorem ZC.to {f f' : Row} {n : Nat} (h : ZC f n) (e : ∀ i, 8 ≤ i → i < 32 → f' i = f i) : ZC f' n := fun c hc => ⟨fun k a1 a2 => (e _ (by omega) (by omega)).trans ((h c hc).1 k a1 a2), fun a1 i hi => (e _ (by omega) (by omega)).trans ((h c hc).2 a1 i hi)⟩
theorem ZP.to {f f' : Row} {n ph t t' : Nat} (h : ZP f n ph t) (ht : t ≤ t') (e : ∀ j, 200 ≤ j → j < 200 + 10 * ph → f' j = f j) : ZP f' n ph t' := fun i hi => by
  obtain ⟨bg, en, r, b1, b2, b3, b4, b5, b6, b7⟩ := h i hi
  exact ⟨bg, en, r, (e _ (by omega) (by omega)).trans b1, (e _ (by omega) (by omega)).trans b2, b3, by omega, (e _ (by omega) (by omega)).trans b5, b6, fun k a1 a2 => (e _ (by omega) (by omega)).trans (b7 k a1 a2)⟩
theorem ZH.to {f f' : Row} {n wr t t' : Nat} {T pl : Nat → Nat} (h : ZH f n wr t T pl) (ht : t ≤ t') (e : ∀ j, 440 ≤ j → j < 440 + 3 * wr → f' j = f j) : ZH f' n wr t' T pl := ⟨fun x hx => by
  obtain ⟨b1, b2, b3, b4⟩ := h.1 x hx
  exact ⟨(e _ (by omega) (by omega)).trans b1, (e _ (by omega) (by omega)).trans b2, b3, by omega⟩, h.2⟩
/-- the event that a write adds -/
theorem ev_v {f : Row} {p wr : Nat} (h6 : rWr f = wr) (hp : p < 4) : mEv f p (440 + 3 * wr) = f 3 ∧ mEv f p (440 + 3 * wr + 1) = nI p ∧ mEv f p (440 + 3 * wr + 2) = f (32 + 42 * p + 1) := by
  dsimp only [mEv]; rw [h6]
  refine ⟨?_, ?_, ?_⟩
  · rw [upd_ne (by omega), upd_ne (by omega), upd_ne (by omega), upd_self]
  · rw [upd_ne (by omega), upd_ne (by omega), upd_self]
  · rw [upd_ne (by omega), upd_self, upd_ne (by omega), upd_ne (by omega)]
/-- values behind a write -/
theorem wr_view {f : Row} {p k wr : Nat} (h6 : f 6 = nI wr) (hwr : wr ≤ 24) (hp : p < 4) (hk : k < 4) : mWrite f p (8 + 6 * p + 2 + k) = f (32 + 42 * p + 38 + k) := by
  dsimp only [mWrite]
  rw [idl_o (by omega)]
  have e4 : va_cpy (mWr1 f p) (mWr1 f p) (32 + 42 * p + 38) (8 + 6 * p + 2) 4 6 = nI wr := by rw [cpy_o (by omega), wr1_o (by omega)]; exact h6
  have e5 : va_cpy (mWr1 f p) (mWr1 f p) (32 + 42 * p + 38) (8 + 6 * p + 2) 4 (8 + 6 * p + 2 + k) = f (32 + 42 * p + 38 + k) := by
    rw [cpy_i (by omega) (by omega), show 32 + 42 * p + 38 + (8 + 6 * p + 2 + k - (8 + 6 * p + 2)) = 32 + 42 * p + 38 + k by omega, wr1_o (by omega)]
  split
  · rw [ev_o (rWr_of e4 hwr) (by omega) (by omega)]; exact e5
  · exact e5
theorem wr_val {f : Row} {p wr : Nat} (h6 : f 6 = nI wr) (hwr : wr ≤ 24) (hp : p < 4) : mWrite f p (8 + 6 * p) = f (32 + 42 * p + 1) ∧ mWrite f p (8 + 6 * p + 1) = verB (f 2) (f (8 + 6 * p + 1)) := by
  dsimp only [mWrite]
  rw [idl_o (by omega), idl_o (by omega)]
  have e4 : va_cpy (mWr1 f p) (mWr1 f p) (32 + 42 * p + 38) (8 + 6 * p + 2) 4 6 = nI wr := by rw [cpy_o (by omega), wr1_o (by omega)]; exact h6
  have e1 : mWr1 f p (8 + 6 * p) = f (32 + 42 * p + 1) := by dsimp only [mWr1]; rw [upd_ne (by omega), upd_ne (by omega), upd_self]
  have e2 : mWr1 f p (8 + 6 * p + 1) = verB (f 2) (f (8 + 6 * p + 1)) := by
    dsimp only [mWr1, verB]
    rw [upd_self, upd_self, upd_ne (by omega : (2 : Nat) ≠ 8 + 6 * p + 1), upd_ne (by omega : (2 : Nat) ≠ 8 + 6 * p), upd_ne (by omega : 8 + 6 * p + 1 ≠ 8 + 6 * p)]
  split
  · rw [ev_o (rWr_of e4 hwr) (by omega) (by omega), ev_o (rWr_of e4 hwr) (by omega) (by omega), cpy_o (by omega), cpy_o (by omega)]; exact ⟨e1, e2⟩
  · rw [cpy_o (by omega), cpy_o (by omega)]; exact ⟨e1, e2⟩
theorem wr_ev {f : Row} {p wr : Nat} (h6 : f 6 = nI wr) (hwr : wr < 24) (hp : p < 4) : mWrite f p (440 + 3 * wr) = f 3 ∧ mWrite f p (440 + 3 * wr + 1) = nI p ∧ mWrite f p (440 + 3 * wr + 2) = f (32 + 42 * p + 1) := by
  dsimp only [mWrite]
  rw [idl_o (by omega), idl_o (by omega), idl_o (by omega), rWr_of h6 (by omega), if_pos hwr]
  have e4 : va_cpy (mWr1 f p) (mWr1 f p) (32 + 42 * p + 38) (8 + 6 * p + 2) 4 6 = nI wr := by rw [cpy_o (by omega), wr1_o (by omega)]; exact h6
  obtain ⟨a1, a2, a3⟩ := ev_v (rWr_of e4 (by omega)) hp
  rw [a1, a2, a3, cpy_o (by omega), cpy_o (by omega), wr1_o (by omega), wr1_o (by omega)]
  exact ⟨rfl, rfl, rfl⟩
theorem ZZ_wr {f : Row} {n mv ph wr t p kd st wh : Nat} {mm : Nat → Nat} (hf : WFr f n mv ph wr) (hb : WPb f n mv p kd st wh 1 mm) (hp : p < n) (hz : ZZ f n ph wr t) : ZZ (mStep f p) n ph (if wr < 24 then wr + 1 else wr) (t + 1) := by
  obtain ⟨⟨hn2, hn, hm1, hm, hph, hwr⟩, h0, h1, h5, h6, hW⟩ := hf
  obtain ⟨z1, z2, z3, z4, T, pl, z5⟩ := hz
  have hp4 : p < 4 := by omega
  rw [step_A hb hp4]
  have g6 : mS2 f p 6 = nI wr := by rw [s2_0 (by omega) (by omega)]; exact h6
  have g3 : mS2 f p 3 = nI (t + 1) := by dsimp only [mS2]; rw [upd_ne (by omega), upd_self, z1, nI_add]
  have o : ∀ j, j ≠ 3 → (j < 8 + 6 * p ∨ 8 + 6 * p + 6 ≤ j) → (j < 32 + 42 * p ∨ 32 + 42 * p + 42 ≤ j) → (j < 440 + 3 * wr ∨ 440 + 3 * wr + 3 ≤ j) → j ≠ 6 → mWrite (mS2 f p) p j = f j := fun j a0 a1 a2 a3 a4 => by
    rw [wr_o g6 hwr hp4 a1 a2 a3 a4, s2_0 a0 (by omega)]
  refine ⟨?_, fun c hc => ?_, fun p' hp' => ?_, z4.to (by omega) (fun j a1 a2 => o j (by omega) (by omega) (by omega) (by omega) (by omega)), ?_⟩
  · rw [wr_o g6 hwr hp4 (by omega) (by omega) (by omega) (by omega)]; exact g3
  · by_cases e : c = p
    · subst e
      refine ⟨fun k a1 a2 => ?_, fun a1 => by omega⟩
      rw [wr_view g6 hwr hp4 a2, s2_0 (by omega) (by omega)]
      exact ((z3 c hp4).2.1 k a1 a2).1
    · exact ⟨fun k a1 a2 => (o _ (by omega) (by omega) (by omega) (by omega) (by omega)).trans ((z2 c hc).1 k a1 a2), fun a1 i hi => (o _ (by omega) (by omega) (by omega) (by omega) (by omega)).trans ((z2 c hc).2 a1 i hi)⟩
  · by_cases e : p' = p
    · subst e
      exact ZA.zero (fun i hi => by dsimp only [mWrite]; exact idl_i (by omega) (by omega))
    · exact (z3 p' hp').to (by omega) (fun i hi => o _ (by omega) (by omega) (by omega) (by omega) (by omega))
  · by_cases hw : wr < 24
    · rw [if_pos hw]
      obtain ⟨v1, v2, v3⟩ := wr_ev g6 hw hp4
      refine ⟨fun e => if e = wr then t + 1 else T e, fun e => if e = wr then p else pl e, fun x hx => ?_, fun x y hx hy => ?_⟩
      · by_cases e : x = wr
        · subst e
          dsimp only
          rw [if_pos rfl, if_pos rfl, v1, v2]
          exact ⟨g3, rfl, hp, Nat.le_refl _⟩
        · dsimp only
          rw [if_neg e, if_neg e]
          obtain ⟨b1, b2, b3, b4⟩ := z5.1 x (by omega)
          exact ⟨(o _ (by omega) (by omega) (by omega) (by omega) (by omega)).trans b1, (o _ (by omega) (by omega) (by omega) (by omega) (by omega)).trans b2, b3, by omega⟩
      · have hx2 : x ≠ wr := by omega
        dsimp only
        rw [if_neg hx2]
        by_cases e : y = wr
        · rw [if_pos e]; have := (z5.1 x (by omega)).2.2.2; omega
        · rw [if_neg e]; exact z5.2 x y hx (by omega)
    · rw [if_neg hw]
      exact ⟨T, pl, z5.to (by omega) (fun j a1 a2 => o j (by omega) (by omega) (by omega) (by omega) (by omega))⟩
theorem ZZ_rd {f : Row} {n mv ph wr t p kd st wh : Nat} {mm : Nat → Nat} (hf : WFr f n mv ph wr) (hb : WPb f n mv p kd st wh 0 mm) (hp : p < n) (hc : st % n < n - 1) (hz : ZZ f n ph wr t) : ZZ (mStep f p) n ph wr (t + 1) := by
  have hf0 := hf
  obtain ⟨⟨hn2, hn, hm1, hm, hph, hwr⟩, h0, h1, h5, h6, hW⟩ := hf
  obtain ⟨z1, z2, z3, z4, T, pl, z5⟩ := hz
  have hp4 : p < 4 := by omega
  rw [step_B hf0 hb hp4 hc]
  have g3 : mS2 f p 3 = nI (t + 1) := by dsimp only [mS2]; rw [upd_ne (by omega), upd_self, z1, nI_add]
  generalize hq : st % n = q at hc
  have o : ∀ j, j ≠ 3 → (j < 32 + 42 * p + 14 + 6 * q ∨ 32 + 42 * p + 14 + 6 * q + 6 ≤ j) → j ≠ 32 + 42 * p + 2 → mRead (mS2 f p) p q j = f j := fun j a0 a1 a2 => by
    rw [rd_o a1, s2_0 a0 a2]
  refine ⟨by rw [rd_o (by omega)]; exact g3, z2.to (fun i a1 a2 => o i (by omega) (by omega) (by omega)), fun p' hp' => ?_, z4.to (by omega) (fun j a1 a2 => o j (by omega) (by omega) (by omega)), T, pl, z5.to (by omega) (fun j a1 a2 => o j (by omega) (by omega) (by omega))⟩
  by_cases e : p' = p
  · subst e
    obtain ⟨⟨bg, b1, b2⟩, b3, b4⟩ := z3 p' hp4
    refine ⟨⟨bg, by omega, (o _ (by omega) (by omega) (by omega)).trans b2⟩, fun c a1 a2 => ?_, fun c a1 k a2 a3 => ?_⟩
    · obtain ⟨q1, q2, q3⟩ := b3 c a1 a2
      exact ⟨(o _ (by omega) (by omega) (by omega)).trans q1, (o _ (by omega) (by omega) (by omega)).trans q2, fun i hi => (o _ (by omega) (by omega) (by omega)).trans (q3 i hi)⟩
    · by_cases ec : c = q
      · subst ec
        rw [Nat.add_assoc _ 2 k, rd_i (by omega), s2_0 (by omega) (by omega), ← Nat.add_assoc]
        exact (z2 c a1).1 k a2 a3
      · exact (o _ (by omega) (by omega) (by omega)).trans (b4 c a1 k a2 a3)
  · exact (z3 p' hp').to (by omega) (fun i hi => o _ (by omega) (by omega) (by omega))
/-- the row behind a whole collect, before a photo is taken -/
theorem ZZ_f5 {f : Row} {n mv ph wr t p kd st wh : Nat} {mm : Nat → Nat} (hf : WFr f n mv ph wr) (hb : WPb f n mv p kd st wh 0 mm) (hp : p < n) (hz : ZZ f n ph wr t) : ZZ (mF5 f p n) n ph wr (t + 1) := by
  obtain ⟨⟨hn2, hn, hm1, hm, hph, hwr⟩, h0, h1, h5, h6, hW⟩ := hf
  obtain ⟨z1, z2, z3, z4, T, pl, z5⟩ := hz
  have hp4 : p < 4 := by omega
  have o : ∀ j, j ≠ 3 → (j < 32 + 42 * p ∨ 32 + 42 * p + 42 ≤ j) → mF5 f p n j = f j := fun j a0 a1 => f5_o (by omega) hn a0 a1
  have i5 : ∀ j, (j < 32 + 42 * p + 6 ∨ 32 + 42 * p + 14 ≤ j) → j ≠ 3 → j ≠ 32 + 42 * p + 2 → j ≠ 32 + 42 * p + 4 → (j < 32 + 42 * p + 14 + 6 * (n - 1) ∨ 32 + 42 * p + 14 + 6 * (n - 1) + 6 ≤ j) → mF5 f p n j = f j := fun j a0 a1 a2 a3 a4 => by
    unfold mF5; rw [cnt_out a0 hn, f4_o a1 a2 a3 a4]
  refine ⟨by unfold mF5; rw [cnt_out (by omega) hn, f4_3, z1, nI_add], z2.to (fun i a1 a2 => o i (by omega) (by omega)), fun p' hp' => ?_, z4.to (by omega) (fun j a1 a2 => o j (by omega) (by omega)), T, pl, z5.to (by omega) (fun j a1 a2 => o j (by omega) (by omega))⟩
  by_cases e : p' = p
  · subst e
    obtain ⟨⟨bg, b1, b2⟩, b3, b4⟩ := z3 p' hp4
    refine ⟨⟨bg, by omega, (i5 _ (by omega) (by omega) (by omega) (by omega) (by omega)).trans b2⟩, fun c a1 a2 => ?_, fun c a1 k a2 a3 => ?_⟩
    · obtain ⟨q1, q2, q3⟩ := b3 c a1 a2
      refine ⟨(i5 _ (by omega) (by omega) (by omega) (by omega) (by omega)).trans q1, ?_, fun i hi => (i5 _ (by omega) (by omega) (by omega) (by omega) (by omega)).trans (q3 i hi)⟩
      unfold mF5; rw [cnt_a a1 a2, f4_o (by omega) (by omega) (by omega) (by omega)]; exact q2
    · by_cases ec : c = n - 1
      · subst ec
        unfold mF5
        rw [cnt_out (by omega) hn, Nat.add_assoc _ 2 k, f4_r hp4 (by omega) (by omega), ← Nat.add_assoc]
        exact (z2 (n - 1) a1).1 k a2 a3
      · exact (i5 _ (by omega) (by omega) (by omega) (by omega) (by omega)).trans (b4 c a1 k a2 a3)
  · exact (z3 p' hp').to (by omega) (fun i hi => o _ (by omega) (by omega))
/-- values of a photo that is taken -/
theorem pho_v {f : Row} {p : Nat} {q : Option Nat} {ph : Nat} (h5 : rPh f = ph) (hph : ph < 24) (hp : p < 4) : mPho f p q (200 + 10 * ph + 0) = nI p ∧ mPho f p q (200 + 10 * ph + 1) = f (32 + 42 * p + 3) ∧ mPho f p q (200 + 10 * ph + 2) = f 3 ∧ mPho f p q (200 + 10 * ph + 3) = f (32 + 42 * p + 2) ∧ mPho f p q (200 + 10 * ph + 4) = lentI q ∧ mPho f p q (200 + 10 * ph + 5) = (if f (32 + 42 * p + 0) = nI 2 then nI 1 else nI 0) ∧ ∀ k, k < 4 → mPho f p q (200 + 10 * ph + 6 + k) = f (32 + 42 * p + 38 + k) := by
  dsimp only [mPho]; rw [h5]
  refine ⟨?_, ?_, ?_, ?_, ?_, ?_, fun k hk => ?_⟩
  · rw [upd_ne (by omega), cpy_o (by omega), upd_ne (by omega), upd_ne (by omega), upd_ne (by omega), upd_ne (by omega), upd_ne (by omega)]; exact upd_self
  · rw [upd_ne (by omega), cpy_o (by omega), upd_ne (by omega), upd_ne (by omega), upd_ne (by omega), upd_ne (by omega), upd_self, upd_ne (by omega)]
  · rw [upd_ne (by omega), cpy_o (by omega), upd_ne (by omega), upd_ne (by omega), upd_ne (by omega), upd_self, upd_ne (by omega), upd_ne (by omega)]
  · rw [upd_ne (by omega), cpy_o (by omega), upd_ne (by omega), upd_ne (by omega), upd_self, upd_ne (by omega), upd_ne (by omega), upd_ne (by omega)]
  · rw [upd_ne (by omega), cpy_o (by omega), upd_ne (by omega), upd_self]
  · rw [upd_ne (by omega), cpy_o (by omega), upd_self, upd_ne (by omega), upd_ne (by omega), upd_ne (by omega), upd_ne (by omega), upd_ne (by omega)]
  · rw [upd_ne (by omega), cpy_i (by omega) (by omega), show 32 + 42 * p + 38 + (200 + 10 * ph + 6 + k - (200 + 10 * ph + 6)) = 32 + 42 * p + 38 + k by omega, upd_ne (by omega), upd_ne (by omega), upd_ne (by omega), upd_ne (by omega), upd_ne (by omega), upd_ne (by omega)]
theorem takes_v {f : Row} {p : Nat} {q : Option Nat} {n ph : Nat} (h0 : f 0 = nI n) (hn : n ≤ 4) (h5 : f 5 = nI ph) (hph : ph < 24) (hp : p < 4) : mTakes f p q (200 + 10 * ph + 0) = nI p ∧ mTakes f p q (200 + 10 * ph + 1) = f (32 + 42 * p + 3) ∧ mTakes f p q (200 + 10 * ph + 2) = f 3 ∧ mTakes f p q (200 + 10 * ph + 3) = f (32 + 42 * p + 2) ∧ mTakes f p q (200 + 10 * ph + 4) = lentI q ∧ mTakes f p q (200 + 10 * ph + 5) = (if f (32 + 42 * p + 0) = nI 2 then nI 1 else nI 0) ∧ ∀ k, k < 4 → mTakes f p q (200 + 10 * ph + 6 + k) = mTk f p q n (32 + 42 * p + 38 + k) := by
  dsimp only [mTakes]
  rw [rN_of h0 hn, rPh_of h5 (by omega), if_pos hph]
  have e5 : rPh (mTk f p q n) = ph := rPh_of (by rw [tk_o (by omega)]; exact h5) (by omega)
  obtain ⟨a0, a1, a2, a3, a4, a5, a6⟩ := pho_v (q := q) e5 hph hp
  refine ⟨?_, ?_, ?_, ?_, ?_, ?_, fun k hk => ?_⟩
  · rw [upd_ne (by omega), a0]
  · rw [upd_ne (by omega), a1, tk_o (by omega)]
  · rw [upd_ne (by omega), a2, tk_o (by omega)]
  · rw [upd_ne (by omega), a3, tk_o (by omega)]
  · rw [upd_ne (by omega), a4]
  · rw [upd_ne (by omega), a5, tk_o (by omega)]
  · rw [upd_ne (by omega), a6 k hk]
theorem takes_tk {f : Row} {p : Nat} {q : Option Nat} {n ph k : Nat} (h0 : f 0 = nI n) (hn : n ≤ 4) (h5 : f 5 = nI ph) (hph : ph ≤ 24) (hp : p < 4) (hk : k < 4) : mTakes f p q (32 + 42 * p + 38 + k) = mTk f p q n (32 + 42 * p + 38 + k) := by
  dsimp only [mTakes]
  rw [rN_of h0 hn, upd_ne (by omega)]
  have e5 : mTk f p q n 5 = nI ph := by rw [tk_o (by omega)]; exact h5
  split
  · rw [pho_o (rPh_of e5 hph) (by omega) (by omega)]
  · rfl
theorem ZZ_tk {f : Row} {n ph wr t p st : Nat} {q : Option Nat} (hn2 : 2 ≤ n) (hn : n ≤ 4) (hph : ph ≤ 24) (hwr : wr ≤ 24) (hp : p < n) (h0 : f 0 = nI n) (h5 : f 5 = nI ph) (hst : f (32 + 42 * p + 2) = nI st) (h60 : st ≤ 60) (hq : ∀ x, q = some x → x < n) (hz : ZZ f n ph wr t) : ZZ (mTakes f p q) n (if ph < 24 then ph + 1 else ph) wr t := by
  obtain ⟨z1, z2, z3, z4, T, pl, z5⟩ := hz
  have hp4 : p < 4 := by omega
  have o : ∀ j, (j < 32 + 42 * p + 38 ∨ 32 + 42 * p + 42 ≤ j) → (ph = 24 ∨ j < 200 + 10 * ph ∨ 200 + 10 * ph + 10 ≤ j) → j ≠ 5 → j ≠ 32 + 42 * p + 5 → mTakes f p q j = f j := fun j a1 a2 a3 a4 => takes_o h0 hn h5 hph a1 a2 a3 a4
  have zt : ∀ k, n ≤ k → k < 4 → mTk f p q n (32 + 42 * p + 38 + k) = 0 := fun k a1 a2 => by
    rw [tk_o (by omega)]; exact ((z3 p hp4).2.1 k a1 a2).1
  refine ⟨?_, z2.to (fun i a1 a2 => o i (by omega) (by omega) (by omega) (by omega)), fun p' hp' => ?_, ?_, T, pl, z5.to (Nat.le_refl _) (fun j a1 a2 => o j (by omega) (by omega) (by omega) (by omega))⟩
  · rw [o 3 (by omega) (by omega) (by omega) (by omega)]; exact z1
  · by_cases e : p' = p
    · subst e
      obtain ⟨⟨bg, b1, b2⟩, b3, b4⟩ := z3 p' hp4
      refine ⟨⟨bg, b1, (o _ (by omega) (by omega) (by omega) (by omega)).trans b2⟩, fun c a1 a2 => ?_, fun c a1 k a2 a3 => (o _ (by omega) (by omega) (by omega) (by omega)).trans (b4 c a1 k a2 a3)⟩
      obtain ⟨q1, q2, q3⟩ := b3 c a1 a2
      refine ⟨?_, (o _ (by omega) (by omega) (by omega) (by omega)).trans q2, fun i hi => (o _ (by omega) (by omega) (by omega) (by omega)).trans (q3 i hi)⟩
      rw [takes_tk h0 hn h5 hph hp4 a2]; exact zt c a1 a2
    · exact (z3 p' hp').to (Nat.le_refl _) (fun i hi => o _ (by omega) (by omega) (by omega) (by omega))
  · by_cases hlt : ph < 24
    · rw [if_pos hlt]
      intro i hi
      by_cases e : i = ph
      · subst e
        obtain ⟨a0, a1, a2, a3, a4, a5, a6⟩ := takes_v (q := q) h0 hn h5 hlt hp4
        obtain ⟨⟨bg, b1, b2⟩, -⟩ := z3 p hp4
        exact ⟨bg, t, st, a1.trans b2, a2.trans z1, b1, Nat.le_refl _, a3.trans hst, h60, fun k c1 c2 => (a6 k c2).trans (zt k c1 c2)⟩
      · obtain ⟨bg, en, r, b1, b2, b3, b4, b5, b6, b7⟩ := z4 i (by omega)
        exact ⟨bg, en, r, (o _ (by omega) (by omega) (by omega) (by omega)).trans b1, (o _ (by omega) (by omega) (by omega) (by omega)).trans b2, b3, b4, (o _ (by omega) (by omega) (by omega) (by omega)).trans b5, b6, fun k a1 a2 => (o _ (by omega) (by omega) (by omega) (by omega)).trans (b7 k a1 a2)⟩
    · rw [if_neg hlt]
      exact z4.to (Nat.le_refl _) (fun j a1 a2 => o j (by omega) (by omega) (by omega) (by omega))
theorem ZZ_idl {f : Row} {n ph wr t p : Nat} (hp : p < 4) (hz : ZZ f n ph wr t) : ZZ (mIdles f p) n ph wr t := by
  obtain ⟨z1, z2, z3, z4, T, pl, z5⟩ := hz
  refine ⟨by rw [idl_o (by omega)]; exact z1, z2.to (fun i a1 a2 => idl_o (by omega)), fun p' hp' => ?_, ?_, T, pl, ?_⟩
  · by_cases e : p' = p
    · subst e; exact ZA.zero (fun i hi => idl_i (by omega) (by omega))
    · exact (z3 p' hp').to (Nat.le_refl _) (fun i hi => idl_o (by omega))
  · exact z4.to (Nat.le_refl _) (fun j a1 a2 => idl_o (by omega))
  · exact z5.to (Nat.le_refl _) (fun j a1 a2 => idl_o (by omega))
