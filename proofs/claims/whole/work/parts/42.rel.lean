/-! a world of the class beside a row of the reference -/
def RCe (V : Nat → Row) (f : Row) : Prop := ∀ c, c < 4 → V 2 c = f (8 + 6 * c) ∧ V 3 c = f (8 + 6 * c + 1) ∧ ∀ k, k < 4 → V 4 (c * 4 + k) = f (8 + 6 * c + 2 + k)
def RAc (V : Nat → Row) (f : Row) (n p : Nat) : Prop :=
  V (6 + 8 * p) 0 = f (32 + 42 * p + 0) ∧ V (6 + 8 * p) 1 = (if f (32 + 42 * p + 0) = nI 2 then f (32 + 42 * p + 1) else -9) ∧ V (6 + 8 * p) 2 = f (32 + 42 * p + 3) ∧ V (6 + 8 * p) 3 = f (32 + 42 * p + 2) ∧ V (6 + 8 * p) 4 = (if rdB f p then nI (rSt f p % n) else 0) ∧ V (6 + 8 * p) 5 = f (32 + 42 * p + 4) ∧ V (6 + 8 * p) 6 = f (32 + 42 * p + 5) ∧
  ∀ c, c < 4 → V (7 + 8 * p) c = f (32 + 42 * p + 38 + c) ∧ V (8 + 8 * p) c = f (32 + 42 * p + 6 + c) ∧ V (9 + 8 * p) c = f (32 + 42 * p + 10 + c) ∧ V (11 + 8 * p) c = f (32 + 42 * p + 14 + 6 * c) ∧ V (12 + 8 * p) c = f (32 + 42 * p + 14 + 6 * c + 1) ∧ ∀ k, k < 4 → V (13 + 8 * p) (c * 4 + k) = f (32 + 42 * p + 14 + 6 * c + 2 + k)
def RAl (V : Nat → Row) (f : Row) (ph : Nat) : Prop := ∀ i, i < ph → (∀ k, k < 10 → V 39 (i * 11 + k) = f (200 + 10 * i + k)) ∧ V 39 (i * 11 + 10) = mMom f i
def RHi (V : Nat → Row) (f : Row) (wr : Nat) : Prop := ∀ e, e < wr → V 41 e = f (440 + 3 * e) ∧ V 42 e = f (440 + 3 * e + 1) ∧ V 43 e = f (440 + 3 * e + 2)
def RSc (V : Nat → Row) (f : Row) (n mv ph wr t : Nat) : Prop := V 0 0 = nI n ∧ V 0 1 = nI mv ∧ V 0 2 = f 2 ∧ V 0 3 = nI t ∧ V 0 4 = f 4 ∧ V 38 0 = nI ph ∧ V 40 0 = nI wr
def Rel (V : Nat → Row) (f : Row) (n mv ph wr t : Nat) : Prop := WFr f n mv ph wr ∧ ZZ f n ph wr t ∧ RSc V f n mv ph wr t ∧ RCe V f ∧ (∀ p, p < 4 → RAc V f n p) ∧ RAl V f ph ∧ RHi V f wr
theorem RAc.to {V V' : Nat → Row} {f f' : Row} {n p : Nat} (h : RAc V f n p) (eV : ∀ j, 6 + 8 * p ≤ j → j < 14 + 8 * p → V' j = V j) (ef : ∀ i, i < 42 → f' (32 + 42 * p + i) = f (32 + 42 * p + i)) : RAc V' f' n p := by
  obtain ⟨h0, h1, h2, h3, h4, h5, h6, h7⟩ := h
  have g0 := ef 0 (by omega)
  have er : rdB f' p = rdB f p := by unfold rdB; rw [g0, ef 5 (by omega)]
  have es : rSt f' p = rSt f p := by unfold rSt; rw [ef 2 (by omega)]
  have a0 := eV (6 + 8 * p) (by omega) (by omega)
  refine ⟨by rw [a0, g0]; exact h0, by rw [a0, g0, ef 1 (by omega)]; exact h1, by rw [a0, ef 3 (by omega)]; exact h2, by rw [a0, ef 2 (by omega)]; exact h3, by rw [a0, er, es]; exact h4, by rw [a0, ef 4 (by omega)]; exact h5, by rw [a0, ef 5 (by omega)]; exact h6, fun c hc => ?_⟩
  obtain ⟨b1, b2, b3, b4, b5, b6⟩ := h7 c hc
  have e1 := ef (38 + c) (by omega)
  have e2 := ef (6 + c) (by omega)
  have e3 := ef (10 + c) (by omega)
  have e4 := ef (14 + 6 * c) (by omega)
  have e5 := ef (14 + 6 * c + 1) (by omega)
  rw [← Nat.add_assoc] at e1 e2 e3 e4
  rw [← Nat.add_assoc, ← Nat.add_assoc] at e5
  refine ⟨by rw [eV _ (by omega) (by omega), e1]; exact b1, by rw [eV _ (by omega) (by omega), e2]; exact b2, by rw [eV _ (by omega) (by omega), e3]; exact b3, by rw [eV _ (by omega) (by omega), e4]; exact b4, by rw [eV _ (by omega) (by omega), e5]; exact b5, fun k hk => ?_⟩
  have e6 := ef (14 + 6 * c + 2 + k) (by omega)
  rw [← Nat.add_assoc, ← Nat.add_assoc, ← Nat.add_assoc] at e6
  rw [eV _ (by omega) (by omega), e6]; exact b6 k hk
/-- an idle writer's part -/
theorem RAc.idle {V : Nat → Row} {f : Row} {n p : Nat} (hk : V (6 + 8 * p) = kB (nI 0) (-9) (nI 0)) (h1 : V (7 + 8 * p) = z0) (h2 : V (8 + 8 * p) = z0) (h3 : V (9 + 8 * p) = z0) (h5 : V (11 + 8 * p) = z0) (h6 : V (12 + 8 * p) = z0) (h7 : V (13 + 8 * p) = z0) (hf : WPi f p) : RAc V f n p := by
  have g0 := hf 0 (by omega)
  have er : rdB f p = false := by unfold rdB; rw [decide_eq_false (fun q => q g0)]; rfl
  refine ⟨by rw [hk, g0]; rfl, by rw [hk, if_neg (by rw [g0]; decide)]; rfl, by rw [hk, hf 3 (by omega)]; rfl, by rw [hk, hf 2 (by omega)]; rfl, by rw [hk, er]; rfl, by rw [hk, hf 4 (by omega)]; rfl, by rw [hk, hf 5 (by omega)]; rfl, fun c hc => ⟨?_, ?_, ?_, ?_, ?_, fun k hk => ?_⟩⟩
  · rw [h1, Nat.add_assoc, hf _ (by omega)]; rfl
  · rw [h2, Nat.add_assoc, hf _ (by omega)]; rfl
  · rw [h3, Nat.add_assoc, hf _ (by omega)]; rfl
  · rw [h5, Nat.add_assoc, hf _ (by omega)]; rfl
  · rw [h6, Nat.add_assoc, Nat.add_assoc, hf _ (by omega)]; rfl
  · rw [h7, Nat.add_assoc, Nat.add_assoc, Nat.add_assoc, hf _ (by omega)]; rfl
theorem RCe.to {V V' : Nat → Row} {f f' : Row} (h : RCe V f) (e2 : V' 2 = V 2) (e3 : V' 3 = V 3) (e4 : V' 4 = V 4) (ef : ∀ j, 8 ≤ j → j < 32 → f' j = f j) : RCe V' f' := fun c hc => by
  obtain ⟨b1, b2, b3⟩ := h c hc
  rw [e2, e3, e4, ef _ (by omega) (by omega), ef _ (by omega) (by omega)]
  exact ⟨b1, b2, fun k hk => by rw [ef _ (by omega) (by omega)]; exact b3 k hk⟩
theorem RHi.to {V V' : Nat → Row} {f f' : Row} {wr : Nat} (h : RHi V f wr) (e1 : V' 41 = V 41) (e2 : V' 42 = V 42) (e3 : V' 43 = V 43) (ef : ∀ j, 440 ≤ j → j < 440 + 3 * wr → f' j = f j) : RHi V' f' wr := fun e he => by
  rw [e1, e2, e3, ef _ (by omega) (by omega), ef _ (by omega) (by omega), ef _ (by omega) (by omega)]
  exact h e he
/-- a moment stays -/
theorem mMom_keep {f f' : Row} {n ph wr wr' t i : Nat} (hn : n ≤ 4) (h0 : f 0 = nI n) (h0' : f' 0 = nI n) (h6 : f 6 = nI wr) (h6' : f' 6 = nI wr') (hwr : wr ≤ 24) (hwr' : wr' ≤ 24) (hz : ZP f n ph t) (ht : t < 900000) (hi : i < ph) (hp : ∀ j, 200 + 10 * i ≤ j → j < 200 + 10 * i + 10 → f' j = f j) (hv : ∀ c tau, tau ≤ t → vAt f' c (nI tau) wr' = vAt f c (nI tau) wr) : mMom f' i = mMom f i := by
  obtain ⟨bg, en, r, b1, b2, b3, b4, -⟩ := hz i hi
  unfold mMom
  rw [rWr_of h6 hwr, rWr_of h6' hwr', rN_of h0 hn, rN_of h0' hn, hp _ (by omega) (by omega), hp _ (by omega) (by omega), b1, b2, nI_clamp (by omega), nI_clamp (by omega)]
  exact momG_eq (en := en) (fun tau ht => okK_cong (fun c => hv c tau (by omega)) (fun k hk => hp _ (by omega) (by omega)) n hn) _ _ (by omega)
theorem RAl.to {V V' : Nat → Row} {f f' : Row} {n ph wr wr' t : Nat} (h : RAl V f ph) (e39 : ∀ j, j < ph * 11 → V' 39 j = V 39 j) (hn : n ≤ 4) (h0 : f 0 = nI n) (h0' : f' 0 = nI n) (h6 : f 6 = nI wr) (h6' : f' 6 = nI wr') (hwr : wr ≤ 24) (hwr' : wr' ≤ 24) (hz : ZP f n ph t) (ht : t < 900000) (hp : ∀ j, 200 ≤ j → j < 200 + 10 * ph → f' j = f j) (hv : ∀ c tau, tau ≤ t → vAt f' c (nI tau) wr' = vAt f c (nI tau) wr) : ∀ i, i < ph → (∀ k, k < 10 → V' 39 (i * 11 + k) = f' (200 + 10 * i + k)) ∧ V' 39 (i * 11 + 10) = mMom f' i := fun i hi => by
  obtain ⟨b1, b2⟩ := h i hi
  refine ⟨fun k hk => by rw [e39 _ (by omega), hp _ (by omega) (by omega)]; exact b1 k hk, ?_⟩
  rw [e39 _ (by omega), mMom_keep hn h0 h0' h6 h6' hwr hwr' hz ht hi (fun j a b => hp j (by omega) (by omega)) hv]
  exact b2
/-! a photo's row in the class -/
theorem fa_o {fa k pv : Row} {ph j : Nat} {x en mo : Int32} (h : j < ph * 11) : cFa fa ph x k en mo pv j = fa j := by
  dsimp only [cFa]
  rw [upd_ne (by omega), cpy_o (by omega), upd_ne (by omega), upd_ne (by omega), upd_ne (by omega), upd_ne (by omega), upd_ne (by omega), upd_ne (by omega)]
theorem fa_v {fa k pv : Row} {ph : Nat} {x en mo : Int32} : cFa fa ph x k en mo pv (ph * 11 + 0) = x ∧ cFa fa ph x k en mo pv (ph * 11 + 1) = k 2 ∧ cFa fa ph x k en mo pv (ph * 11 + 2) = en ∧ cFa fa ph x k en mo pv (ph * 11 + 3) = k 3 ∧ cFa fa ph x k en mo pv (ph * 11 + 4) = k 7 ∧ cFa fa ph x k en mo pv (ph * 11 + 5) = (if k 0 = nI 2 then nI 1 else nI 0) ∧ (∀ c, c < 4 → cFa fa ph x k en mo pv (ph * 11 + 6 + c) = pv c) ∧ cFa fa ph x k en mo pv (ph * 11 + 10) = mo := by
  dsimp only [cFa]
  refine ⟨?_, ?_, ?_, ?_, ?_, ?_, fun c hc => ?_, ?_⟩
  · rw [upd_ne (by omega), cpy_o (by omega), upd_ne (by omega), upd_ne (by omega), upd_ne (by omega), upd_ne (by omega), upd_ne (by omega), upd_self]
  · rw [upd_ne (by omega), cpy_o (by omega), upd_ne (by omega), upd_ne (by omega), upd_ne (by omega), upd_ne (by omega), upd_self]
  · rw [upd_ne (by omega), cpy_o (by omega), upd_ne (by omega), upd_ne (by omega), upd_ne (by omega), upd_self]
  · rw [upd_ne (by omega), cpy_o (by omega), upd_ne (by omega), upd_ne (by omega), upd_self]
  · rw [upd_ne (by omega), cpy_o (by omega), upd_ne (by omega), upd_self]
  · rw [upd_ne (by omega), cpy_o (by omega), upd_self]
  · rw [upd_ne (by omega), cpy_i (by omega) (by omega), show 0 + (ph * 11 + 6 + c - (ph * 11 + 6)) = c by omega]
  · rw [upd_self]
/-! the moves of a collect, on both sides -/
theorem any_eq {F rs ah : Row} {p n wh : Nat} (h4 : F (32 + 42 * p + 4) = nI (wh + 1)) (hw : 1 ≤ wh) (hwl : wh < 1000) (hrs : ∀ c, c < n → rs c = F (32 + 42 * p + 14 + 6 * c + 1)) (hah : ∀ c, c < n → ah c = F (32 + 42 * p + 10 + c)) : (∀ c, c < n → (mMv F p c = true ↔ rs c ≠ ah c)) ∧ ∀ k, k ≤ n → cAny rs ah k = anyMv F p k := by
  have e1 : ∀ c, c < n → (mMv F p c = true ↔ rs c ≠ ah c) := fun c hc => by
    unfold mMv
    rw [h4, decide_eq_true (nI_lt (by omega : 1 < wh + 1) (by omega)), Bool.true_and, decide_eq_true_iff, hrs c hc, hah c hc]
  refine ⟨e1, fun k => ?_⟩
  induction k with
  | zero => intro _; rfl
  | succ k ih =>
    intro hk
    rw [cAny, anyMv, ih (by omega)]
    congr 1
    apply bool_ext
    rw [decide_eq_true_iff, e1 k (by omega)]
theorem low_eq {G mv' : Row} {p n : Nat} {m : Int32} (h1 : G 1 = m) (hm : ∀ c, c < n → mv' c = G (32 + 42 * p + 6 + c)) : ∀ (i j : Nat), j + i ≤ n → cLow mv' m j i = lendG G p j i
  | 0, _, _ => rfl
  | i + 1, j, h => by rw [cLow, lendG, h1, hm j (by omega), low_eq h1 hm i (j + 1) (by omega)]
theorem mv_eq {F mv rs ah : Row} {p n c : Nat} (hn : n ≤ 4) (hc : c < 4) (hmv : mv c = F (32 + 42 * p + 6 + c)) (he : ∀ c, c < n → (mMv F p c = true ↔ rs c ≠ ah c)) : cMv mv rs ah n c = mCnt F p n (32 + 42 * p + 6 + c) := by
  rw [cnt_mv hn hc]
  unfold cMv
  by_cases h : c < n ∧ rs c ≠ ah c
  · rw [if_pos h, if_pos ⟨h.1, (he c h.1).mpr h.2⟩, hmv]
  · rw [if_neg h, if_neg (fun q => h ⟨q.1, (he c q.1).mp q.2⟩), hmv]
