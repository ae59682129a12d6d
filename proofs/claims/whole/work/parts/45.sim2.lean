/-! a whole collect on both sides -/
/-- the reader's rows behind the collect -/
theorem col_rows {V : Nat → Row} {f : Row} {n mv ph wr t p kd st wh : Nat} {mm : Nat → Nat} (h : Rel V f n mv ph wr t) (hp : p < n) (hb : WPb f n mv p kd st wh 0 mm) :
    (∀ c, c < 4 → upd (V (11 + 8 * p)) (n - 1) (V 2 (n - 1)) c = mF5 f p n (32 + 42 * p + 14 + 6 * c) ∧ upd (V (12 + 8 * p)) (n - 1) (V 3 (n - 1)) c = mF5 f p n (32 + 42 * p + 14 + 6 * c + 1) ∧ ∀ k, k < 4 → va_cpy (V 4) (V (13 + 8 * p)) ((n - 1) * 4) ((n - 1) * 4) 4 (c * 4 + k) = mF5 f p n (32 + 42 * p + 14 + 6 * c + 2 + k)) ∧
    (∀ c, c < 4 → upd (V (12 + 8 * p)) (n - 1) (V 3 (n - 1)) c = mF5 f p n (32 + 42 * p + 10 + c)) ∧ (∀ c, c < 4 → V (7 + 8 * p) c = mF5 f p n (32 + 42 * p + 38 + c)) := by
  obtain ⟨hf, hz, hs, hc, ha, hal, hh⟩ := h
  obtain ⟨⟨hn2, hn, hm1, hm, hph, hwr⟩, h0, h1, h5, h6, hW⟩ := hf
  have hp4 : p < 4 := by omega
  obtain ⟨k0, k1, k2, k3, k4, k5, k6, k7⟩ := ha p hp4
  have i5 : ∀ j, (j < 32 + 42 * p + 6 ∨ 32 + 42 * p + 14 ≤ j) → j ≠ 3 → j ≠ 32 + 42 * p + 2 → j ≠ 32 + 42 * p + 4 → (j < 32 + 42 * p + 14 + 6 * (n - 1) ∨ 32 + 42 * p + 14 + 6 * (n - 1) + 6 ≤ j) → mF5 f p n j = f j := fun j a0 a1 a2 a3 a4 => by
    unfold mF5; rw [cnt_out a0 hn, f4_o a1 a2 a3 a4]
  have A : ∀ c, c < 4 → upd (V (11 + 8 * p)) (n - 1) (V 2 (n - 1)) c = mF5 f p n (32 + 42 * p + 14 + 6 * c) ∧ upd (V (12 + 8 * p)) (n - 1) (V 3 (n - 1)) c = mF5 f p n (32 + 42 * p + 14 + 6 * c + 1) ∧ ∀ k, k < 4 → va_cpy (V 4) (V (13 + 8 * p)) ((n - 1) * 4) ((n - 1) * 4) 4 (c * 4 + k) = mF5 f p n (32 + 42 * p + 14 + 6 * c + 2 + k) := fun c hc4 =>
    rd_cells (by omega) hc4 hc (k7 c hc4).2.2.2 (fun i hi => by unfold mF5; rw [cnt_out (by omega) hn, f4_r hp4 (by omega) hi]) (fun j a1 a2 a3 => i5 j (by omega) (by omega) (by omega) (by omega) a3)
  refine ⟨A, fun c hc4 => ?_, fun c hc4 => ?_⟩
  · rw [(A c hc4).2.1]
    by_cases e : c < n
    · unfold mF5; rw [cnt_ah e, cnt_out (by omega) hn]
    · rw [i5 _ (by omega) (by omega) (by omega) (by omega) (by omega)]
      obtain ⟨-, q2, q3⟩ := (hz.2.2.1 p hp4).2.1 c (by omega) hc4
      rw [q3 1 (by omega)]
      unfold mF5; rw [cnt_a (by omega) hc4, f4_o (by omega) (by omega) (by omega) (by omega)]; exact q2.symm
  · rw [i5 _ (by omega) (by omega) (by omega) (by omega) (by omega)]; exact (k7 c hc4).1
/-- who moved, who lends -/
theorem col_mv {V : Nat → Row} {f : Row} {n mv ph wr t p kd st wh : Nat} {mm : Nat → Nat} (h : Rel V f n mv ph wr t) (hp : p < n) (hb : WPb f n mv p kd st wh 0 mm) (hw : 1 ≤ wh) :
    cAny (upd (V (12 + 8 * p)) (n - 1) (V 3 (n - 1))) (V (9 + 8 * p)) n = anyMv (mF4 f p (n - 1)) p n ∧ (∀ c, c < 4 → cMv (V (8 + 8 * p)) (upd (V (12 + 8 * p)) (n - 1) (V 3 (n - 1))) (V (9 + 8 * p)) n c = mF5 f p n (32 + 42 * p + 6 + c)) ∧ cLow (cMv (V (8 + 8 * p)) (upd (V (12 + 8 * p)) (n - 1) (V 3 (n - 1))) (V (9 + 8 * p)) n) (V 0 1) 0 n = lendG (mF5 f p n) p 0 n := by
  have hcr := col_rows h hp hb
  obtain ⟨hf, hz, hs, hc, ha, hal, hh⟩ := h
  obtain ⟨⟨hn2, hn, hm1, hm, hph, hwr⟩, h0, h1, h5, h6, hW⟩ := hf
  have hp4 : p < 4 := by omega
  have h55 := hb.st55 hn2 hn hm
  obtain ⟨k0, k1, k2, k3, k4, k5, k6, k7⟩ := ha p hp4
  obtain ⟨e1, e2⟩ := any_eq (F := mF4 f p (n - 1)) (rs := upd (V (12 + 8 * p)) (n - 1) (V 3 (n - 1))) (ah := V (9 + 8 * p)) (p := p) (n := n) (f4_4 hb.2.2.1) hw (by omega) (fun c hc4 => by
    rw [(hcr.1 c (by omega)).2.1]; unfold mF5; rw [cnt_out (by omega) hn]) (fun c hc4 => by
    rw [(k7 c (by omega)).2.2.1, f4_o (by omega) (by omega) (by omega) (by omega)])
  have e3 : ∀ c, c < 4 → cMv (V (8 + 8 * p)) (upd (V (12 + 8 * p)) (n - 1) (V 3 (n - 1))) (V (9 + 8 * p)) n c = mF5 f p n (32 + 42 * p + 6 + c) := fun c hc4 => mv_eq hn hc4 (by rw [(k7 c hc4).2.1, f4_o (by omega) (by omega) (by omega) (by omega)]) e1
  exact ⟨e2 n (Nat.le_refl _), e3, low_eq (by rw [hs.2.1, f5_o (by omega) hn (by omega) (by omega)]; exact h1) (fun c hc4 => e3 c (by omega)) n 0 (by omega)⟩
/-- no photo is taken -/
theorem sim_C {V V' : Nat → Row} {f MV : Row} {n mv ph wr t p kd st wh : Nat} {mm : Nat → Nat} (h : Rel V f n mv ph wr t) (ht : t < 900000) (hp : p < n) (hb : WPb f n mv p kd st wh 0 mm) (hc1 : st % n = n - 1) (hS : mStep f p = mF5 f p n)
    (e0 : V' 0 = upd (V 0) 3 (V 0 3 + nI 1)) (ek : V' (6 + 8 * p) = upd (upd (upd (upd (V (6 + 8 * p)) 3 (V (6 + 8 * p) 3 + nI 1)) 4 (nI (n - 1 + 1))) 4 (nI 0)) 5 (nI (wh + 1))) (emv : V' (8 + 8 * p) = MV) (eah : V' (9 + 8 * p) = upd (V (12 + 8 * p)) (n - 1) (V 3 (n - 1))) (erv : V' (11 + 8 * p) = upd (V (11 + 8 * p)) (n - 1) (V 2 (n - 1))) (ers : V' (12 + 8 * p) = upd (V (12 + 8 * p)) (n - 1) (V 3 (n - 1))) (erw : V' (13 + 8 * p) = va_cpy (V 4) (V (13 + 8 * p)) ((n - 1) * 4) ((n - 1) * 4) 4) (epv : V' (7 + 8 * p) = V (7 + 8 * p)) (eo : ∀ j, j ≠ 0 → (j < 6 + 8 * p ∨ 14 + 8 * p ≤ j) → V' j = V j) (hMV : ∀ c, c < 4 → MV c = mF5 f p n (32 + 42 * p + 6 + c)) : Rel V' (mStep f p) n mv ph wr (t + 1) := by
  have hcr := col_rows h hp hb
  obtain ⟨hf, hz, hs, hc, ha, hal, hh⟩ := h
  have hf0 := hf
  obtain ⟨⟨hn2, hn, hm1, hm, hph, hwr⟩, h0, h1, h5, h6, hW⟩ := hf
  have hp4 : p < 4 := by omega
  have h55 := hb.st55 hn2 hn hm
  obtain ⟨ph', wr', hw', -, hfr⟩ := wf_step hf0 hp hb
  obtain ⟨k0, k1, k2, k3, k4, k5, k6, k7⟩ := ha p hp4
  have o : ∀ j, j ≠ 3 → (j < 32 + 42 * p ∨ 32 + 42 * p + 42 ≤ j) → mStep f p j = f j := fun j a0 a1 => by rw [hS]; exact f5_o (by omega) hn a0 a1
  have i5 : ∀ i, i < 6 → i ≠ 2 → i ≠ 4 → mStep f p (32 + 42 * p + i) = f (32 + 42 * p + i) := fun i a0 a1 a2 => by
    rw [hS]; unfold mF5; rw [cnt_out (by omega) hn, f4_o (by omega) (by omega) (by omega) (by omega)]
  have v2 : mStep f p (32 + 42 * p + 2) = nI (st + 1) := by rw [hS]; unfold mF5; rw [cnt_out (by omega) hn]; exact f4_2 hb.2.1
  have v4 : mStep f p (32 + 42 * p + 4) = nI (wh + 1) := by rw [hS]; unfold mF5; rw [cnt_out (by omega) hn]; exact f4_4 hb.2.2.1
  refine ⟨hw'.cast (by rw [o _ (by omega) (by omega)]; exact h5) (by rw [o _ (by omega) (by omega)]; exact h6) hph hwr, by rw [hS]; exact ZZ_f5 hf0 hb hp hz, RSc_step hs e0 (by rw [eo 38 (by omega) (by omega)]; exact hs.2.2.2.2.2.1) (by rw [eo 40 (by omega) (by omega)]; exact hs.2.2.2.2.2.2) (o 2 (by omega) (by omega)) (o 4 (by omega) (by omega)), hc.to (eo 2 (by omega) (by omega)) (eo 3 (by omega) (by omega)) (eo 4 (by omega) (by omega)) (fun j a1 a2 => o j (by omega) (by omega)), fun p' hp' => ?_, ?_, hh.to (eo 41 (by omega) (by omega)) (eo 42 (by omega) (by omega)) (eo 43 (by omega) (by omega)) (fun j a1 a2 => o j (by omega) (by omega))⟩
  · by_cases ep : p' = p
    · subst ep
      have er : rdB (mStep f p') p' = true := by
        have := rdB_t hb
        unfold rdB at this ⊢; rw [i5 0 (by omega) (by omega) (by omega), i5 5 (by omega) (by omega) (by omega)]; exact this
      refine ⟨?_, ?_, ?_, ?_, ?_, ?_, ?_, fun c hc4 => ?_⟩
      · rw [ek, i5 0 (by omega) (by omega) (by omega), upd_ne (by decide), upd_ne (by decide), upd_ne (by decide), upd_ne (by decide)]; exact k0
      · rw [ek, i5 0 (by omega) (by omega) (by omega), i5 1 (by omega) (by omega) (by omega), upd_ne (by decide), upd_ne (by decide), upd_ne (by decide), upd_ne (by decide)]; exact k1
      · rw [ek, i5 3 (by omega) (by omega) (by omega), upd_ne (by decide), upd_ne (by decide), upd_ne (by decide), upd_ne (by decide)]; exact k2
      · rw [ek, upd_ne (by decide), upd_ne (by decide), upd_ne (by decide), upd_self, k3, hb.2.1, nI_add, v2]
      · rw [ek, upd_ne (by decide), upd_self, er, if_pos rfl, rSt_of v2 (by omega), mod_e hn2 hn hc1]
      · rw [ek, upd_self, v4]
      · rw [ek, i5 5 (by omega) (by omega) (by omega), upd_ne (by decide), upd_ne (by decide), upd_ne (by decide), upd_ne (by decide)]; exact k6
      · rw [epv, emv, eah, erv, ers, erw, hS]
        exact ⟨hcr.2.2 c hc4, hMV c hc4, hcr.2.1 c hc4, hcr.1 c hc4⟩
    · exact (ha p' hp').to (fun j a1 a2 => eo j (by omega) (by omega)) (fun i hi => o _ (by omega) (by omega))
  · exact hal.to (wr := wr) (wr' := wr) (fun j hj => by rw [eo 39 (by omega) (by omega)]) hn h0 (hw'.2.1) h6 (by rw [o _ (by omega) (by omega)]; exact h6) hwr hwr hz.2.2.2.1 ht (fun j a1 a2 => o j (by omega) (by omega)) (fun c tau htau => vAt_more (fun j a1 a2 => o j (by omega) (by omega)) wr (Nat.le_refl _))
/-- a photo is taken: what is common -/
theorem sim_T {V V' : Nat → Row} {f f' KT PV : Row} {n mv ph wr t p kd st wh : Nat} {mm pl T : Nat → Nat} {qo : Option Nat} (h : Rel V f n mv ph wr t) (ht : t < 900000) (hp : p < n) (hb : WPb f n mv p kd st wh 0 mm) (hqo : ∀ x, qo = some x → x < n)
    (hzh : ZH f n wr t T pl) (hw' : WFr f' n mv (if ph < 24 then ph + 1 else ph) wr) (hf' : ∀ j, (j < 32 + 42 * p ∨ 32 + 42 * p + 42 ≤ j) → f' j = mTakes (mF5 f p n) p qo j) (hzz : ZZ f' n (if ph < 24 then ph + 1 else ph) wr (t + 1)) (hact : RAc V' f' n p)
    (e0 : V' 0 = upd (V 0) 3 (V 0 3 + nI 1)) (e38 : V' 38 = upd (V 38) 0 (nI (up1 (decide (ph < 24)) ph))) (e39 : V' 39 = bif decide (ph < 24) then cFa (V 39) ph (nI p) KT (V 0 3 + nI 1) (cMom (V 41) pl (V 43) PV (V (6 + 8 * p) 2) wr).1 PV else V 39) (eo : ∀ j, j ≠ 0 → j ≠ 38 → j ≠ 39 → j ≠ 44 → (j < 6 + 8 * p ∨ 14 + 8 * p ≤ j) → V' j = V j)
    (t0 : KT 0 = V (6 + 8 * p) 0) (t2 : KT 2 = V (6 + 8 * p) 2) (t3 : KT 3 = nI (st + 1)) (t7 : KT 7 = lentI qo) (hPV : ∀ c, c < 4 → PV c = mTk (mF5 f p n) p qo n (32 + 42 * p + 38 + c)) : Rel V' f' n mv (if ph < 24 then ph + 1 else ph) wr (t + 1) := by
  have hz5 := ZZ_f5 h.1 hb hp h.2.1
  obtain ⟨hf, hz, hs, hc, ha, hal, hh⟩ := h
  obtain ⟨⟨hn2, hn, hm1, hm, hph, hwr⟩, h0, h1, h5, h6, hW⟩ := hf
  have hp4 : p < 4 := by omega
  obtain ⟨k0, k1, k2, k3, k4, k5, k6, k7⟩ := ha p hp4
  have g0 : mF5 f p n 0 = nI n := by rw [f5_o (by omega) hn (by omega) (by omega)]; exact h0
  have g5 : mF5 f p n 5 = nI ph := by rw [f5_o (by omega) hn (by omega) (by omega)]; exact h5
  have o : ∀ j, j ≠ 3 → j ≠ 5 → (j < 32 + 42 * p ∨ 32 + 42 * p + 42 ≤ j) → (ph = 24 ∨ j < 200 + 10 * ph ∨ 200 + 10 * ph + 10 ≤ j) → f' j = f j := fun j a0 a1 a2 a3 => by
    rw [hf' j a2, takes_o g0 hn g5 hph (by omega) a3 a1 (by omega), f5_o (by omega) hn a0 a2]
  refine ⟨hw', hzz, RSc_step hs e0 (by rw [e38, upd_self, up1_if]) (by rw [eo 40 (by omega) (by omega) (by omega) (by omega) (by omega)]; exact hs.2.2.2.2.2.2) (o 2 (by omega) (by omega) (by omega) (by omega)) (o 4 (by omega) (by omega) (by omega) (by omega)), hc.to (eo 2 (by omega) (by omega) (by omega) (by omega) (by omega)) (eo 3 (by omega) (by omega) (by omega) (by omega) (by omega)) (eo 4 (by omega) (by omega) (by omega) (by omega) (by omega)) (fun j a1 a2 => o j (by omega) (by omega) (by omega) (by omega)), fun p' hp' => ?_, ?_, hh.to (eo 41 (by omega) (by omega) (by omega) (by omega) (by omega)) (eo 42 (by omega) (by omega) (by omega) (by omega) (by omega)) (eo 43 (by omega) (by omega) (by omega) (by omega) (by omega)) (fun j a1 a2 => o j (by omega) (by omega) (by omega) (by omega))⟩
  · by_cases ep : p' = p
    · subst ep; exact hact
    · exact (ha p' hp').to (fun j a1 a2 => eo j (by omega) (by omega) (by omega) (by omega) (by omega)) (fun i hi => o _ (by omega) (by omega) (by omega) (by omega))
  · have hkeep : ∀ (X : Row), (∀ j, j < ph * 11 → X j = V 39 j) → ∀ i, i < ph → (∀ k, k < 10 → X (i * 11 + k) = f' (200 + 10 * i + k)) ∧ X (i * 11 + 10) = mMom f' i := fun X hX => by
      have := hal.to (V' := fun _ => X) (f' := f') (n := n) (wr := wr) (wr' := wr) (t := t) hX hn h0 (by rw [o _ (by omega) (by omega) (by omega) (by omega)]; exact h0) h6 (by rw [o _ (by omega) (by omega) (by omega) (by omega)]; exact h6) hwr hwr hz.2.2.2.1 ht (fun j a1 a2 => o j (by omega) (by omega) (by omega) (by omega)) (fun c tau htau => vAt_more (fun j a1 a2 => o j (by omega) (by omega) (by omega) (by omega)) wr (Nat.le_refl _))
      exact this
    by_cases hlt : ph < 24
    · rw [if_pos hlt]
      rw [decide_eq_true hlt] at e39
      intro i hi
      rw [e39]
      show (∀ k, k < 10 → cFa _ _ _ _ _ _ _ _ = _) ∧ cFa _ _ _ _ _ _ _ _ = _
      by_cases ei : i = ph
      · subst ei
        obtain ⟨a0, a1, a2, a3, a4, a5, a6⟩ := takes_v (q := qo) g0 hn g5 hlt hp4
        obtain ⟨c0, c1, c2, c3, c4, c5, c6, c7⟩ := fa_v (fa := V 39) (k := KT) (pv := PV) (ph := i) (x := nI p) (en := V 0 3 + nI 1) (mo := (cMom (V 41) pl (V 43) PV (V (6 + 8 * p) 2) wr).1)
        have x3 : V 0 3 + nI 1 = mF5 f p n 3 := by rw [hs.2.2.2.1, nI_add, hz5.1]
        have x2 : mF5 f p n (32 + 42 * p + 2) = nI (st + 1) := by unfold mF5; rw [cnt_out (by omega) hn]; exact f4_2 hb.2.1
        have xb : mF5 f p n (32 + 42 * p + 3) = f (32 + 42 * p + 3) := by unfold mF5; rw [cnt_out (by omega) hn, f4_o (by omega) (by omega) (by omega) (by omega)]
        have x0 : mF5 f p n (32 + 42 * p + 0) = f (32 + 42 * p + 0) := by unfold mF5; rw [cnt_out (by omega) hn, f4_o (by omega) (by omega) (by omega) (by omega)]
        obtain ⟨⟨bg, q1, q2⟩, q3, -⟩ := hz.2.2.1 p hp4
        refine ⟨fun k hk => ?_, ?_⟩
        · have hk2 : k = 0 ∨ k = 1 ∨ k = 2 ∨ k = 3 ∨ k = 4 ∨ k = 5 ∨ ∃ c, c < 4 ∧ k = 6 + c := by
            rcases (by omega : k = 0 ∨ k = 1 ∨ k = 2 ∨ k = 3 ∨ k = 4 ∨ k = 5 ∨ 6 ≤ k) with q | q | q | q | q | q | q
            · exact Or.inl q
            · exact Or.inr (Or.inl q)
            · exact Or.inr (Or.inr (Or.inl q))
            · exact Or.inr (Or.inr (Or.inr (Or.inl q)))
            · exact Or.inr (Or.inr (Or.inr (Or.inr (Or.inl q))))
            · exact Or.inr (Or.inr (Or.inr (Or.inr (Or.inr (Or.inl q)))))
            · exact Or.inr (Or.inr (Or.inr (Or.inr (Or.inr (Or.inr ⟨k - 6, by omega, by omega⟩)))))
          rcases hk2 with rfl | rfl | rfl | rfl | rfl | rfl | ⟨c, hc4, rfl⟩
          · rw [c0, hf' _ (by omega), a0]
          · rw [c1, hf' _ (by omega), a1, t2, k2, xb]
          · rw [c2, hf' _ (by omega), a2, x3]
          · rw [c3, hf' _ (by omega), a3, t3, x2]
          · rw [c4, hf' _ (by omega), a4, t7]
          · rw [c5, hf' _ (by omega), a5, t0, k0, x0]
          · rw [← Nat.add_assoc, ← Nat.add_assoc, c6 c hc4, hf' _ (by omega), a6 c hc4, hPV c hc4]
        · rw [c7, k2, q2]
          have m1 : f' (200 + 10 * i + 1) = nI bg := by rw [hf' _ (by omega), a1, xb]; exact q2
          have m2 : f' (200 + 10 * i + 2) = nI (t + 1) := by rw [hf' _ (by omega), a2]; exact hz5.1
          unfold mMom
          rw [rWr_of hw'.2.2.2.2.1 hwr, rN_of hw'.2.1 hn, m1, m2, nI_clamp (by omega), nI_clamp (by omega)]
          refine (mom_eq (T := T) hn (fun e he => ?_) (fun e he => ?_) (fun e he => (hzh.1 e he).2.2.1) hzh.2 (fun e he => ?_) (by omega) (by omega) (fun c hc4 => ?_) (fun c hc1 hc4 => ?_)).symm
          · rw [(hh e he).1]; exact (hzh.1 e he).1
          · obtain ⟨b1, b2, b3, b4⟩ := hzh.1 e he
            obtain ⟨d1, d2, d3⟩ := hh e he
            rw [o _ (by omega) (by omega) (by omega) (by omega), o _ (by omega) (by omega) (by omega) (by omega), o _ (by omega) (by omega) (by omega) (by omega)]
            exact ⟨b1, b2, d3.symm, by omega, by omega⟩
          · have := (hzh.1 e he).2.2.2; omega
          · rw [hPV c hc4, hf' _ (by omega), a6 c hc4]
          · rw [hPV c hc4, tk_o (by omega)]
            exact ((hz5.2.2.1 p hp4).2.1 c hc1 hc4).1
      · exact hkeep _ (fun j hj => fa_o hj) i (by omega)
    · rw [if_neg hlt]
      rw [decide_eq_false hlt] at e39
      intro i hi
      rw [e39]
      exact hkeep (V 39) (fun j _ => rfl) i hi

/-- the writer's own part behind a photo, of a WRITING -/
theorem act_T {V V' : Nat → Row} {f f' KT PV : Row} {n mv ph wr t p kd st wh : Nat} {mm : Nat → Nat} {qo : Option Nat} (h : Rel V f n mv ph wr t) (hp : p < n) (hb : WPb f n mv p kd st wh 0 mm) (hw : 1 ≤ wh) (hf' : f' = mTakes (mF5 f p n) p qo)
    (ek : V' (6 + 8 * p) = KT) (epv : V' (7 + 8 * p) = PV) (emv : V' (8 + 8 * p) = cMv (V (8 + 8 * p)) (upd (V (12 + 8 * p)) (n - 1) (V 3 (n - 1))) (V (9 + 8 * p)) n) (eah : V' (9 + 8 * p) = upd (V (12 + 8 * p)) (n - 1) (V 3 (n - 1))) (erv : V' (11 + 8 * p) = upd (V (11 + 8 * p)) (n - 1) (V 2 (n - 1))) (ers : V' (12 + 8 * p) = upd (V (12 + 8 * p)) (n - 1) (V 3 (n - 1))) (erw : V' (13 + 8 * p) = va_cpy (V 4) (V (13 + 8 * p)) ((n - 1) * 4) ((n - 1) * 4) 4)
    (t0 : KT 0 = V (6 + 8 * p) 0) (t1 : KT 1 = V (6 + 8 * p) 1) (t2 : KT 2 = V (6 + 8 * p) 2) (t3 : KT 3 = nI (st + 1)) (t4 : KT 4 = nI 0) (t5 : KT 5 = nI (wh + 1)) (t6 : KT 6 = nI 1) (hPV : ∀ c, c < 4 → PV c = mTk (mF5 f p n) p qo n (32 + 42 * p + 38 + c)) : RAc V' f' n p := by
  have hcr := col_rows h hp hb
  have hcm := col_mv h hp hb hw
  obtain ⟨hf, hz, hs, hc, ha, hal, hh⟩ := h
  obtain ⟨⟨hn2, hn, hm1, hm, hph, hwr⟩, h0, h1, h5, h6, hW⟩ := hf
  have hp4 : p < 4 := by omega
  obtain ⟨k0, k1, k2, k3, k4, k5, k6, k7⟩ := ha p hp4
  have g0 : mF5 f p n 0 = nI n := by rw [f5_o (by omega) hn (by omega) (by omega)]; exact h0
  have g5 : mF5 f p n 5 = nI ph := by rw [f5_o (by omega) hn (by omega) (by omega)]; exact h5
  have i5 : ∀ i, i < 6 → i ≠ 2 → i ≠ 4 → mF5 f p n (32 + 42 * p + i) = f (32 + 42 * p + i) := fun i a0 a1 a2 => by
    unfold mF5; rw [cnt_out (by omega) hn, f4_o (by omega) (by omega) (by omega) (by omega)]
  have v2 : mF5 f p n (32 + 42 * p + 2) = nI (st + 1) := by unfold mF5; rw [cnt_out (by omega) hn]; exact f4_2 hb.2.1
  have v4 : mF5 f p n (32 + 42 * p + 4) = nI (wh + 1) := by unfold mF5; rw [cnt_out (by omega) hn]; exact f4_4 hb.2.2.1
  have o : ∀ j, 32 + 42 * p ≤ j → j < 32 + 42 * p + 38 → j ≠ 32 + 42 * p + 5 → f' j = mF5 f p n j := fun j a0 a1 a2 => by
    rw [hf']; exact takes_o g0 hn g5 hph (by omega) (by omega) (by omega) a2
  have o5 : f' (32 + 42 * p + 5) = nI 1 := by rw [hf']; exact takes_h
  have er : rdB f' p = false := by unfold rdB; rw [o5, decide_eq_false (p := nI 1 = 0) (by decide), Bool.and_false]
  refine ⟨?_, ?_, ?_, ?_, ?_, ?_, ?_, fun c hc4 => ?_⟩
  · rw [ek, t0, o _ (by omega) (by omega) (by omega), i5 0 (by omega) (by omega) (by omega)]; exact k0
  · rw [ek, t1, o (32 + 42 * p + 0) (by omega) (by omega) (by omega), o (32 + 42 * p + 1) (by omega) (by omega) (by omega), i5 0 (by omega) (by omega) (by omega), i5 1 (by omega) (by omega) (by omega)]; exact k1
  · rw [ek, t2, o _ (by omega) (by omega) (by omega), i5 3 (by omega) (by omega) (by omega)]; exact k2
  · rw [ek, t3, o _ (by omega) (by omega) (by omega), v2]
  · rw [ek, t4, er]; rfl
  · rw [ek, t5, o _ (by omega) (by omega) (by omega), v4]
  · rw [ek, t6, o5]
  · rw [epv, emv, eah, erv, ers, erw, hPV c hc4]
    refine ⟨?_, (hcm.2.1 c hc4).trans (o _ (by omega) (by omega) (by omega)).symm, (hcr.2.1 c hc4).trans (o _ (by omega) (by omega) (by omega)).symm, (hcr.1 c hc4).1.trans (o _ (by omega) (by omega) (by omega)).symm, (hcr.1 c hc4).2.1.trans (o _ (by omega) (by omega) (by omega)).symm, fun k hk => ((hcr.1 c hc4).2.2 k hk).trans (o _ (by omega) (by omega) (by omega)).symm⟩
    rw [hf', takes_tk g0 hn g5 hph hp4 hc4]
/-- the photo's values on both sides -/
theorem pv_T {V : Nat → Row} {f : Row} {n mv ph wr t p kd st wh : Nat} {mm : Nat → Nat} (h : Rel V f n mv ph wr t) (hp : p < n) (hb : WPb f n mv p kd st wh 0 mm) :
    (∀ c, c < 4 → upd (V (11 + 8 * p)) (n - 1) (V 2 (n - 1)) c = mTk (mF5 f p n) p none n (32 + 42 * p + 38 + c)) ∧ ∀ q, q < n → ∀ c, c < 4 → va_cpy (V 4) (V (13 + 8 * p)) ((n - 1) * 4) ((n - 1) * 4) 4 (q * 4 + c) = mTk (mF5 f p n) p (some q) n (32 + 42 * p + 38 + c) := by
  have hcr := col_rows h hp hb
  have hz5 := ZZ_f5 h.1 hb hp h.2.1
  obtain ⟨hf, hz, hs, hc, ha, hal, hh⟩ := h
  obtain ⟨⟨hn2, hn, hm1, hm, hph, hwr⟩, h0, h1, h5, h6, hW⟩ := hf
  have hp4 : p < 4 := by omega
  obtain ⟨-, z1, z2⟩ := hz5.2.2.1 p hp4
  refine ⟨fun c hc4 => ?_, fun q hq c hc4 => ?_⟩
  · rw [(hcr.1 c hc4).1]
    by_cases e : c < n
    · rw [tk_i e]; rfl
    · obtain ⟨q1, -, q3⟩ := z1 c (by omega) hc4
      rw [tk_o (by omega), q1]; exact q3 0 (by omega)
  · rw [(hcr.1 q (by omega)).2.2 c hc4]
    by_cases e : c < n
    · rw [tk_i e]; rfl
    · obtain ⟨q1, -, q3⟩ := z1 c (by omega) hc4
      rw [tk_o (by omega), q1]; exact z2 q (by omega) c (by omega) hc4
