/-! a step on both sides -/
theorem RSc_step {V V' : Nat → Row} {f f' : Row} {n mv ph wr t ph' wr' : Nat} (h : RSc V f n mv ph wr t) (e0 : V' 0 = upd (V 0) 3 (V 0 3 + nI 1)) (e38 : V' 38 0 = nI ph') (e40 : V' 40 0 = nI wr') (f2 : f' 2 = f 2) (f4 : f' 4 = f 4) : RSc V' f' n mv ph' wr' (t + 1) := by
  obtain ⟨a0, a1, a2, a3, a4, a5, a6⟩ := h
  refine ⟨?_, ?_, ?_, ?_, ?_, e38, e40⟩
  · rw [e0, upd_ne (by decide)]; exact a0
  · rw [e0, upd_ne (by decide)]; exact a1
  · rw [e0, upd_ne (by decide), f2]; exact a2
  · rw [e0, upd_self, a3, nI_add]
  · rw [e0, upd_ne (by decide), f4]; exact a4
theorem WFr.cast {f : Row} {n mv ph wr ph' wr' : Nat} (h : WFr f n mv ph' wr') (h5 : f 5 = nI ph) (h6 : f 6 = nI wr) (hph : ph ≤ 24) (hwr : wr ≤ 24) : WFr f n mv ph wr := by
  have e1 : ph' = ph := (nI_eq (by have := h.1; omega) (by omega)).mp (h.2.2.2.1.symm.trans h5)
  have e2 : wr' = wr := (nI_eq (by have := h.1; omega) (by omega)).mp (h.2.2.2.2.1.symm.trans h6)
  subst e1; subst e2; exact h
theorem sim_A {V : Nat → Row} {f : Row} {n mv ph wr t p kd st wh : Nat} {mm : Nat → Nat} (h : Rel V f n mv ph wr t) (ht : t < 900000) (hp : p < n) (hb : WPb f n mv p kd st wh 1 mm) : Rel (cvA V p wr) (mStep f p) n mv ph (if wr < 24 then wr + 1 else wr) (t + 1) := by
  obtain ⟨hf, hz, hs, hc, ha, hal, hh⟩ := h
  have hf0 := hf
  obtain ⟨⟨hn2, hn, hm1, hm, hph, hwr⟩, h0, h1, h5, h6, hW⟩ := hf
  have hp4 : p < 4 := by omega
  have e := step_A hb hp4
  obtain ⟨ph', wr', hw', -, hfr⟩ := wf_step hf0 hp hb
  have g6 : mS2 f p 6 = nI wr := by rw [s2_0 (by omega) (by omega)]; exact h6
  have g3 : mS2 f p 3 = nI (t + 1) := by dsimp only [mS2]; rw [upd_ne (by omega), upd_self, hz.1, nI_add]
  have e5 : mStep f p 5 = nI ph := by rw [e, wr_o g6 hwr hp4 (by omega) (by omega) (by omega) (by omega), s2_0 (by omega) (by omega)]; exact h5
  have e6 : mStep f p 6 = nI (if wr < 24 then wr + 1 else wr) := by rw [e]; exact wr_6 g6 hwr hp4
  have hwr' : (if wr < 24 then wr + 1 else wr) ≤ 24 := by split <;> omega
  have o : ∀ j, j ≠ 3 → (j < 8 + 6 * p ∨ 8 + 6 * p + 6 ≤ j) → (j < 32 + 42 * p ∨ 32 + 42 * p + 42 ≤ j) → (j < 440 + 3 * wr ∨ 440 + 3 * wr + 3 ≤ j) → j ≠ 6 → mStep f p j = f j := fun j a0 a1 a2 a3 a4 => by
    rw [e, wr_o g6 hwr hp4 a1 a2 a3 a4, s2_0 a0 (by omega)]
  have hkd : kd = 2 := by
    rcases hb.2.2.2.2.2.2 with q | q
    · exact absurd q.1 (by omega)
    · exact q.2.1
  obtain ⟨k0, k1, k2, k3, k4, k5, k6, k7⟩ := ha p hp4
  have hto : (upd (V (6 + 8 * p)) 3 (V (6 + 8 * p) 3 + nI 1)) 1 = f (32 + 42 * p + 1) := by
    rw [upd_ne (by decide), k1, if_pos (by rw [hb.1, hkd])]
  refine ⟨hw'.cast e5 e6 hph hwr', ZZ_wr hf0 hb hp hz, RSc_step hs (cvA_kw V p wr hp4) ?_ ?_ (o 2 (by omega) (by omega) (by omega) (by omega) (by omega)) (o 4 (by omega) (by omega) (by omega) (by omega) (by omega)), fun c hc4 => ?_, fun p' hp' => ?_, ?_, ?_⟩
  · rw [cvA_o V p wr hp4 38 (by omega) (by omega) (by omega) (by omega) (by omega) (by omega) (by omega) (by omega) (by omega) (by omega) (by omega) (by omega) (by omega) (by omega) (by omega)]; exact hs.2.2.2.2.2.1
  · rw [cvA_hsz V p wr hp4, upd_self, up1_if]
  · rw [cvA_fv V p wr hp4, cvA_fe V p wr hp4, cvA_fw V p wr hp4]
    obtain ⟨c1, c2, c3⟩ := hc c hc4
    by_cases ec : c = p
    · subst ec
      rw [upd_self, upd_self, hto, upd_ne (by decide), hs.2.2.1, c2, e]
      obtain ⟨w1, w2⟩ := wr_val g6 hwr hp4
      refine ⟨?_, ?_, fun k hk => ?_⟩
      · rw [w1, s2_0 (by omega) (by omega)]
      · rw [w2, s2_0 (by omega) (by omega), s2_0 (by omega) (by omega)]
      · rw [cpy_i (by omega) (by omega), show 0 + (c * 4 + k - c * 4) = k by omega, wr_view g6 hwr hp4 hk, s2_0 (by omega) (by omega)]
        exact (k7 k hk).1
    · rw [upd_ne ec, upd_ne ec, o _ (by omega) (by omega) (by omega) (by omega) (by omega), o _ (by omega) (by omega) (by omega) (by omega) (by omega)]
      refine ⟨c1, c2, fun k hk => ?_⟩
      rw [cpy_o (by omega), o _ (by omega) (by omega) (by omega) (by omega) (by omega)]; exact c3 k hk
  · by_cases ep : p' = p
    · subst ep
      exact RAc.idle (cvA_k V p' wr hp4) (cvA_pv V p' wr hp4) (cvA_mv V p' wr hp4) (cvA_ah V p' wr hp4) (cvA_rv V p' wr hp4) (cvA_rs V p' wr hp4) (cvA_rw V p' wr hp4) (fun i hi => by rw [e]; dsimp only [mWrite]; exact idl_i (by omega) (by omega))
    · exact (ha p' hp').to (fun j a1 a2 => cvA_o V p wr hp4 j (by omega) (by omega) (by omega) (by omega) (by omega) (by omega) (by omega) (by omega) (by omega) (by omega) (by omega) (by omega) (by omega) (by omega) (by omega)) (fun i hi => o _ (by omega) (by omega) (by omega) (by omega) (by omega))
  · refine hal.to (wr := wr) (wr' := if wr < 24 then wr + 1 else wr) (fun j hj => ?_) hn h0 (hw'.2.1) h6 e6 hwr hwr' hz.2.2.2.1 ht (fun j a1 a2 => o j (by omega) (by omega) (by omega) (by omega) (by omega)) (fun c tau htau => ?_)
    · rw [cvA_o V p wr hp4 39 (by omega) (by omega) (by omega) (by omega) (by omega) (by omega) (by omega) (by omega) (by omega) (by omega) (by omega) (by omega) (by omega) (by omega) (by omega)]
    · have em := vAt_more (f := f) (f' := mStep f p) (c := c) (wr := wr) (tau := nI tau) (fun j a1 a2 => o j (by omega) (by omega) (by omega) (by omega) (by omega)) wr (Nat.le_refl _)
      by_cases hlt : wr < 24
      · rw [if_pos hlt, vAt, em, if_neg]
        rintro ⟨q, -⟩
        rw [e, (wr_ev g6 hlt hp4).1, g3] at q
        have := (nI_leI (by omega) (by omega)).mp q
        omega
      · rw [if_neg hlt]; exact em
  · intro x hx
    rw [cvA_ti V p wr hp4, cvA_pls V p wr hp4, cvA_wv V p wr hp4, hto]
    by_cases hlt : wr < 24
    · rw [if_pos hlt] at hx
      rw [decide_eq_true hlt]
      show upd (V 41) wr _ x = _ ∧ upd (V 42) wr _ x = _ ∧ upd (V 43) wr _ x = _
      obtain ⟨v1, v2, v3⟩ := wr_ev g6 hlt hp4
      by_cases ex : x = wr
      · subst ex
        rw [upd_self, upd_self, upd_self, upd_self, e, v1, v2, v3, g3, hs.2.2.2.1, nI_add, s2_0 (by omega) (by omega)]
        exact ⟨rfl, rfl, rfl⟩
      · rw [upd_ne ex, upd_ne ex, upd_ne ex, o _ (by omega) (by omega) (by omega) (by omega) (by omega), o _ (by omega) (by omega) (by omega) (by omega) (by omega), o _ (by omega) (by omega) (by omega) (by omega) (by omega)]
        exact hh x (by omega)
    · rw [if_neg hlt] at hx
      rw [decide_eq_false hlt]
      show V 41 x = _ ∧ V 42 x = _ ∧ V 43 x = _
      rw [o _ (by omega) (by omega) (by omega) (by omega) (by omega), o _ (by omega) (by omega) (by omega) (by omega) (by omega), o _ (by omega) (by omega) (by omega) (by omega) (by omega)]
      exact hh x hx
theorem mod_s {n st : Nat} (hn2 : 2 ≤ n) (hn : n ≤ 4) (h : st % n < n - 1) : (st + 1) % n = st % n + 1 := by
  rcases (by omega : n = 2 ∨ n = 3 ∨ n = 4) with rfl | rfl | rfl <;> omega
theorem mod_e {n st : Nat} (hn2 : 2 ≤ n) (hn : n ≤ 4) (h : st % n = n - 1) : (st + 1) % n = 0 := by
  rcases (by omega : n = 2 ∨ n = 3 ∨ n = 4) with rfl | rfl | rfl <;> omega
theorem rdB_t {f : Row} {n mv p kd st wh : Nat} {mm : Nat → Nat} (hb : WPb f n mv p kd st wh 0 mm) : rdB f p = true := by
  unfold rdB; rw [decide_eq_true hb.ne0, decide_eq_true (by rw [hb.2.2.2.1]; rfl)]; rfl
/-- what is read of a cell -/
theorem rd_cells {V : Nat → Row} {f F : Row} {p q c : Nat} (hq : q < 4) (hc : c < 4) (hce : RCe V f) (h7 : V (11 + 8 * p) c = f (32 + 42 * p + 14 + 6 * c) ∧ V (12 + 8 * p) c = f (32 + 42 * p + 14 + 6 * c + 1) ∧ ∀ k, k < 4 → V (13 + 8 * p) (c * 4 + k) = f (32 + 42 * p + 14 + 6 * c + 2 + k))
    (hin : ∀ i, i < 6 → F (32 + 42 * p + 14 + 6 * q + i) = f (8 + 6 * q + i)) (hout : ∀ j, 32 + 42 * p + 14 ≤ j → j < 32 + 42 * p + 38 → (j < 32 + 42 * p + 14 + 6 * q ∨ 32 + 42 * p + 14 + 6 * q + 6 ≤ j) → F j = f j) :
    upd (V (11 + 8 * p)) q (V 2 q) c = F (32 + 42 * p + 14 + 6 * c) ∧ upd (V (12 + 8 * p)) q (V 3 q) c = F (32 + 42 * p + 14 + 6 * c + 1) ∧ ∀ k, k < 4 → va_cpy (V 4) (V (13 + 8 * p)) (q * 4) (q * 4) 4 (c * 4 + k) = F (32 + 42 * p + 14 + 6 * c + 2 + k) := by
  obtain ⟨b4, b5, b6⟩ := h7
  by_cases e : c = q
  · subst e
    obtain ⟨c1, c2, c3⟩ := hce c hc
    rw [upd_self, upd_self]
    refine ⟨c1.trans (hin 0 (by omega)).symm, c2.trans (hin 1 (by omega)).symm, fun k hk => ?_⟩
    rw [cpy_i (by omega) (by omega), show c * 4 + (c * 4 + k - c * 4) = c * 4 + k by omega, c3 k hk]
    have := hin (2 + k) (by omega)
    rw [← Nat.add_assoc, ← Nat.add_assoc] at this
    exact this.symm
  · rw [upd_ne e, upd_ne e, hout _ (by omega) (by omega) (by omega), hout _ (by omega) (by omega) (by omega)]
    refine ⟨b4, b5, fun k hk => ?_⟩
    rw [cpy_o (by omega), hout _ (by omega) (by omega) (by omega)]; exact b6 k hk
theorem sim_B {V : Nat → Row} {f : Row} {n mv ph wr t p kd st wh : Nat} {mm : Nat → Nat} (h : Rel V f n mv ph wr t) (ht : t < 900000) (hp : p < n) (hb : WPb f n mv p kd st wh 0 mm) (hc1 : st % n < n - 1) : Rel (cvB V p (st % n)) (mStep f p) n mv ph wr (t + 1) := by
  obtain ⟨hf, hz, hs, hc, ha, hal, hh⟩ := h
  have hf0 := hf
  obtain ⟨⟨hn2, hn, hm1, hm, hph, hwr⟩, h0, h1, h5, h6, hW⟩ := hf
  have hp4 : p < 4 := by omega
  have h60 := hb.st60 hn2 hn hm
  have h55 := hb.st55 hn2 hn hm
  have e := step_B hf0 hb hp4 hc1
  obtain ⟨ph', wr', hw', -, hfr⟩ := wf_step hf0 hp hb
  generalize hq : st % n = q at *
  have o : ∀ j, j ≠ 3 → (j < 32 + 42 * p + 14 + 6 * q ∨ 32 + 42 * p + 14 + 6 * q + 6 ≤ j) → j ≠ 32 + 42 * p + 2 → mStep f p j = f j := fun j a0 a1 a2 => by
    rw [e, rd_o a1, s2_0 a0 a2]
  have hin : ∀ i, i < 6 → mStep f p (32 + 42 * p + 14 + 6 * q + i) = f (8 + 6 * q + i) := fun i hi => by
    rw [e, rd_i hi, s2_0 (by omega) (by omega)]
  have e2 : mStep f p (32 + 42 * p + 2) = nI (st + 1) := by rw [e, rd_o (by omega), s2_st hb.2.1]
  obtain ⟨k0, k1, k2, k3, k4, k5, k6, k7⟩ := ha p hp4
  refine ⟨hw'.cast (by rw [o _ (by omega) (by omega) (by omega)]; exact h5) (by rw [o _ (by omega) (by omega) (by omega)]; exact h6) hph hwr, ZZ_rd hf0 hb hp (by rw [hq]; exact hc1) hz, RSc_step hs (cvB_kw V p q hp4) ?_ ?_ (o 2 (by omega) (by omega) (by omega)) (o 4 (by omega) (by omega) (by omega)), ?_, fun p' hp' => ?_, ?_, ?_⟩
  · rw [cvB_o V p q hp4 38 (by omega) (by omega) (by omega) (by omega) (by omega)]; exact hs.2.2.2.2.2.1
  · rw [cvB_o V p q hp4 40 (by omega) (by omega) (by omega) (by omega) (by omega)]; exact hs.2.2.2.2.2.2
  · exact hc.to (cvB_o V p q hp4 2 (by omega) (by omega) (by omega) (by omega) (by omega)) (cvB_o V p q hp4 3 (by omega) (by omega) (by omega) (by omega) (by omega)) (cvB_o V p q hp4 4 (by omega) (by omega) (by omega) (by omega) (by omega)) (fun j a1 a2 => o j (by omega) (by omega) (by omega))
  · by_cases ep : p' = p
    · subst ep
      have f0 : mStep f p' (32 + 42 * p' + 0) = f (32 + 42 * p' + 0) := o _ (by omega) (by omega) (by omega)
      have f5 : mStep f p' (32 + 42 * p' + 5) = f (32 + 42 * p' + 5) := o _ (by omega) (by omega) (by omega)
      have er : rdB (mStep f p') p' = true := by
        have := rdB_t hb
        unfold rdB at this ⊢; rw [f0, f5]; exact this
      have ers : rSt (mStep f p') p' = st + 1 := rSt_of e2 (by omega)
      refine ⟨?_, ?_, ?_, ?_, ?_, ?_, ?_, fun c hc4 => ?_⟩
      · rw [cvB_k V p' q hp4, upd_ne (by decide), upd_ne (by decide), f0]; exact k0
      · rw [cvB_k V p' q hp4, upd_ne (by decide), upd_ne (by decide), f0, o _ (by omega) (by omega) (by omega)]; exact k1
      · rw [cvB_k V p' q hp4, upd_ne (by decide), upd_ne (by decide), o _ (by omega) (by omega) (by omega)]; exact k2
      · rw [cvB_k V p' q hp4, upd_ne (by decide), upd_self, k3, hb.2.1, nI_add, e2]
      · rw [cvB_k V p' q hp4, upd_self, er, if_pos rfl, ers, mod_s hn2 hn (by rw [hq]; exact hc1), hq]
      · rw [cvB_k V p' q hp4, upd_ne (by decide), upd_ne (by decide), o _ (by omega) (by omega) (by omega)]; exact k5
      · rw [cvB_k V p' q hp4, upd_ne (by decide), upd_ne (by decide), f5]; exact k6
      · obtain ⟨b1, b2, b3, b456⟩ := k7 c hc4
        rw [cvB_o V p' q hp4 (7 + 8 * p') (by omega) (by omega) (by omega) (by omega) (by omega), cvB_o V p' q hp4 (8 + 8 * p') (by omega) (by omega) (by omega) (by omega) (by omega), cvB_o V p' q hp4 (9 + 8 * p') (by omega) (by omega) (by omega) (by omega) (by omega), cvB_rv V p' q hp4, cvB_rs V p' q hp4, cvB_rw V p' q hp4]
        exact ⟨by rw [o _ (by omega) (by omega) (by omega)]; exact b1, by rw [o _ (by omega) (by omega) (by omega)]; exact b2, by rw [o _ (by omega) (by omega) (by omega)]; exact b3, rd_cells (by omega) hc4 hc b456 hin (fun j a1 a2 a3 => o j (by omega) a3 (by omega))⟩
    · exact (ha p' hp').to (fun j a1 a2 => cvB_o V p q hp4 j (by omega) (by omega) (by omega) (by omega) (by omega)) (fun i hi => o _ (by omega) (by omega) (by omega))
  · exact hal.to (wr := wr) (wr' := wr) (fun j hj => by rw [cvB_o V p q hp4 39 (by omega) (by omega) (by omega) (by omega) (by omega)]) hn h0 (hw'.2.1) h6 (by rw [o _ (by omega) (by omega) (by omega)]; exact h6) hwr hwr hz.2.2.2.1 ht (fun j a1 a2 => o j (by omega) (by omega) (by omega)) (fun c tau htau => vAt_more (fun j a1 a2 => o j (by omega) (by omega) (by omega)) wr (Nat.le_refl _))
  · exact hh.to (cvB_o V p q hp4 41 (by omega) (by omega) (by omega) (by omega) (by omega)) (cvB_o V p q hp4 42 (by omega) (by omega) (by omega) (by omega) (by omega)) (cvB_o V p q hp4 43 (by omega) (by omega) (by omega) (by omega) (by omega)) (fun j a1 a2 => o j (by omega) (by omega) (by omega))
