/-! a row's first 512 ints are all that counts -/
theorem rel_cong {V : Nat → Row} {f f' : Row} {n mv ph wr t : Nat} (h : Rel V f n mv ph wr t) (ht : t < 900000) (e : ∀ j, j < 512 → f' j = f j) : Rel V f' n mv ph wr t := by
  obtain ⟨hf, hz, hs, hc, hac, hal, hh⟩ := h
  obtain ⟨⟨hn2, hn, hm1, hm, hph, hwr⟩, h0, h1, h5, h6, hW⟩ := hf
  obtain ⟨z1, z2, z3, z4, T, pl, z5⟩ := hz
  obtain ⟨s0, s1, s2, s3, s4, s5, s6⟩ := hs
  refine ⟨⟨⟨hn2, hn, hm1, hm, hph, hwr⟩, (e _ (by omega)).trans h0, (e _ (by omega)).trans h1, (e _ (by omega)).trans h5, (e _ (by omega)).trans h6, fun p hp => (hW p hp).to (fun i hi => e _ (by omega))⟩, ⟨(e _ (by omega)).trans z1, z2.to (fun i a1 a2 => e _ (by omega)), fun p hp => (z3 p hp).to (Nat.le_refl _) (fun i hi => e _ (by omega)), z4.to (Nat.le_refl _) (fun j a1 a2 => e _ (by omega)), T, pl, z5.to (Nat.le_refl _) (fun j a1 a2 => e _ (by omega))⟩, ⟨s0, s1, s2.trans (e _ (by omega)).symm, s3, s4.trans (e _ (by omega)).symm, s5, s6⟩, hc.to rfl rfl rfl (fun j a1 a2 => e _ (by omega)), fun p hp => (hac p hp).to (fun j a1 a2 => rfl) (fun i hi => e _ (by omega)), ?_, hh.to rfl rfl rfl (fun j a1 a2 => e _ (by omega))⟩
  exact hal.to (wr := wr) (wr' := wr) (fun j hj => rfl) hn h0 ((e _ (by omega)).trans h0) h6 ((e _ (by omega)).trans h6) hwr hwr z4 ht (fun j a1 a2 => e j (by omega)) (fun c tau htau => vAt_more (fun j a1 a2 => e j (by omega)) wr (Nat.le_refl _))
/-- a world beside a row, of some counts, not too late, not too many acts -/
def RelX (V : Nat → Row) (f : Row) (T : Nat) : Prop := ∃ n mv ph wr t ac, Rel V f n mv ph wr t ∧ t ≤ T ∧ ac ≤ 24 ∧ f 4 = nI ac
theorem RelX.more {V : Nat → Row} {f : Row} {T T' : Nat} (h : RelX V f T) (hT : T ≤ T') : RelX V f T' := by
  obtain ⟨n, mv, ph, wr, t, ac, h1, h2, h3, h4⟩ := h
  exact ⟨n, mv, ph, wr, t, ac, h1, by omega, h3, h4⟩
theorem RelX.cong {V : Nat → Row} {f f' : Row} {T : Nat} (h : RelX V f T) (hT : T < 900000) (e : ∀ j, j < 512 → f' j = f j) : RelX V f' T := by
  obtain ⟨n, mv, ph, wr, t, ac, h1, h2, h3, h4⟩ := h
  exact ⟨n, mv, ph, wr, t, ac, rel_cong h1 (by omega) e, h2, h3, (e 4 (by omega)).trans h4⟩
theorem RelX.cop {V V2 : Nat → Row} {f : Row} {n mv ph wr t ac T : Nat} (h1 : Rel V2 f n mv ph wr t) (h2 : t ≤ T) (h3 : ac ≤ 24) (h4 : f 4 = nI ac) : RelX (cCop V V2 ph wr) f T := ⟨n, mv, ph, wr, t, ac, rel_cop h1, h2, h3, h4⟩
/-- where the i-th remembered world lies -/
def rg (pn um i : Nat) : Nat := 2 + (pn + 5 - um + i) % 5
/-- all that ties the class to the reference between two calls -/
def Inv (V : Nat → Nat → Row) (sa sb sr f fp fi fk fs : Row) (pn um q T : Nat) : Prop :=
  RelX (V 0) f T ∧ pn < 5 ∧ um ≤ 5 ∧ (∀ i, i < um → RelX (V (rg pn um i)) (fun j => fp (512 * i + j)) T) ∧ (∀ k, k < 2 → ¬ fk k = 0 → RelX (V (7 + k)) (fun j => fi (512 * k + j)) T) ∧ q ≤ 6 ∧ ∃ ta tb : Nat → Nat, ∀ i, i < q → sa i = nI (ta i) ∧ sb i = nI (tb i) ∧ fs (3 * i) = nI (ta i) ∧ fs (3 * i + 1) = nI (tb i) ∧ fs (3 * i + 2) = sr i ∧ 1 ≤ ta i ∧ ta i ≤ 4 ∧ 1 ≤ tb i ∧ tb i ≤ 4
