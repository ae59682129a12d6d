/-! copies, beginnings and new worlds beside the reference's rows -/
theorem Rel.hz {V : Nat → Row} {f : Row} {n mv ph wr t : Nat} (h : Rel V f n mv ph wr t) : ∀ i, i < 4 → V (6 + 8 * i) 6 = nI 0 ∨ V (6 + 8 * i) 6 = nI 1 := fun i hi => by
  have k6 := (h.2.2.2.2.1 i hi).2.2.2.2.2.2.1
  rw [k6]
  rcases h.1.2.2.2.2.2 i hi with q | ⟨kd, st, wh, hs, mm, hb⟩
  · exact Or.inl (q 5 (by omega))
  · rw [hb.2.2.2.1]
    rcases hb.2.2.2.2.2.2 with q | q
    · rw [q.1]; exact Or.inl rfl
    · rw [q.1]; exact Or.inr rfl
theorem rel_cop {V V2 : Nat → Row} {f : Row} {n mv ph wr t : Nat} (h : Rel V2 f n mv ph wr t) : Rel (cCop V V2 ph wr) f n mv ph wr t := by
  obtain ⟨hf, hz, hs, hc, hac, hal, hh⟩ := h
  refine ⟨hf, hz, hs, hc, fun p hp => ?_, fun i hi => ?_, fun e he => ?_⟩
  · rcases (by omega : p = 0 ∨ p = 1 ∨ p = 2 ∨ p = 3) with rfl | rfl | rfl | rfl
    · exact hac 0 hp
    · exact hac 1 hp
    · exact hac 2 hp
    · exact hac 3 hp
  · obtain ⟨b1, b2⟩ := hal i hi
    refine ⟨fun k hk => ?_, ?_⟩
    · show va_cpy (V2 39) (V 39) 0 0 (ph * 11) (i * 11 + k) = _
      rw [cpy_i (by omega) (by omega), show 0 + (i * 11 + k - 0) = i * 11 + k by omega]; exact b1 k hk
    · show va_cpy (V2 39) (V 39) 0 0 (ph * 11) (i * 11 + 10) = _
      rw [cpy_i (by omega) (by omega), show 0 + (i * 11 + 10 - 0) = i * 11 + 10 by omega]; exact b2
  · obtain ⟨b1, b2, b3⟩ := hh e he
    refine ⟨?_, ?_, ?_⟩
    · show va_cpy (V2 41) (V 41) 0 0 wr e = _
      rw [cpy_i (by omega) (by omega), show 0 + (e - 0) = e by omega]; exact b1
    · show va_cpy (V2 42) (V 42) 0 0 wr e = _
      rw [cpy_i (by omega) (by omega), show 0 + (e - 0) = e by omega]; exact b2
    · show va_cpy (V2 43) (V 43) 0 0 wr e = _
      rw [cpy_i (by omega) (by omega), show 0 + (e - 0) = e by omega]; exact b3
theorem rel_res {V : Nat → Row} {n mv : Nat} {w : Int32} (hn2 : 2 ≤ n) (hn : n ≤ 4) (hm1 : 1 ≤ mv) (hm : mv ≤ 4) : Rel (cRes V (nI n) (nI mv) w) (mBares (nI n) (nI mv) w) n mv 0 0 0 := by
  have e : ∀ j, 3 ≤ j → mBares (nI n) (nI mv) w j = 0 := fun j hj => by unfold mBares; rw [upd_ne (by omega), upd_ne (by omega), upd_ne (by omega)]
  have e0 : mBares (nI n) (nI mv) w 0 = nI n := by unfold mBares; rw [upd_ne (by omega), upd_ne (by omega), upd_self]
  have e1 : mBares (nI n) (nI mv) w 1 = nI mv := by unfold mBares; rw [upd_ne (by omega), upd_self]
  have e2 : mBares (nI n) (nI mv) w 2 = w := by unfold mBares; rw [upd_self]
  have hi : ∀ p, p < 4 → WPi (mBares (nI n) (nI mv) w) p := fun p hp i hi => e _ (by omega)
  refine ⟨⟨⟨hn2, hn, hm1, hm, by omega, by omega⟩, e0, e1, e 5 (by omega), e 6 (by omega), fun p hp => Or.inl (hi p hp)⟩, ⟨e 3 (by omega), fun c hc => ⟨fun k a1 a2 => e _ (by omega), fun a1 i hi => e _ (by omega)⟩, fun p hp => ZA.zero (hi p hp), fun i hi => absurd hi (by omega), fun _ => 0, fun _ => 0, fun x hx => absurd hx (by omega), fun x y a b => absurd b (by omega)⟩, ⟨rfl, rfl, e2.symm, rfl, (e 4 (by omega)).symm, rfl, rfl⟩, fun c hc => ⟨(e _ (by omega)).symm, (e _ (by omega)).symm, fun k hk => (e _ (by omega)).symm⟩, fun p hp => ?_, fun i hi => absurd hi (by omega), fun x hx => absurd hx (by omega)⟩
  rcases (by omega : p = 0 ∨ p = 1 ∨ p = 2 ∨ p = 3) with rfl | rfl | rfl | rfl
  · exact RAc.idle rfl rfl rfl rfl rfl rfl rfl (hi 0 hp)
  · exact RAc.idle rfl rfl rfl rfl rfl rfl rfl (hi 1 hp)
  · exact RAc.idle rfl rfl rfl rfl rfl rfl rfl (hi 2 hp)
  · exact RAc.idle rfl rfl rfl rfl rfl rfl rfl (hi 3 hp)
theorem cBeg_o {V : Nat → Row} {p j : Nat} {kd v : Int32} (h0 : j ≠ 0) (h : j < 6 + 8 * p ∨ 14 + 8 * p ≤ j) : cBeg V p kd v j = V j := by
  unfold cBeg
  rw [setB_ne (by omega), setB_ne (by omega), setB_ne (by omega), setB_ne (by omega), setB_ne (by omega), setB_ne (by omega), setB_ne (by omega), setB_ne (by omega)]
theorem cBeg_0 {V : Nat → Row} {p : Nat} {kd v : Int32} : cBeg V p kd v 0 = upd (V 0) 4 (V 0 4 + nI 1) := by
  unfold cBeg
  rw [setB_ne (by omega), setB_ne (by omega), setB_ne (by omega), setB_ne (by omega), setB_ne (by omega), setB_ne (by omega), setB_ne (by omega), setB_eq]
theorem cBeg_k {V : Nat → Row} {p : Nat} {kd v : Int32} : cBeg V p kd v (6 + 8 * p) = kB kd v (V 0 3) := by
  unfold cBeg
  rw [setB_ne (by omega), setB_ne (by omega), setB_ne (by omega), setB_ne (by omega), setB_ne (by omega), setB_ne (by omega), setB_eq]
theorem cBeg_z {V : Nat → Row} {p j : Nat} {kd v : Int32} (h : 7 + 8 * p ≤ j) (h2 : j < 14 + 8 * p) (h3 : j ≠ 10 + 8 * p) : cBeg V p kd v j = z0 := by
  unfold cBeg
  rcases (by omega : j = 7 + 8 * p ∨ j = 8 + 8 * p ∨ j = 9 + 8 * p ∨ j = 11 + 8 * p ∨ j = 12 + 8 * p ∨ j = 13 + 8 * p) with rfl | rfl | rfl | rfl | rfl | rfl
  · rw [setB_ne (by omega), setB_ne (by omega), setB_ne (by omega), setB_ne (by omega), setB_ne (by omega), setB_eq]
  · rw [setB_ne (by omega), setB_ne (by omega), setB_ne (by omega), setB_ne (by omega), setB_eq]
  · rw [setB_ne (by omega), setB_ne (by omega), setB_ne (by omega), setB_eq]
  · rw [setB_ne (by omega), setB_ne (by omega), setB_eq]
  · rw [setB_ne (by omega), setB_eq]
  · rw [setB_eq]
theorem rel_beg {V : Nat → Row} {f : Row} {n mv ph wr t p kd : Nat} {v v' : Int32} (h : Rel V f n mv ph wr t) (ht : t < 900000) (hp : p < n) (hk : kd = 1 ∨ kd = 2) (hv : v' = if kd = 2 then v else -9) : Rel (cBeg V p (nI kd) v') (mActs f p (nI kd) v) n mv ph wr t := by
  obtain ⟨hf, hz, hs, hc, hac, hal, hh⟩ := h
  have hf0 := hf
  obtain ⟨⟨hn2, hn, hm1, hm, hph, hwr⟩, h0, h1, h5, h6, hW⟩ := hf
  obtain ⟨z1, z2, z3, z4, T, pl, z5⟩ := hz
  obtain ⟨s0, s1, s2, s3, s4, s5, s6⟩ := hs
  have hp4 : p < 4 := by omega
  have o : ∀ j, (j < 32 + 42 * p ∨ 32 + 42 * p + 42 ≤ j) → j ≠ 4 → mActs f p (nI kd) v j = f j := fun j a b => acts_o a b
  have zz : ∀ i, i < 42 → i ≠ 0 → i ≠ 1 → i ≠ 3 → mActs f p (nI kd) v (32 + 42 * p + i) = 0 := fun i a b c d => acts_z a b c d
  have hw' : WFr (mActs f p (nI kd) v) n mv ph wr := by
    refine ⟨⟨hn2, hn, hm1, hm, hph, hwr⟩, (o _ (by omega) (by omega)).trans h0, (o _ (by omega) (by omega)).trans h1, (o _ (by omega) (by omega)).trans h5, (o _ (by omega) (by omega)).trans h6, fun p' hp' => ?_⟩
    by_cases e : p' = p
    · subst e
      refine Or.inr ⟨kd, 0, 0, 0, fun _ => 0, acts_0, acts_z (by omega) (by omega) (by omega) (by omega), acts_z (by omega) (by omega) (by omega) (by omega), acts_z (by omega) (by omega) (by omega) (by omega), fun c hc => ?_, hk, Or.inl ⟨rfl, Nat.zero_div n, fun c _ => (show 0 < mv by omega), fun c _ => rfl, by omega⟩⟩
      rw [Nat.add_assoc]; exact acts_z (by omega) (by omega) (by omega) (by omega)
    · exact (hW p' hp').to (fun i hi => acts_o (by omega) (by omega))
  refine ⟨hw', ⟨(o _ (by omega) (by omega)).trans z1, z2.to (fun i a1 a2 => o _ (by omega) (by omega)), fun p' hp' => ?_, z4.to (Nat.le_refl _) (fun j a1 a2 => o _ (by omega) (by omega)), T, pl, z5.to (Nat.le_refl _) (fun j a1 a2 => o _ (by omega) (by omega))⟩, ⟨?_, ?_, ?_, ?_, ?_, ?_, ?_⟩, ?_, fun p' hp' => ?_, ?_, ?_⟩
  · by_cases e : p' = p
    · subst e
      refine ⟨⟨t, Nat.le_refl _, by rw [acts_3]; exact z1⟩, fun c a1 a2 => ⟨?_, ?_, fun i hi => ?_⟩, fun c a1 k a2 a3 => ?_⟩
      · rw [Nat.add_assoc]; exact zz _ (by omega) (by omega) (by omega) (by omega)
      · rw [Nat.add_assoc]; exact zz _ (by omega) (by omega) (by omega) (by omega)
      · rw [Nat.add_assoc, Nat.add_assoc]; exact zz _ (by omega) (by omega) (by omega) (by omega)
      · rw [Nat.add_assoc, Nat.add_assoc, Nat.add_assoc]; exact zz _ (by omega) (by omega) (by omega) (by omega)
    · exact (z3 p' hp').to (Nat.le_refl _) (fun i hi => o _ (by omega) (by omega))
  · rw [cBeg_0, upd_ne (by omega)]; exact s0
  · rw [cBeg_0, upd_ne (by omega)]; exact s1
  · rw [cBeg_0, upd_ne (by omega), o _ (by omega) (by omega)]; exact s2
  · rw [cBeg_0, upd_ne (by omega)]; exact s3
  · rw [cBeg_0, upd_self, acts_4, s4]
  · rw [cBeg_o (by omega) (by omega)]; exact s5
  · rw [cBeg_o (by omega) (by omega)]; exact s6
  · exact hc.to (cBeg_o (by omega) (by omega)) (cBeg_o (by omega) (by omega)) (cBeg_o (by omega) (by omega)) (fun j a1 a2 => o _ (by omega) (by omega))
  · by_cases e : p' = p
    · subst e
      have g5 : mActs f p' (nI kd) v (32 + 42 * p' + 5) = 0 := zz 5 (by omega) (by omega) (by omega) (by omega)
      have g2 : mActs f p' (nI kd) v (32 + 42 * p' + 2) = nI 0 := zz 2 (by omega) (by omega) (by omega) (by omega)
      have er : rSt (mActs f p' (nI kd) v) p' = 0 := rSt_of g2 (by omega)
      refine ⟨by rw [cBeg_k, acts_0]; rfl, ?_, by rw [cBeg_k, acts_3, z1, ← s3]; rfl, by rw [cBeg_k, g2]; rfl, ?_, by rw [cBeg_k, zz 4 (by omega) (by omega) (by omega) (by omega)]; rfl, by rw [cBeg_k, g5]; rfl, fun c hc => ⟨?_, ?_, ?_, ?_, ?_, fun k hk => ?_⟩⟩
      · rw [cBeg_k, acts_0, acts_1]
        show v' = _
        rw [hv]
        rcases hk with rfl | rfl
        · rw [if_neg (by omega), if_neg (by decide)]
        · rw [if_pos rfl, if_pos rfl]
      · rw [cBeg_k, er, Nat.zero_mod]
        show (0 : Int32) = _
        split <;> rfl
      · rw [cBeg_z (by omega) (by omega) (by omega), Nat.add_assoc, zz _ (by omega) (by omega) (by omega) (by omega)]; rfl
      · rw [cBeg_z (by omega) (by omega) (by omega), Nat.add_assoc, zz _ (by omega) (by omega) (by omega) (by omega)]; rfl
      · rw [cBeg_z (by omega) (by omega) (by omega), Nat.add_assoc, zz _ (by omega) (by omega) (by omega) (by omega)]; rfl
      · rw [cBeg_z (by omega) (by omega) (by omega), Nat.add_assoc, zz _ (by omega) (by omega) (by omega) (by omega)]; rfl
      · rw [cBeg_z (by omega) (by omega) (by omega), Nat.add_assoc, Nat.add_assoc, zz _ (by omega) (by omega) (by omega) (by omega)]; rfl
      · rw [cBeg_z (by omega) (by omega) (by omega), Nat.add_assoc, Nat.add_assoc, Nat.add_assoc, zz _ (by omega) (by omega) (by omega) (by omega)]; rfl
    · exact (hac p' hp').to (fun j a1 a2 => cBeg_o (by omega) (by omega)) (fun i hi => o _ (by omega) (by omega))
  · exact hal.to (wr := wr) (wr' := wr) (fun j hj => by rw [cBeg_o (by omega) (by omega)]) hn h0 (hw'.2.1) h6 ((o _ (by omega) (by omega)).trans h6) hwr hwr z4 ht (fun j a1 a2 => o j (by omega) (by omega)) (fun c tau htau => vAt_more (fun j a1 a2 => o j (by omega) (by omega)) wr (Nat.le_refl _))
  · exact hh.to (cBeg_o (by omega) (by omega)) (cBeg_o (by omega) (by omega)) (cBeg_o (by omega) (by omega)) (fun j a1 a2 => o _ (by omega) (by omega))
