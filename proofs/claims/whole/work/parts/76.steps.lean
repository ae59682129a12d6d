theorem mStep_4 {f : Row} {n mv ph wr p : Nat} (hf : WFr f n mv ph wr) (hp : p < n) (ha : ¬ f (32 + 42 * p + 0) = 0) : mStep f p 4 = f 4 := by
  have hf0 := hf
  obtain ⟨⟨hn2, hn, hm1, hm, hph, hwr⟩, h0, h1, h5, h6, hW⟩ := hf
  have hp4 : p < 4 := by omega
  obtain ⟨kd, st, wh, hs1, mm, hb⟩ := (hW p hp4).act ha
  have hhs : hs1 = 0 ∨ hs1 = 1 := by
    rcases hb.2.2.2.2.2.2 with q | q
    · exact Or.inl q.1
    · exact Or.inr q.1
  have e5 : mF5 f p n 4 = f 4 := f5_o (by omega) hn (by omega) (by omega)
  have g0 : mF5 f p n 0 = nI n := by rw [f5_o (by omega) hn (by omega) (by omega)]; exact h0
  have g5 : mF5 f p n 5 = nI ph := by rw [f5_o (by omega) hn (by omega) (by omega)]; exact h5
  have et : ∀ q, mTakes (mF5 f p n) p q 4 = f 4 := fun q => by rw [takes_o g0 hn g5 hph (by omega) (by omega) (by omega) (by omega)]; exact e5
  rcases hhs with rfl | rfl
  · have hmod : st % n < n := Nat.mod_lt _ (by omega)
    by_cases hc : st % n < n - 1
    · rw [step_B hf0 hb hp4 hc, rd_o (by omega), s2_0 (by omega) (by omega)]
    · rw [step_C hf0 hb hp4 (by omega)]
      repeat' split
      all_goals first | exact e5 | exact et _ | (rw [idl_o (by omega)]; exact et _)
  · rw [step_A hb hp4, wr_o (wr := wr) (by rw [s2_0 (by omega) (by omega)]; exact h6) hwr hp4 (by omega) (by omega) (by omega) (by omega), s2_0 (by omega) (by omega)]
theorem stF_4 {n mv p : Nat} (hp : p < n) : ∀ (k : Nat) (f : Row), WFx f n mv → stF f p k 4 = f 4
  | 0, _, _ => rfl
  | k + 1, f, h => by
    rw [stF]
    by_cases ha : f (32 + 42 * p + 0) = 0
    · rw [if_pos ha]
    · rw [if_neg ha, stF_4 hp k _ (wfx_step h hp ha)]
      obtain ⟨ph, wr, h⟩ := h
      exact mStep_4 h hp ha
