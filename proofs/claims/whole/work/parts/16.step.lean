/-! a step, case by case -/
def mF4 (f : Row) (p c : Nat) : Row := upd (mRead (mS2 f p) p c) (32 + 42 * p + 4) (mRead (mS2 f p) p c (32 + 42 * p + 4) + nI 1)
theorem rd_o {f : Row} {p c j : Nat} (h : j < 32 + 42 * p + 14 + 6 * c ∨ 32 + 42 * p + 14 + 6 * c + 6 ≤ j) : mRead f p c j = f j := cpy_o h
theorem rd_i {f : Row} {p c i : Nat} (h : i < 6) : mRead f p c (32 + 42 * p + 14 + 6 * c + i) = f (8 + 6 * c + i) := by
  unfold mRead; rw [cpy_i (by omega) (by omega)]; congr 1; omega
theorem f4_o {f : Row} {p c j : Nat} (h1 : j ≠ 3) (h2 : j ≠ 32 + 42 * p + 2) (h3 : j ≠ 32 + 42 * p + 4) (h : j < 32 + 42 * p + 14 + 6 * c ∨ 32 + 42 * p + 14 + 6 * c + 6 ≤ j) : mF4 f p c j = f j := by
  unfold mF4; rw [upd_ne h3, rd_o h, s2_0 h1 h2]
theorem f4_2 {f : Row} {p c st : Nat} (h : f (32 + 42 * p + 2) = nI st) : mF4 f p c (32 + 42 * p + 2) = nI (st + 1) := by
  unfold mF4; rw [upd_ne (by omega), rd_o (by omega), s2_st h]
theorem f4_3 {f : Row} {p c : Nat} : mF4 f p c 3 = f 3 + nI 1 := by
  unfold mF4; rw [upd_ne (by omega), rd_o (by omega)]; dsimp only [mS2]; rw [upd_ne (by omega), upd_self]
theorem f4_4 {f : Row} {p c wh : Nat} (h : f (32 + 42 * p + 4) = nI wh) : mF4 f p c (32 + 42 * p + 4) = nI (wh + 1) := by
  unfold mF4; rw [upd_self, rd_o (by omega), s2_0 (by omega) (by omega), h, nI_add]
theorem f4_r {f : Row} {p c i : Nat} (hp : p < 4) (hc : c < 4) (h : i < 6) : mF4 f p c (32 + 42 * p + 14 + 6 * c + i) = f (8 + 6 * c + i) := by
  unfold mF4; rw [upd_ne (by omega), rd_i h, s2_0 (by omega) (by omega)]
def mF5 (f : Row) (p n : Nat) : Row := mCnt (mF4 f p (n - 1)) p n
theorem f5_o {f : Row} {p n j : Nat} (hn1 : 1 ≤ n) (hn : n ≤ 4) (h1 : j ≠ 3) (h : j < 32 + 42 * p ∨ 32 + 42 * p + 42 ≤ j) : mF5 f p n j = f j := by
  unfold mF5; rw [cnt_out (by omega) hn, f4_o h1 (by omega) (by omega) (by omega)]
/-- the three ways of a step -/
theorem step_A {f : Row} {n mv p kd st wh : Nat} {mm : Nat → Nat} (hb : WPb f n mv p kd st wh 1 mm) (hp : p < 4) : mStep f p = mWrite (mS2 f p) p := by
  dsimp only [mStep]
  rw [if_pos]
  rw [s2_0 (by omega) (by omega)]; exact hb.2.2.2.1
theorem step_nA {f : Row} {n mv p kd st wh : Nat} {mm : Nat → Nat} (hb : WPb f n mv p kd st wh 0 mm) (hp : p < 4) : ¬ mS2 f p (32 + 42 * p + 5) = nI 1 := by
  rw [s2_0 (by omega) (by omega), hb.2.2.2.1]; decide
theorem step_B {f : Row} {n mv ph wr p kd st wh : Nat} {mm : Nat → Nat} (hf : WFr f n mv ph wr) (hb : WPb f n mv p kd st wh 0 mm) (hp : p < 4) (hc : st % n < n - 1) : mStep f p = mRead (mS2 f p) p (st % n) := by
  have h60 := hb.st60 hf.1.1 hf.1.2.1 hf.1.2.2.2.1
  dsimp only [mStep]
  rw [if_neg (step_nA hb hp), rSt_of hb.2.1 (by omega), rN_of hf.2.1 hf.1.2.1, if_pos hc]
theorem step_C {f : Row} {n mv ph wr p kd st wh : Nat} {mm : Nat → Nat} (hf : WFr f n mv ph wr) (hb : WPb f n mv p kd st wh 0 mm) (hp : p < 4) (hc : st % n = n - 1) :
    mStep f p = if wh = 0 ∨ (anyMv (mF4 f p (n - 1)) p n = true ∧ (if anyMv (mF4 f p (n - 1)) p n then lendG (mF5 f p n) p 0 n else none) = none) then mF5 f p n else
      if kd = 1 then mIdles (mTakes (mF5 f p n) p (if anyMv (mF4 f p (n - 1)) p n then lendG (mF5 f p n) p 0 n else none)) p else mTakes (mF5 f p n) p (if anyMv (mF4 f p (n - 1)) p n then lendG (mF5 f p n) p 0 n else none) := by
  obtain ⟨⟨hn2, hn, -, hm, hph, -⟩, h0, -, h5, -⟩ := hf
  have h60 := hb.st60 hn2 hn hm
  have h55 := hb.st55 hn2 hn hm
  have hrd0 : mRead (mS2 f p) p (n - 1) 0 = nI n := by rw [rd_o (by omega), s2_0 (by omega) (by omega)]; exact h0
  have h50 : mF5 f p n 0 = nI n := by rw [f5_o (by omega) hn (by omega) (by omega)]; exact h0
  have h55' : mF5 f p n 5 = nI ph := by rw [f5_o (by omega) hn (by omega) (by omega)]; exact h5
  have e54 : mF5 f p n (32 + 42 * p + 4) = nI (wh + 1) := by unfold mF5; rw [cnt_out (by omega) hn]; exact f4_4 hb.2.2.1
  have e50 : mF5 f p n (32 + 42 * p + 0) = nI kd := by unfold mF5; rw [cnt_out (by omega) hn, f4_o (by omega) (by omega) (by omega) (by omega)]; exact hb.1
  have e1 : (mF5 f p n (32 + 42 * p + 4) = nI 1) = (wh = 0) := by
    rw [e54]; exact propext ⟨fun h => by have := (nI_eq (by omega) (by omega)).mp h; omega, fun h => by rw [h]⟩
  have e2 : ∀ q, (mTakes (mF5 f p n) p q (32 + 42 * p + 0) = nI 1) = (kd = 1) := fun q => by
    rw [takes_o h50 hn h55' hph (by omega) (by omega) (by omega) (by omega), e50]
    have : kd = 1 ∨ kd = 2 := hb.2.2.2.2.2.1
    exact propext ⟨fun h => (nI_eq (by omega) (by omega)).mp h, fun h => by rw [h]⟩
  dsimp only [mStep]
  rw [if_neg (step_nA hb hp), rSt_of hb.2.1 (by omega), rN_of h0 hn, if_neg (by omega), hc]
  dsimp only [mWhole]
  rw [rN_of hrd0 hn]
  show (if mF5 f p n (32 + 42 * p + 4) = nI 1 ∨ (anyMv (mF4 f p (n - 1)) p n = true ∧ (if anyMv (mF4 f p (n - 1)) p n = true then mLend (mF5 f p n) p else none) = none) then mF5 f p n else if mTakes (mF5 f p n) p (if anyMv (mF4 f p (n - 1)) p n = true then mLend (mF5 f p n) p else none) (32 + 42 * p + 0) = nI 1 then mIdles (mTakes (mF5 f p n) p (if anyMv (mF4 f p (n - 1)) p n = true then mLend (mF5 f p n) p else none)) p else mTakes (mF5 f p n) p (if anyMv (mF4 f p (n - 1)) p n = true then mLend (mF5 f p n) p else none)) = _
  unfold mLend
  rw [rN_of h50 hn]
  simp only [e1, e2]
/-- what every step keeps -/
theorem wf_step {f : Row} {n mv ph wr p kd st wh hs : Nat} {mm : Nat → Nat} (hf : WFr f n mv ph wr) (hp : p < n) (hb : WPb f n mv p kd st wh hs mm) :
    ∃ ph' wr', WFr (mStep f p) n mv ph' wr' ∧ (WPi (mStep f p) p ∨ ∃ kd' wh' hs' mm', WPb (mStep f p) n mv p kd' (st + 1) wh' hs' mm') ∧ ∀ j, j ≠ 3 → j ≠ 5 → j ≠ 6 → (j < 8 + 6 * p ∨ 8 + 6 * p + 6 ≤ j) → (j < 32 + 42 * p ∨ 32 + 42 * p + 42 ≤ j) → (j < 200 + 10 * ph ∨ 200 + 10 * ph + 10 ≤ j) → (j < 440 + 3 * wr ∨ 440 + 3 * wr + 3 ≤ j) → mStep f p j = f j := by
  have hf0 := hf
  obtain ⟨⟨hn2, hn, hm1, hm, hph, hwr⟩, h0, h1, h5, h6, hW⟩ := hf
  have hp4 : p < 4 := by omega
  have h60 := hb.st60 hn2 hn hm
  -- all but writer p from the frame
  have fin : ∀ (f' : Row) (ph' wr' : Nat), ph' ≤ 24 → wr' ≤ 24 → f' 5 = nI ph' → f' 6 = nI wr' → (WPi f' p ∨ ∃ kd' wh' hs' mm', WPb f' n mv p kd' (st + 1) wh' hs' mm') → (∀ j, j ≠ 3 → j ≠ 5 → j ≠ 6 → (j < 8 + 6 * p ∨ 8 + 6 * p + 6 ≤ j) → (j < 32 + 42 * p ∨ 32 + 42 * p + 42 ≤ j) → (j < 200 + 10 * ph ∨ 200 + 10 * ph + 10 ≤ j) → (j < 440 + 3 * wr ∨ 440 + 3 * wr + 3 ≤ j) → f' j = f j) → WFr f' n mv ph' wr' := by
    intro f' ph' wr' a1 a2 a3 a4 a5 a6
    refine ⟨⟨hn2, hn, hm1, hm, a1, a2⟩, ?_, ?_, a3, a4, fun p' hp' => ?_⟩
    · rw [a6 0 (by omega) (by omega) (by omega) (by omega) (by omega) (by omega) (by omega)]; exact h0
    · rw [a6 1 (by omega) (by omega) (by omega) (by omega) (by omega) (by omega) (by omega)]; exact h1
    · by_cases e : p' = p
      · subst e
        rcases a5 with a5 | ⟨kd', wh', hs', mm', a5⟩
        · exact Or.inl a5
        · exact Or.inr ⟨_, _, _, _, _, a5⟩
      · exact (hW p' hp').to (fun i hi => a6 _ (by omega) (by omega) (by omega) (by omega) (by omega) (by omega) (by omega))
  have hhs : hs = 0 ∨ hs = 1 := by
    rcases hb.2.2.2.2.2.2 with h | h
    · exact Or.inl h.1
    · exact Or.inr h.1
  rcases hhs with rfl | rfl
  · have h55 := hb.st55 hn2 hn hm
    have hmod : st % n < n := Nat.mod_lt _ (by omega)
    obtain ⟨b1, b2, b3, b4, b5, b6, b7 | b7⟩ := id hb
    · obtain ⟨-, b8, b9, b10, b11⟩ := b7
      by_cases hc : st % n < n - 1
      · -- a cell is read, not the last one
        have e := step_B hf0 hb hp4 hc
        have fr : ∀ j, j ≠ 3 → (j < 32 + 42 * p + 14 ∨ 32 + 42 * p + 42 ≤ j) → j ≠ 32 + 42 * p + 2 → mStep f p j = f j := fun j a1 a2 a3 => by
          rw [e, rd_o (by omega), s2_0 a1 a3]
        have wq : WPb (mStep f p) n mv p kd (st + 1) wh 0 mm := by
          refine ⟨?_, ?_, ?_, ?_, fun c hc => ?_, b6, Or.inl ⟨rfl, ?_, b9, b10, b11⟩⟩
          · rw [fr _ (by omega) (by omega) (by omega)]; exact b1
          · rw [e, rd_o (by omega), s2_st b2]
          · rw [fr _ (by omega) (by omega) (by omega)]; exact b3
          · rw [fr _ (by omega) (by omega) (by omega)]; exact b4
          · rw [fr _ (by omega) (by omega) (by omega)]; exact b5 c hc
          · rcases (by omega : n = 2 ∨ n = 3 ∨ n = 4) with rfl | rfl | rfl <;> omega
        have fr2 : ∀ j, j ≠ 3 → j ≠ 5 → j ≠ 6 → (j < 8 + 6 * p ∨ 8 + 6 * p + 6 ≤ j) → (j < 32 + 42 * p ∨ 32 + 42 * p + 42 ≤ j) → (j < 200 + 10 * ph ∨ 200 + 10 * ph + 10 ≤ j) → (j < 440 + 3 * wr ∨ 440 + 3 * wr + 3 ≤ j) → mStep f p j = f j := fun j a1 _ _ _ a5 _ _ => fr j a1 (by omega) (by omega)
        exact ⟨ph, wr, fin _ ph wr hph hwr (by rw [fr _ (by omega) (by omega) (by omega)]; exact h5) (by rw [fr _ (by omega) (by omega) (by omega)]; exact h6) (Or.inr ⟨_, _, _, _, wq⟩) fr2, Or.inr ⟨_, _, _, _, wq⟩, fr2⟩
      · have hc : st % n = n - 1 := by omega
        have e := step_C hf0 hb hp4 hc
        have hdiv : (st + 1) / n = wh + 1 := by rcases (by omega : n = 2 ∨ n = 3 ∨ n = 4) with rfl | rfl | rfl <;> omega
        generalize hq : (if anyMv (mF4 f p (n - 1)) p n = true then lendG (mF5 f p n) p 0 n else none) = q at e
        have v0 : mF5 f p n (32 + 42 * p + 0) = nI kd := by unfold mF5; rw [cnt_out (by omega) hn, f4_o (by omega) (by omega) (by omega) (by omega)]; exact b1
        have v2 : mF5 f p n (32 + 42 * p + 2) = nI (st + 1) := by unfold mF5; rw [cnt_out (by omega) hn]; exact f4_2 b2
        have v4 : mF5 f p n (32 + 42 * p + 4) = nI (wh + 1) := by unfold mF5; rw [cnt_out (by omega) hn]; exact f4_4 b3
        have v5 : mF5 f p n (32 + 42 * p + 5) = nI 0 := by unfold mF5; rw [cnt_out (by omega) hn, f4_o (by omega) (by omega) (by omega) (by omega)]; exact b4
        have v6 : ∀ c, c < 4 → mF5 f p n (32 + 42 * p + 6 + c) = nI (if c < n ∧ mMv (mF4 f p (n - 1)) p c = true then mm c + 1 else mm c) := fun c hc => by
          unfold mF5
          rw [cnt_mv hn hc, f4_o (by omega) (by omega) (by omega) (by omega), b5 c hc]
          split
          · exact nI_add _ _
          · rfl
        have g0 : mF5 f p n 0 = nI n := by rw [f5_o (by omega) hn (by omega) (by omega)]; exact h0
        have g1 : mF5 f p n 1 = nI mv := by rw [f5_o (by omega) hn (by omega) (by omega)]; exact h1
        have g5 : mF5 f p n 5 = nI ph := by rw [f5_o (by omega) hn (by omega) (by omega)]; exact h5
        have g6 : mF5 f p n 6 = nI wr := by rw [f5_o (by omega) hn (by omega) (by omega)]; exact h6
        have fr2 : ∀ j, j ≠ 3 → j ≠ 5 → j ≠ 6 → (j < 8 + 6 * p ∨ 8 + 6 * p + 6 ≤ j) → (j < 32 + 42 * p ∨ 32 + 42 * p + 42 ≤ j) → (j < 200 + 10 * ph ∨ 200 + 10 * ph + 10 ≤ j) → (j < 440 + 3 * wr ∨ 440 + 3 * wr + 3 ≤ j) → mF5 f p n j = f j := fun j a1 _ _ _ a5 _ _ => f5_o (by omega) hn a1 a5
        by_cases hw : wh = 0 ∨ (anyMv (mF4 f p (n - 1)) p n = true ∧ q = none)
        · rw [if_pos hw] at e
          rw [e]
          have wq : WPb (mF5 f p n) n mv p kd (st + 1) (wh + 1) 0 (fun c => if c < n ∧ mMv (mF4 f p (n - 1)) p c = true then mm c + 1 else mm c) := by
            refine ⟨v0, v2, v4, v5, v6, b6, Or.inl ⟨rfl, hdiv, fun c hc => ?_, fun c hc => ?_, ?_⟩⟩
            · by_cases hcn : c < n ∧ mMv (mF4 f p (n - 1)) p c = true
              · dsimp only
                rw [if_pos hcn]
                rcases hw with hw | ⟨ha, hw⟩
                · have := anyMv_no n (anyMv_f (f := mF4 f p (n - 1)) (p := p) (by rw [f4_4 b3, hw]; decide) n) c hcn.1
                  rw [this] at hcn
                  exact absurd hcn.2 (by decide)
                · rw [← hq, if_pos ha] at hw
                  have h7 := lendG_none n 0 hw c (by omega) (by omega)
                  rw [g1, v6 c hc, if_pos hcn] at h7
                  have := b9 c hc
                  exact Nat.not_le.mp (fun h => h7 (nI_le h (by omega)))
              · dsimp only
                rw [if_neg hcn]; exact b9 c hc
            · dsimp only
              rw [if_neg (by omega)]; exact b10 c hc
            · rcases hw with hw | ⟨ha, hw⟩
              · omega
              · obtain ⟨c, hc1, hc2⟩ := anyMv_ex n ha
                have key : ∀ x, mm x ≤ (if x < n ∧ mMv (mF4 f p (n - 1)) p x = true then mm x + 1 else mm x) := fun x => by split <;> omega
                have kc : mm c + 1 ≤ (if c < n ∧ mMv (mF4 f p (n - 1)) p c = true then mm c + 1 else mm c) := by rw [if_pos ⟨hc1, hc2⟩]; exact Nat.le_refl _
                dsimp only
                have k0 := key 0; have k1 := key 1; have k2 := key 2; have k3 := key 3
                rcases (by omega : c = 0 ∨ c = 1 ∨ c = 2 ∨ c = 3) with rfl | rfl | rfl | rfl <;> omega
          exact ⟨ph, wr, fin _ ph wr hph hwr g5 g6 (Or.inr ⟨_, _, _, _, wq⟩) fr2, Or.inr ⟨_, _, _, _, wq⟩, fr2⟩
        · rw [if_neg hw] at e
          have t5 := takes_5 (p := p) (q := q) g0 hn g5 hph
          have fr3 : ∀ j, j ≠ 3 → j ≠ 5 → j ≠ 6 → (j < 8 + 6 * p ∨ 8 + 6 * p + 6 ≤ j) → (j < 32 + 42 * p ∨ 32 + 42 * p + 42 ≤ j) → (j < 200 + 10 * ph ∨ 200 + 10 * ph + 10 ≤ j) → (j < 440 + 3 * wr ∨ 440 + 3 * wr + 3 ≤ j) → mTakes (mF5 f p n) p q j = f j := fun j a1 a2 a3 a4 a5 a6 a7 => by
            rw [takes_o g0 hn g5 hph (by omega) (by omega) a2 (by omega)]; exact fr2 j a1 a2 a3 a4 a5 a6 a7
          have t6 : mTakes (mF5 f p n) p q 6 = nI wr := by rw [takes_o g0 hn g5 hph (by omega) (by omega) (by omega) (by omega)]; exact g6
          by_cases hk : kd = 1
          · rw [if_pos hk] at e
            rw [e]
            have wi : WPi (mIdles (mTakes (mF5 f p n) p q) p) p := fun i hi => idl_i (by omega) (by omega)
            have fr4 : ∀ j, j ≠ 3 → j ≠ 5 → j ≠ 6 → (j < 8 + 6 * p ∨ 8 + 6 * p + 6 ≤ j) → (j < 32 + 42 * p ∨ 32 + 42 * p + 42 ≤ j) → (j < 200 + 10 * ph ∨ 200 + 10 * ph + 10 ≤ j) → (j < 440 + 3 * wr ∨ 440 + 3 * wr + 3 ≤ j) → mIdles (mTakes (mF5 f p n) p q) p j = f j := fun j a1 a2 a3 a4 a5 a6 a7 => by
              rw [idl_o a5]; exact fr3 j a1 a2 a3 a4 a5 a6 a7
            exact ⟨_, wr, fin _ (if ph < 24 then ph + 1 else ph) wr (by split <;> omega) hwr (by rw [idl_o (by omega)]; exact t5) (by rw [idl_o (by omega)]; exact t6) (Or.inl wi) fr4, Or.inl wi, fr4⟩
          · rw [if_neg hk] at e
            rw [e]
            have wq : WPb (mTakes (mF5 f p n) p q) n mv p kd (st + 1) (wh + 1) 1 (fun c => if c < n ∧ mMv (mF4 f p (n - 1)) p c = true then mm c + 1 else mm c) := by
              refine ⟨?_, ?_, ?_, takes_h, fun c hc => ?_, b6, Or.inr ⟨rfl, by omega, by omega, by omega⟩⟩
              · rw [takes_o g0 hn g5 hph (by omega) (by omega) (by omega) (by omega)]; exact v0
              · rw [takes_o g0 hn g5 hph (by omega) (by omega) (by omega) (by omega)]; exact v2
              · rw [takes_o g0 hn g5 hph (by omega) (by omega) (by omega) (by omega)]; exact v4
              · rw [takes_o g0 hn g5 hph (by omega) (by omega) (by omega) (by omega)]; exact v6 c hc
            exact ⟨_, wr, fin _ (if ph < 24 then ph + 1 else ph) wr (by split <;> omega) hwr t5 t6 (Or.inr ⟨_, _, _, _, wq⟩) fr3, Or.inr ⟨_, _, _, _, wq⟩, fr3⟩
    · exact absurd b7.1 (by omega)
  · have e := step_A hb hp4
    rw [e]
    have g6 : mS2 f p 6 = nI wr := by rw [s2_0 (by omega) (by omega)]; exact h6
    have wi : WPi (mWrite (mS2 f p) p) p := fun i hi => by dsimp only [mWrite]; exact idl_i (by omega) (by omega)
    have fr4 : ∀ j, j ≠ 3 → j ≠ 5 → j ≠ 6 → (j < 8 + 6 * p ∨ 8 + 6 * p + 6 ≤ j) → (j < 32 + 42 * p ∨ 32 + 42 * p + 42 ≤ j) → (j < 200 + 10 * ph ∨ 200 + 10 * ph + 10 ≤ j) → (j < 440 + 3 * wr ∨ 440 + 3 * wr + 3 ≤ j) → mWrite (mS2 f p) p j = f j := fun j a1 a2 a3 a4 a5 a6 a7 => by
      rw [wr_o g6 hwr hp4 a4 a5 a7 a3, s2_0 a1 (by omega)]
    exact ⟨ph, _, fin _ ph (if wr < 24 then wr + 1 else wr) hph (by split <;> omega) (by rw [wr_o g6 hwr hp4 (by omega) (by omega) (by omega) (by omega), s2_0 (by omega) (by omega)]; exact h5) (wr_6 g6 hwr hp4) (Or.inl wi) fr4, Or.inl wi, fr4⟩
