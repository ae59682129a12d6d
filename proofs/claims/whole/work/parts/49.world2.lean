/-! permutations by counting -/
theorem perm_cnt {l1 l2 : va_W} (h : ∀ (c : va_W → Nat), (∀ x y, c (x ++ y) = c x + c y) → c l1 = c l2) : l1.Perm l2 := by
  haveI : DecidableEq (Nat × va_E) := Classical.typeDecidableEq _
  exact List.perm_iff_count.mpr (fun q => h (fun l => l.count q) (fun x y => List.count_append ..))
/-- the parts of a world's picture -/
def sA (g : GG) (a : Nat → Nat) (V : Nat → Row) : va_W := [oWor a (V 0)]
def sC (g : GG) (a : Nat → Nat) (V : Nat → Row) : va_W := [oCells (a 1) (a 2) (a 3) (a 4), aI g (a 2) 4 (V 2), aI g (a 3) 4 (V 3), aI g (a 4) 16 (V 4)]
def sR (g : GG) (a : Nat → Nat) : va_W := [aR g 2 (a 5) 4 (fun i => some (a (6 + 8 * i)))]
def sT (g : GG) (a : Nat → Nat) (V : Nat → Row) (i : Nat) : va_W := actW g (fun j => a (6 + 8 * i + j)) (V (6 + 8 * i)) (V (7 + 8 * i)) (V (8 + 8 * i)) (V (9 + 8 * i)) (V (11 + 8 * i)) (V (12 + 8 * i)) (V (13 + 8 * i))
def sL (g : GG) (a : Nat → Nat) (V : Nat → Row) : va_W := [oAlb (a 38) (a 39) (V 38 0), aI g (a 39) 264 (V 39)]
def sH (g : GG) (a : Nat → Nat) (V : Nat → Row) : va_W := [oHis (a 40) (a 41) (a 42) (a 43) (a 44) (V 40 0), aI g (a 41) 24 (V 41), aI g (a 42) 24 (V 42), aI g (a 43) 24 (V 43), aI g (a 44) 4 (V 44)]
theorem wW_seg (g : GG) (a : Nat → Nat) (V : Nat → Row) : wW g a V = sA g a V ++ (sC g a V ++ (sR g a ++ (sT g a V 0 ++ (sT g a V 1 ++ (sT g a V 2 ++ (sT g a V 3 ++ (sL g a V ++ sH g a V))))))) := rfl
def cCop (V V2 : Nat → Row) (ph wr : Nat) : Nat → Row := fun j => match j with
  | 39 => va_cpy (V2 39) (V 39) 0 0 (ph * 11)
  | 41 => va_cpy (V2 41) (V 41) 0 0 wr
  | 42 => va_cpy (V2 42) (V 42) 0 0 wr
  | 43 => va_cpy (V2 43) (V 43) 0 0 wr
  | 44 => V 44
  | _ => V2 j
def cMix (V V2 : Nat → Row) (k : Nat) : Nat → Row := fun j => bif Nat.blt j k then V2 j else V j
def cCoq (V V2 : Nat → Row) (ph : Nat) : Nat → Row := fun j => match j with
  | 39 => va_cpy (V2 39) (V 39) 0 0 (ph * 11)
  | 40 => V 40
  | 41 => V 41
  | 42 => V 42
  | 43 => V 43
  | 44 => V 44
  | _ => V2 j
set_option maxHeartbeats 4000000 in
set_option maxRecDepth 100000 in
theorem c_cop_ce (l : Launch) (g : GG) (a a2 : Nat → Nat) (V V2 : Nat → Row) : Ct l g yX2_copyFrom cX2_copyFrom 2 none 2 [.ref (a 1), .ref (a2 1)] (wW g a (cMix V V2 1) ++ wW g a2 V2) none (wW g a (cMix V V2 6) ++ wW g a2 V2) := by
  have q0 := c_X2_copyFrom l g (a 1) (a 2) (a 3) (a 4) (a2 1) (a2 2) (a2 3) (a2 4) (V 2) (V 3) (V 4) (V2 2) (V2 3) (V2 4)
  refine Ct.frameP q0 (sA g a V2 ++ (sR g a ++ (sT g a V 0 ++ (sT g a V 1 ++ (sT g a V 2 ++ (sT g a V 3 ++ (sL g a V ++ (sH g a V ++ (sA g a2 V2 ++ (sR g a2 ++ (sT g a2 V2 0 ++ (sT g a2 V2 1 ++ (sT g a2 V2 2 ++ (sT g a2 V2 3 ++ (sL g a2 V2 ++ (sH g a2 V2)))))))))))))))) (perm_cnt fun c hc => ?_) (perm_cnt fun c hc => ?_)
  · show c ((sA g a V2 ++ (sC g a V ++ (sR g a ++ (sT g a V 0 ++ (sT g a V 1 ++ (sT g a V 2 ++ (sT g a V 3 ++ (sL g a V ++ (sH g a V))))))))) ++ (sA g a2 V2 ++ (sC g a2 V2 ++ (sR g a2 ++ (sT g a2 V2 0 ++ (sT g a2 V2 1 ++ (sT g a2 V2 2 ++ (sT g a2 V2 3 ++ (sL g a2 V2 ++ (sH g a2 V2)))))))))) = c ((sC g a V ++ sC g a2 V2) ++ (sA g a V2 ++ (sR g a ++ (sT g a V 0 ++ (sT g a V 1 ++ (sT g a V 2 ++ (sT g a V 3 ++ (sL g a V ++ (sH g a V ++ (sA g a2 V2 ++ (sR g a2 ++ (sT g a2 V2 0 ++ (sT g a2 V2 1 ++ (sT g a2 V2 2 ++ (sT g a2 V2 3 ++ (sL g a2 V2 ++ (sH g a2 V2)))))))))))))))))
    simp only [hc]; omega
  · show c ((sA g a V2 ++ (sC g a V2 ++ (sR g a ++ (sT g a V 0 ++ (sT g a V 1 ++ (sT g a V 2 ++ (sT g a V 3 ++ (sL g a V ++ (sH g a V))))))))) ++ (sA g a2 V2 ++ (sC g a2 V2 ++ (sR g a2 ++ (sT g a2 V2 0 ++ (sT g a2 V2 1 ++ (sT g a2 V2 2 ++ (sT g a2 V2 3 ++ (sL g a2 V2 ++ (sH g a2 V2)))))))))) = c ((sC g a V2 ++ sC g a2 V2) ++ (sA g a V2 ++ (sR g a ++ (sT g a V 0 ++ (sT g a V 1 ++ (sT g a V 2 ++ (sT g a V 3 ++ (sL g a V ++ (sH g a V ++ (sA g a2 V2 ++ (sR g a2 ++ (sT g a2 V2 0 ++ (sT g a2 V2 1 ++ (sT g a2 V2 2 ++ (sT g a2 V2 3 ++ (sL g a2 V2 ++ (sH g a2 V2)))))))))))))))))
    simp only [hc]; omega
set_option maxHeartbeats 4000000 in
set_option maxRecDepth 100000 in
theorem c_cop_a0 (l : Launch) (g : GG) (a a2 : Nat → Nat) (V V2 : Nat → Row) (hz : V2 6 6 = nI 0 ∨ V2 6 6 = nI 1) : Ct l g yX0_copyFrom cX0_copyFrom 2 none 3 [.ref (a 6), .ref (a2 6)] (wW g a (cMix V V2 6) ++ wW g a2 V2) none (wW g a (cMix V V2 14) ++ wW g a2 V2) := by
  have q0 := c_X0_copyFrom l g (fun j => a (6 + j)) (fun j => a2 (6 + j)) (V 6) (V 7) (V 8) (V 9) (V 11) (V 12) (V 13) (V2 6) (V2 7) (V2 8) (V2 9) (V2 11) (V2 12) (V2 13) hz
  refine Ct.frameP q0 (sA g a V2 ++ (sC g a V2 ++ (sR g a ++ (sT g a V 1 ++ (sT g a V 2 ++ (sT g a V 3 ++ (sL g a V ++ (sH g a V ++ (sA g a2 V2 ++ (sC g a2 V2 ++ (sR g a2 ++ (sT g a2 V2 1 ++ (sT g a2 V2 2 ++ (sT g a2 V2 3 ++ (sL g a2 V2 ++ (sH g a2 V2)))))))))))))))) (perm_cnt fun c hc => ?_) (perm_cnt fun c hc => ?_)
  · show c ((sA g a V2 ++ (sC g a V2 ++ (sR g a ++ (sT g a V 0 ++ (sT g a V 1 ++ (sT g a V 2 ++ (sT g a V 3 ++ (sL g a V ++ (sH g a V))))))))) ++ (sA g a2 V2 ++ (sC g a2 V2 ++ (sR g a2 ++ (sT g a2 V2 0 ++ (sT g a2 V2 1 ++ (sT g a2 V2 2 ++ (sT g a2 V2 3 ++ (sL g a2 V2 ++ (sH g a2 V2)))))))))) = c ((sT g a V 0 ++ sT g a2 V2 0) ++ (sA g a V2 ++ (sC g a V2 ++ (sR g a ++ (sT g a V 1 ++ (sT g a V 2 ++ (sT g a V 3 ++ (sL g a V ++ (sH g a V ++ (sA g a2 V2 ++ (sC g a2 V2 ++ (sR g a2 ++ (sT g a2 V2 1 ++ (sT g a2 V2 2 ++ (sT g a2 V2 3 ++ (sL g a2 V2 ++ (sH g a2 V2)))))))))))))))))
    simp only [hc]; omega
  · show c ((sA g a V2 ++ (sC g a V2 ++ (sR g a ++ (sT g a V2 0 ++ (sT g a V 1 ++ (sT g a V 2 ++ (sT g a V 3 ++ (sL g a V ++ (sH g a V))))))))) ++ (sA g a2 V2 ++ (sC g a2 V2 ++ (sR g a2 ++ (sT g a2 V2 0 ++ (sT g a2 V2 1 ++ (sT g a2 V2 2 ++ (sT g a2 V2 3 ++ (sL g a2 V2 ++ (sH g a2 V2)))))))))) = c ((sT g a V2 0 ++ sT g a2 V2 0) ++ (sA g a V2 ++ (sC g a V2 ++ (sR g a ++ (sT g a V 1 ++ (sT g a V 2 ++ (sT g a V 3 ++ (sL g a V ++ (sH g a V ++ (sA g a2 V2 ++ (sC g a2 V2 ++ (sR g a2 ++ (sT g a2 V2 1 ++ (sT g a2 V2 2 ++ (sT g a2 V2 3 ++ (sL g a2 V2 ++ (sH g a2 V2)))))))))))))))))
    simp only [hc]; omega
set_option maxHeartbeats 4000000 in
set_option maxRecDepth 100000 in
theorem c_cop_a1 (l : Launch) (g : GG) (a a2 : Nat → Nat) (V V2 : Nat → Row) (hz : V2 14 6 = nI 0 ∨ V2 14 6 = nI 1) : Ct l g yX0_copyFrom cX0_copyFrom 2 none 3 [.ref (a 14), .ref (a2 14)] (wW g a (cMix V V2 14) ++ wW g a2 V2) none (wW g a (cMix V V2 22) ++ wW g a2 V2) := by
  have q0 := c_X0_copyFrom l g (fun j => a (14 + j)) (fun j => a2 (14 + j)) (V 14) (V 15) (V 16) (V 17) (V 19) (V 20) (V 21) (V2 14) (V2 15) (V2 16) (V2 17) (V2 19) (V2 20) (V2 21) hz
  refine Ct.frameP q0 (sA g a V2 ++ (sC g a V2 ++ (sR g a ++ (sT g a V2 0 ++ (sT g a V 2 ++ (sT g a V 3 ++ (sL g a V ++ (sH g a V ++ (sA g a2 V2 ++ (sC g a2 V2 ++ (sR g a2 ++ (sT g a2 V2 0 ++ (sT g a2 V2 2 ++ (sT g a2 V2 3 ++ (sL g a2 V2 ++ (sH g a2 V2)))))))))))))))) (perm_cnt fun c hc => ?_) (perm_cnt fun c hc => ?_)
  · show c ((sA g a V2 ++ (sC g a V2 ++ (sR g a ++ (sT g a V2 0 ++ (sT g a V 1 ++ (sT g a V 2 ++ (sT g a V 3 ++ (sL g a V ++ (sH g a V))))))))) ++ (sA g a2 V2 ++ (sC g a2 V2 ++ (sR g a2 ++ (sT g a2 V2 0 ++ (sT g a2 V2 1 ++ (sT g a2 V2 2 ++ (sT g a2 V2 3 ++ (sL g a2 V2 ++ (sH g a2 V2)))))))))) = c ((sT g a V 1 ++ sT g a2 V2 1) ++ (sA g a V2 ++ (sC g a V2 ++ (sR g a ++ (sT g a V2 0 ++ (sT g a V 2 ++ (sT g a V 3 ++ (sL g a V ++ (sH g a V ++ (sA g a2 V2 ++ (sC g a2 V2 ++ (sR g a2 ++ (sT g a2 V2 0 ++ (sT g a2 V2 2 ++ (sT g a2 V2 3 ++ (sL g a2 V2 ++ (sH g a2 V2)))))))))))))))))
    simp only [hc]; omega
  · show c ((sA g a V2 ++ (sC g a V2 ++ (sR g a ++ (sT g a V2 0 ++ (sT g a V2 1 ++ (sT g a V 2 ++ (sT g a V 3 ++ (sL g a V ++ (sH g a V))))))))) ++ (sA g a2 V2 ++ (sC g a2 V2 ++ (sR g a2 ++ (sT g a2 V2 0 ++ (sT g a2 V2 1 ++ (sT g a2 V2 2 ++ (sT g a2 V2 3 ++ (sL g a2 V2 ++ (sH g a2 V2)))))))))) = c ((sT g a V2 1 ++ sT g a2 V2 1) ++ (sA g a V2 ++ (sC g a V2 ++ (sR g a ++ (sT g a V2 0 ++ (sT g a V 2 ++ (sT g a V 3 ++ (sL g a V ++ (sH g a V ++ (sA g a2 V2 ++ (sC g a2 V2 ++ (sR g a2 ++ (sT g a2 V2 0 ++ (sT g a2 V2 2 ++ (sT g a2 V2 3 ++ (sL g a2 V2 ++ (sH g a2 V2)))))))))))))))))
    simp only [hc]; omega
set_option maxHeartbeats 4000000 in
set_option maxRecDepth 100000 in
theorem c_cop_a2 (l : Launch) (g : GG) (a a2 : Nat → Nat) (V V2 : Nat → Row) (hz : V2 22 6 = nI 0 ∨ V2 22 6 = nI 1) : Ct l g yX0_copyFrom cX0_copyFrom 2 none 3 [.ref (a 22), .ref (a2 22)] (wW g a (cMix V V2 22) ++ wW g a2 V2) none (wW g a (cMix V V2 30) ++ wW g a2 V2) := by
  have q0 := c_X0_copyFrom l g (fun j => a (22 + j)) (fun j => a2 (22 + j)) (V 22) (V 23) (V 24) (V 25) (V 27) (V 28) (V 29) (V2 22) (V2 23) (V2 24) (V2 25) (V2 27) (V2 28) (V2 29) hz
  refine Ct.frameP q0 (sA g a V2 ++ (sC g a V2 ++ (sR g a ++ (sT g a V2 0 ++ (sT g a V2 1 ++ (sT g a V 3 ++ (sL g a V ++ (sH g a V ++ (sA g a2 V2 ++ (sC g a2 V2 ++ (sR g a2 ++ (sT g a2 V2 0 ++ (sT g a2 V2 1 ++ (sT g a2 V2 3 ++ (sL g a2 V2 ++ (sH g a2 V2)))))))))))))))) (perm_cnt fun c hc => ?_) (perm_cnt fun c hc => ?_)
  · show c ((sA g a V2 ++ (sC g a V2 ++ (sR g a ++ (sT g a V2 0 ++ (sT g a V2 1 ++ (sT g a V 2 ++ (sT g a V 3 ++ (sL g a V ++ (sH g a V))))))))) ++ (sA g a2 V2 ++ (sC g a2 V2 ++ (sR g a2 ++ (sT g a2 V2 0 ++ (sT g a2 V2 1 ++ (sT g a2 V2 2 ++ (sT g a2 V2 3 ++ (sL g a2 V2 ++ (sH g a2 V2)))))))))) = c ((sT g a V 2 ++ sT g a2 V2 2) ++ (sA g a V2 ++ (sC g a V2 ++ (sR g a ++ (sT g a V2 0 ++ (sT g a V2 1 ++ (sT g a V 3 ++ (sL g a V ++ (sH g a V ++ (sA g a2 V2 ++ (sC g a2 V2 ++ (sR g a2 ++ (sT g a2 V2 0 ++ (sT g a2 V2 1 ++ (sT g a2 V2 3 ++ (sL g a2 V2 ++ (sH g a2 V2)))))))))))))))))
    simp only [hc]; omega
  · show c ((sA g a V2 ++ (sC g a V2 ++ (sR g a ++ (sT g a V2 0 ++ (sT g a V2 1 ++ (sT g a V2 2 ++ (sT g a V 3 ++ (sL g a V ++ (sH g a V))))))))) ++ (sA g a2 V2 ++ (sC g a2 V2 ++ (sR g a2 ++ (sT g a2 V2 0 ++ (sT g a2 V2 1 ++ (sT g a2 V2 2 ++ (sT g a2 V2 3 ++ (sL g a2 V2 ++ (sH g a2 V2)))))))))) = c ((sT g a V2 2 ++ sT g a2 V2 2) ++ (sA g a V2 ++ (sC g a V2 ++ (sR g a ++ (sT g a V2 0 ++ (sT g a V2 1 ++ (sT g a V 3 ++ (sL g a V ++ (sH g a V ++ (sA g a2 V2 ++ (sC g a2 V2 ++ (sR g a2 ++ (sT g a2 V2 0 ++ (sT g a2 V2 1 ++ (sT g a2 V2 3 ++ (sL g a2 V2 ++ (sH g a2 V2)))))))))))))))))
    simp only [hc]; omega
set_option maxHeartbeats 4000000 in
set_option maxRecDepth 100000 in
theorem c_cop_a3 (l : Launch) (g : GG) (a a2 : Nat → Nat) (V V2 : Nat → Row) (hz : V2 30 6 = nI 0 ∨ V2 30 6 = nI 1) : Ct l g yX0_copyFrom cX0_copyFrom 2 none 3 [.ref (a 30), .ref (a2 30)] (wW g a (cMix V V2 30) ++ wW g a2 V2) none (wW g a (cMix V V2 38) ++ wW g a2 V2) := by
  have q0 := c_X0_copyFrom l g (fun j => a (30 + j)) (fun j => a2 (30 + j)) (V 30) (V 31) (V 32) (V 33) (V 35) (V 36) (V 37) (V2 30) (V2 31) (V2 32) (V2 33) (V2 35) (V2 36) (V2 37) hz
  refine Ct.frameP q0 (sA g a V2 ++ (sC g a V2 ++ (sR g a ++ (sT g a V2 0 ++ (sT g a V2 1 ++ (sT g a V2 2 ++ (sL g a V ++ (sH g a V ++ (sA g a2 V2 ++ (sC g a2 V2 ++ (sR g a2 ++ (sT g a2 V2 0 ++ (sT g a2 V2 1 ++ (sT g a2 V2 2 ++ (sL g a2 V2 ++ (sH g a2 V2)))))))))))))))) (perm_cnt fun c hc => ?_) (perm_cnt fun c hc => ?_)
  · show c ((sA g a V2 ++ (sC g a V2 ++ (sR g a ++ (sT g a V2 0 ++ (sT g a V2 1 ++ (sT g a V2 2 ++ (sT g a V 3 ++ (sL g a V ++ (sH g a V))))))))) ++ (sA g a2 V2 ++ (sC g a2 V2 ++ (sR g a2 ++ (sT g a2 V2 0 ++ (sT g a2 V2 1 ++ (sT g a2 V2 2 ++ (sT g a2 V2 3 ++ (sL g a2 V2 ++ (sH g a2 V2)))))))))) = c ((sT g a V 3 ++ sT g a2 V2 3) ++ (sA g a V2 ++ (sC g a V2 ++ (sR g a ++ (sT g a V2 0 ++ (sT g a V2 1 ++ (sT g a V2 2 ++ (sL g a V ++ (sH g a V ++ (sA g a2 V2 ++ (sC g a2 V2 ++ (sR g a2 ++ (sT g a2 V2 0 ++ (sT g a2 V2 1 ++ (sT g a2 V2 2 ++ (sL g a2 V2 ++ (sH g a2 V2)))))))))))))))))
    simp only [hc]; omega
  · show c ((sA g a V2 ++ (sC g a V2 ++ (sR g a ++ (sT g a V2 0 ++ (sT g a V2 1 ++ (sT g a V2 2 ++ (sT g a V2 3 ++ (sL g a V ++ (sH g a V))))))))) ++ (sA g a2 V2 ++ (sC g a2 V2 ++ (sR g a2 ++ (sT g a2 V2 0 ++ (sT g a2 V2 1 ++ (sT g a2 V2 2 ++ (sT g a2 V2 3 ++ (sL g a2 V2 ++ (sH g a2 V2)))))))))) = c ((sT g a V2 3 ++ sT g a2 V2 3) ++ (sA g a V2 ++ (sC g a V2 ++ (sR g a ++ (sT g a V2 0 ++ (sT g a V2 1 ++ (sT g a V2 2 ++ (sL g a V ++ (sH g a V ++ (sA g a2 V2 ++ (sC g a2 V2 ++ (sR g a2 ++ (sT g a2 V2 0 ++ (sT g a2 V2 1 ++ (sT g a2 V2 2 ++ (sL g a2 V2 ++ (sH g a2 V2)))))))))))))))))
    simp only [hc]; omega
set_option maxHeartbeats 4000000 in
set_option maxRecDepth 100000 in
theorem c_cop_al (l : Launch) (g : GG) (a a2 : Nat → Nat) (V V2 : Nat → Row) (ph : Nat) (hph : ph ≤ 24) (h38 : V2 38 0 = nI ph) : Ct l g yX1_copyFrom cX1_copyFrom 2 none 1 [.ref (a 38), .ref (a2 38)] (wW g a (cMix V V2 38) ++ wW g a2 V2) none (wW g a (cCoq V V2 ph) ++ wW g a2 V2) := by
  have q38 := c_X1_copyFrom l g (a 38) (a 39) (a2 38) (a2 39) (V 38 0) (V 39) (V2 39) ph hph
  rw [← h38] at q38
  have q0 := q38
  refine Ct.frameP q0 (sA g a V2 ++ (sC g a V2 ++ (sR g a ++ (sT g a V2 0 ++ (sT g a V2 1 ++ (sT g a V2 2 ++ (sT g a V2 3 ++ (sH g a V ++ (sA g a2 V2 ++ (sC g a2 V2 ++ (sR g a2 ++ (sT g a2 V2 0 ++ (sT g a2 V2 1 ++ (sT g a2 V2 2 ++ (sT g a2 V2 3 ++ (sH g a2 V2)))))))))))))))) (perm_cnt fun c hc => ?_) (perm_cnt fun c hc => ?_)
  · show c ((sA g a V2 ++ (sC g a V2 ++ (sR g a ++ (sT g a V2 0 ++ (sT g a V2 1 ++ (sT g a V2 2 ++ (sT g a V2 3 ++ (sL g a V ++ (sH g a V))))))))) ++ (sA g a2 V2 ++ (sC g a2 V2 ++ (sR g a2 ++ (sT g a2 V2 0 ++ (sT g a2 V2 1 ++ (sT g a2 V2 2 ++ (sT g a2 V2 3 ++ (sL g a2 V2 ++ (sH g a2 V2)))))))))) = c ((sL g a V ++ sL g a2 V2) ++ (sA g a V2 ++ (sC g a V2 ++ (sR g a ++ (sT g a V2 0 ++ (sT g a V2 1 ++ (sT g a V2 2 ++ (sT g a V2 3 ++ (sH g a V ++ (sA g a2 V2 ++ (sC g a2 V2 ++ (sR g a2 ++ (sT g a2 V2 0 ++ (sT g a2 V2 1 ++ (sT g a2 V2 2 ++ (sT g a2 V2 3 ++ (sH g a2 V2)))))))))))))))))
    simp only [hc]; omega
  · show c ((sA g a V2 ++ (sC g a V2 ++ (sR g a ++ (sT g a V2 0 ++ (sT g a V2 1 ++ (sT g a V2 2 ++ (sT g a V2 3 ++ (sL g a (cCoq V V2 ph) ++ (sH g a V))))))))) ++ (sA g a2 V2 ++ (sC g a2 V2 ++ (sR g a2 ++ (sT g a2 V2 0 ++ (sT g a2 V2 1 ++ (sT g a2 V2 2 ++ (sT g a2 V2 3 ++ (sL g a2 V2 ++ (sH g a2 V2)))))))))) = c ((sL g a (cCoq V V2 ph) ++ sL g a2 V2) ++ (sA g a V2 ++ (sC g a V2 ++ (sR g a ++ (sT g a V2 0 ++ (sT g a V2 1 ++ (sT g a V2 2 ++ (sT g a V2 3 ++ (sH g a V ++ (sA g a2 V2 ++ (sC g a2 V2 ++ (sR g a2 ++ (sT g a2 V2 0 ++ (sT g a2 V2 1 ++ (sT g a2 V2 2 ++ (sT g a2 V2 3 ++ (sH g a2 V2)))))))))))))))))
    simp only [hc]; omega
set_option maxHeartbeats 4000000 in
set_option maxRecDepth 100000 in
theorem c_cop_hi (l : Launch) (g : GG) (a a2 : Nat → Nat) (V V2 : Nat → Row) (ph wr : Nat) (hwr : wr ≤ 24) (h40 : V2 40 0 = nI wr) : Ct l g yX3_copyFrom cX3_copyFrom 2 none 1 [.ref (a 40), .ref (a2 40)] (wW g a (cCoq V V2 ph) ++ wW g a2 V2) none (wW g a (cCop V V2 ph wr) ++ wW g a2 V2) := by
  have q40 := c_X3_copyFrom l g (a 40) (a 41) (a 42) (a 43) (a 44) (a2 40) (a2 41) (a2 42) (a2 43) (a2 44) (V 40 0) (V 41) (V 42) (V 43) (V 44) (V2 41) (V2 42) (V2 43) (V2 44) wr hwr
  rw [← h40] at q40
  have q0 := q40
  refine Ct.frameP q0 (sA g a V2 ++ (sC g a V2 ++ (sR g a ++ (sT g a V2 0 ++ (sT g a V2 1 ++ (sT g a V2 2 ++ (sT g a V2 3 ++ (sL g a (cCoq V V2 ph) ++ (sA g a2 V2 ++ (sC g a2 V2 ++ (sR g a2 ++ (sT g a2 V2 0 ++ (sT g a2 V2 1 ++ (sT g a2 V2 2 ++ (sT g a2 V2 3 ++ (sL g a2 V2)))))))))))))))) (perm_cnt fun c hc => ?_) (perm_cnt fun c hc => ?_)
  · show c ((sA g a V2 ++ (sC g a V2 ++ (sR g a ++ (sT g a V2 0 ++ (sT g a V2 1 ++ (sT g a V2 2 ++ (sT g a V2 3 ++ (sL g a (cCoq V V2 ph) ++ (sH g a V))))))))) ++ (sA g a2 V2 ++ (sC g a2 V2 ++ (sR g a2 ++ (sT g a2 V2 0 ++ (sT g a2 V2 1 ++ (sT g a2 V2 2 ++ (sT g a2 V2 3 ++ (sL g a2 V2 ++ (sH g a2 V2)))))))))) = c ((sH g a V ++ sH g a2 V2) ++ (sA g a V2 ++ (sC g a V2 ++ (sR g a ++ (sT g a V2 0 ++ (sT g a V2 1 ++ (sT g a V2 2 ++ (sT g a V2 3 ++ (sL g a (cCoq V V2 ph) ++ (sA g a2 V2 ++ (sC g a2 V2 ++ (sR g a2 ++ (sT g a2 V2 0 ++ (sT g a2 V2 1 ++ (sT g a2 V2 2 ++ (sT g a2 V2 3 ++ (sL g a2 V2)))))))))))))))))
    simp only [hc]; omega
  · show c ((sA g a V2 ++ (sC g a V2 ++ (sR g a ++ (sT g a V2 0 ++ (sT g a V2 1 ++ (sT g a V2 2 ++ (sT g a V2 3 ++ (sL g a (cCoq V V2 ph) ++ (sH g a (cCop V V2 ph wr)))))))))) ++ (sA g a2 V2 ++ (sC g a2 V2 ++ (sR g a2 ++ (sT g a2 V2 0 ++ (sT g a2 V2 1 ++ (sT g a2 V2 2 ++ (sT g a2 V2 3 ++ (sL g a2 V2 ++ (sH g a2 V2)))))))))) = c ((sH g a (cCop V V2 ph wr) ++ sH g a2 V2) ++ (sA g a V2 ++ (sC g a V2 ++ (sR g a ++ (sT g a V2 0 ++ (sT g a V2 1 ++ (sT g a V2 2 ++ (sT g a V2 3 ++ (sL g a (cCoq V V2 ph) ++ (sA g a2 V2 ++ (sC g a2 V2 ++ (sR g a2 ++ (sT g a2 V2 0 ++ (sT g a2 V2 1 ++ (sT g a2 V2 2 ++ (sT g a2 V2 3 ++ (sL g a2 V2)))))))))))))))))
    simp only [hc]; omega
