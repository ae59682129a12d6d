/-! the class's whole picture: eight cells of its own, nine worlds -/
def WSf (F : Nat → va_W) : va_W := F 0 ++ (F 1 ++ (F 2 ++ (F 3 ++ (F 4 ++ (F 5 ++ (F 6 ++ (F 7 ++ F 8)))))))
def WS (g : GG) (wa : Nat → Nat → Nat) (V : Nat → Nat → Row) : va_W := WSf (fun k => wW g (wa k) (V k))
abbrev oLV (b : Nat → Nat) (wa : Nat → Nat → Nat) (pn pk sc : Int32) : Nat × va_E := (b 0, .inr (5, [.ref (wa 0 0), .ref (wa 1 0), .ref (b 1), .int pn, .int pk, .ref (b 2), .ref (b 3), .ref (b 4), .ref (b 5), .ref (b 6), .int sc, .ref (b 7)]))
abbrev lvB (g : GG) (b : Nat → Nat) (wa : Nat → Nat → Nat) (pn pk sc : Int32) (fk sa sb sr rb : Row) : va_W :=
  [oLV b wa pn pk sc, aR g 3 (b 1) 5 (fun i => some (wa (2 + i) 0)), aR g 3 (b 2) 2 (fun i => some (wa (7 + i) 0)), aZ g (b 3) 2 fk, aI g (b 4) 6 sa, aI g (b 5) 6 sb, aI g (b 6) 6 sr, aI g (b 7) 4 rb]
abbrev lvW (g : GG) (b : Nat → Nat) (wa : Nat → Nat → Nat) (pn pk sc : Int32) (fk sa sb sr rb : Row) (V : Nat → Nat → Row) : va_W := lvB g b wa pn pk sc fk sa sb sr rb ++ WS g wa V
def setV (V : Nat → Nat → Row) (i : Nat) (X : Nat → Row) : Nat → Nat → Row := fun k => bif Nat.beq k i then X else V k
theorem setV_eq {V : Nat → Nat → Row} {i : Nat} {X : Nat → Row} : setV V i X i = X := by unfold setV; rw [Nat.beq_refl]; rfl
theorem setV_ne {V : Nat → Nat → Row} {i k : Nat} {X : Nat → Row} (h : k ≠ i) : setV V i X k = V k := by
  unfold setV
  have : Nat.beq k i = false := by
    cases e : Nat.beq k i with
    | false => rfl
    | true => exact absurd (Nat.eq_of_beq_eq_true e) h
  rw [this]; rfl
def rmF (F : Nat → va_W) (i : Nat) : Nat → va_W := fun k => bif Nat.beq k i then [] else F k
theorem rmF_ne {F : Nat → va_W} {i k : Nat} (h : k ≠ i) : rmF F i k = F k := by
  unfold rmF
  have : Nat.beq k i = false := by
    cases e : Nat.beq k i with
    | false => rfl
    | true => exact absurd (Nat.eq_of_beq_eq_true e) h
  rw [this]; rfl
theorem rmF_eq {F : Nat → va_W} {i : Nat} : rmF F i i = [] := by unfold rmF; rw [Nat.beq_refl]; rfl
theorem cnt_rm (c : va_W → Nat) (hc : ∀ x y, c (x ++ y) = c x + c y) (F : Nat → va_W) {i : Nat} (hi : i < 9) : c (WSf F) = c (F i) + c (WSf (rmF F i)) := by
  have h0 : c [] = 0 := by have := hc [] []; rw [List.append_nil] at this; omega
  unfold WSf
  simp only [hc]
  rcases (by omega : i = 0 ∨ i = 1 ∨ i = 2 ∨ i = 3 ∨ i = 4 ∨ i = 5 ∨ i = 6 ∨ i = 7 ∨ i = 8) with rfl | rfl | rfl | rfl | rfl | rfl | rfl | rfl | rfl <;> rw [rmF_eq, h0] <;> simp only [rmF_ne (show (0 : Nat) ≠ 1 by omega), rmF_ne (show (0 : Nat) ≠ 2 by omega), rmF_ne (show (0 : Nat) ≠ 3 by omega), rmF_ne (show (0 : Nat) ≠ 4 by omega), rmF, Nat.beq, cond] <;> omega
theorem rm_set {g : GG} {wa : Nat → Nat → Nat} {V : Nat → Nat → Row} {i : Nat} {X : Nat → Row} : rmF (fun k => wW g (wa k) (setV V i X k)) i = rmF (fun k => wW g (wa k) (V k)) i := by
  funext k
  by_cases e : k = i
  · subst e; rw [rmF_eq, rmF_eq]
  · rw [rmF_ne e, rmF_ne e, setV_ne e]
/-- a call of one world -/
theorem wc1 {l : Launch} {g : GG} {y : MethodName} {cc : ByteArray} {n : Nat} {rt : Option FieldType} {d : Nat} {av : List Value} {ans : Option Value} {wa : Nat → Nat → Nat} {V : Nat → Nat → Row} {X : Nat → Row} (i : Nat) (hi : i < 9) (h : Ct l g y cc n rt d av (wW g (wa i) (V i)) ans (wW g (wa i) X)) (B : va_W) : Ct l g y cc n rt d av (B ++ WS g wa V) ans (B ++ WS g wa (setV V i X)) := by
  refine h.frameP (B ++ WSf (rmF (fun k => wW g (wa k) (V k)) i)) (perm_cnt fun c hc => ?_) (perm_cnt fun c hc => ?_)
  · rw [hc, hc, hc, WS, cnt_rm c hc _ hi]; omega
  · rw [hc, hc, hc, WS, cnt_rm c hc _ hi, rm_set]
    rw [setV_eq]; omega
theorem wc1E {S : Type} {l : Launch} {g : GG} {y : MethodName} {cc : ByteArray} {n : Nat} {rt : Option FieldType} {d : Nat} {av : List Value} {ans : Option Value} {wa : Nat → Nat → Nat} {V : Nat → Nat → Row} {X : S → Nat → Row} (i : Nat) (hi : i < 9) (h : CtE l g y cc n rt d av (wW g (wa i) (V i)) ans (fun u => wW g (wa i) (X u))) (B : va_W) : CtE l g y cc n rt d av (B ++ WS g wa V) ans (fun u => B ++ WS g wa (setV V i (X u))) := by
  refine h.frameP (B ++ WSf (rmF (fun k => wW g (wa k) (V k)) i)) (perm_cnt fun c hc => ?_) (fun u => ⟨u, perm_cnt fun c hc => ?_⟩)
  · rw [hc, hc, hc, WS, cnt_rm c hc _ hi]; omega
  · rw [hc, hc, hc, WS, cnt_rm c hc _ hi, rm_set]
    rw [setV_eq]; omega
/-- a call of one world that changes nothing -/
theorem wc0 {l : Launch} {g : GG} {y : MethodName} {cc : ByteArray} {n : Nat} {rt : Option FieldType} {d : Nat} {av : List Value} {ans : Option Value} {wa : Nat → Nat → Nat} {V : Nat → Nat → Row} (i : Nat) (hi : i < 9) (h : Ct l g y cc n rt d av (wW g (wa i) (V i)) ans (wW g (wa i) (V i))) (B : va_W) : Ct l g y cc n rt d av (B ++ WS g wa V) ans (B ++ WS g wa V) := by
  refine h.frameP (B ++ WSf (rmF (fun k => wW g (wa k) (V k)) i)) (perm_cnt fun c hc => ?_) (perm_cnt fun c hc => ?_) <;>
  · rw [hc, hc, hc, WS, cnt_rm c hc _ hi]; omega
/-- a call of one world with another as its argument -/
theorem wc2 {l : Launch} {g : GG} {y : MethodName} {cc : ByteArray} {n : Nat} {rt : Option FieldType} {d : Nat} {av : List Value} {ans : Option Value} {wa : Nat → Nat → Nat} {V : Nat → Nat → Row} {X : Nat → Row} (i j : Nat) (hi : i < 9) (hj : j < 9) (hij : j ≠ i) (h : Ct l g y cc n rt d av (wW g (wa i) (V i) ++ wW g (wa j) (V j)) ans (wW g (wa i) X ++ wW g (wa j) (V j))) (B : va_W) : Ct l g y cc n rt d av (B ++ WS g wa V) ans (B ++ WS g wa (setV V i X)) := by
  refine h.frameP (B ++ WSf (rmF (rmF (fun k => wW g (wa k) (V k)) i) j)) (perm_cnt fun c hc => ?_) (perm_cnt fun c hc => ?_)
  · rw [hc, hc, hc, hc, WS, cnt_rm c hc _ hi, cnt_rm c hc (rmF _ i) hj, rmF_ne hij]
    omega
  · rw [hc, hc, hc, hc, WS, cnt_rm c hc _ hi, rm_set, cnt_rm c hc (rmF _ i) hj, rmF_ne hij]
    rw [setV_eq]; omega
theorem WS_fst (g : GG) (wa : Nat → Nat → Nat) (V V' : Nat → Nat → Row) : (WS g wa V').map Prod.fst = (WS g wa V).map Prod.fst := by
  unfold WS WSf
  simp only [List.map_append]
  rfl
theorem lv_fst {g : GG} {wa : Nat → Nat → Nat} {V V' : Nat → Nat → Row} {B B' : va_W} (h : B'.map Prod.fst = B.map Prod.fst) : (B' ++ WS g wa V').map Prod.fst = (B ++ WS g wa V).map Prod.fst := by
  rw [List.map_append, List.map_append, h, WS_fst g wa V V']
theorem lvx_at {g : GG} {wa : Nat → Nat → Nat} {V : Nat → Nat → Row} {x0 x1 x2 x3 x4 x5 x6 x7 : Nat × va_E} (i : Nat) (hi : i < 9) : ([x0, x1, x2, x3, x4, x5, x6, x7] ++ WS g wa V)[8 + 45 * i]? = some (oWor (wa i) (V i 0)) := by
  rcases (by omega : i = 0 ∨ i = 1 ∨ i = 2 ∨ i = 3 ∨ i = 4 ∨ i = 5 ∨ i = 6 ∨ i = 7 ∨ i = 8) with rfl | rfl | rfl | rfl | rfl | rfl | rfl | rfl | rfl <;> rfl
