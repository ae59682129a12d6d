/-! truth values, and small pure words -/
def bI (b : Bool) : Int32 := nI (if b then 1 else 0)
theorem bI_0 {b : Bool} : bI b = 0 ↔ b = false := by cases b <;> decide
theorem bI_n0 {b : Bool} : ¬ bI b = 0 ↔ b = true := by cases b <;> decide
theorem narB (b : Bool) : narrow .boolean (.int (bI b)) = .int (bI b) := by cases b <;> rfl
def inB (v lo hi : Int32) : Bool := decide (lo ≤ v ∧ v ≤ hi)
section BROWS
variable {p : Program} {l : Launch} {e : Env} {R : Room} {s : State} {m : MethodId} {args : Array Value} {below : List Frame} {meth : Method} {c : Code} {H : Heap} {locs : List Loc} {cells slots : Nat} {Q : State → Prop}
variable {g : GG} {A : Nat → Prop} {cc : ByteArray} {nL : Nat} {own : String} {rt : Option FieldType} {d : Nat} {pc : Nat} {ls : Array Slot} {rest : List Value}
theorem r_zeqB (K : Cx p l R s m args meth c g A cc nL own rt d) {b : Bool} {off : Int} (tgt : Nat) (dd : decode cc pc = .ok (.ifCond .eq off, 3)) (ht : (pc : Int) + off = (tgt : Int)) (kt : b = false → W p l e R s m args below meth c H locs cells slots Q (F0 m tgt ls rest)) (kf : b = true → W p l e R s m args below meth c H locs cells slots Q (F0 m (pc + 3) ls rest)) : W p l e R s m args below meth c H locs cells slots Q (F0 m pc ls (.int (bI b) :: rest)) := r_zeq K tgt dd ht (fun h => kt (bI_0.mp h)) (fun h => kf (bI_n0.mp h))
theorem r_zneB (K : Cx p l R s m args meth c g A cc nL own rt d) {b : Bool} {off : Int} (tgt : Nat) (dd : decode cc pc = .ok (.ifCond .ne off, 3)) (ht : (pc : Int) + off = (tgt : Int)) (kt : b = true → W p l e R s m args below meth c H locs cells slots Q (F0 m tgt ls rest)) (kf : b = false → W p l e R s m args below meth c H locs cells slots Q (F0 m (pc + 3) ls rest)) : W p l e R s m args below meth c H locs cells slots Q (F0 m pc ls (.int (bI b) :: rest)) := r_zne K tgt dd ht (fun h => kt (bI_n0.mp h)) (fun h => kf (bI_0.mp h))
end BROWS
/-- a nest mate's link -/
theorem nnX2_27 : ∀ U, NS U → va_Nw (.methodLinkNest RX2 27 yX5_copyAll RX5) U := fun _ h => h.2.2.2.2.2.1
theorem nnX0_63 : ∀ U, NS U → va_Nw (.methodLinkNest RX0 63 yX5_copyAll RX5) U := fun _ h => h.2.2.2.2.2.2
/-! the reference's row, a function of its places -/
abbrev Row : Type := Nat → Int32
abbrev aI (g : GG) (a n : Nat) (f : Row) : Nat × va_E := (a, .inl (g.2 0, n, .inl f))
def mBares (n mv wr : Int32) : Row := upd (upd (upd (fun _ => 0) 0 n) 1 mv) 2 wr
def wAt (p : Nat) : Nat := 32 + 42 * p
def mIdles (f : Row) (p : Nat) : Row := fun j => if 32 + 42 * p ≤ j ∧ j < 32 + 42 * p + 42 then 0 else f j
theorem upd_ne {f : Row} {a b : Nat} {x : Int32} (h : b ≠ a) : upd f a x b = f b := pk_un h
theorem upd_self {f : Row} {a : Nat} {x : Int32} : upd f a x a = x := pk_us
theorem cpy_0 {f g : Row} {sp dp : Nat} : va_cpy f g sp dp 0 = g := by
  funext j; unfold va_cpy; rw [if_neg (by omega)]
theorem cpy_s {f g : Row} {sp dp k : Nat} : upd (va_cpy f g sp dp k) (dp + k) (f (sp + k)) = va_cpy f g sp dp (k + 1) := by
  funext j
  unfold upd va_cpy
  by_cases h : j = dp + k
  · subst h; rw [if_pos rfl, if_pos (by omega)]; congr 1; omega
  · rw [if_neg h]
    by_cases h2 : dp ≤ j ∧ j < dp + k
    · rw [if_pos h2, if_pos (by omega)]
    · rw [if_neg h2, if_neg (by omega)]
theorem cpy_o {f g : Row} {sp dp k j : Nat} (h : j < dp ∨ dp + k ≤ j) : va_cpy f g sp dp k j = g j := pk_cpy_out h
theorem cpy_i {f g : Row} {sp dp k j : Nat} (h : dp ≤ j) (h2 : j < dp + k) : va_cpy f g sp dp k j = f (sp + (j - dp)) := pk_cpy_in h h2
theorem idl_o {f : Row} {p j : Nat} (h : j < 32 + 42 * p ∨ 32 + 42 * p + 42 ≤ j) : mIdles f p j = f j := if_neg (by omega)
theorem idl_i {f : Row} {p j : Nat} (h : 32 + 42 * p ≤ j) (h2 : j < 32 + 42 * p + 42) : mIdles f p j = 0 := if_pos ⟨h, h2⟩
def mActs (f : Row) (p : Nat) (act v : Int32) : Row :=
  let g0 := mIdles f p
  let g1 := upd g0 (32 + 42 * p + 0) act
  let g2 := upd g1 (32 + 42 * p + 1) v
  let g3 := upd g2 (32 + 42 * p + 3) (g2 3)
  upd g3 4 (g3 4 + nI 1)
def rN (f : Row) : Nat := (f 0).toNatClampNeg
def rPh (f : Row) : Nat := (f 5).toNatClampNeg
def rWr (f : Row) : Nat := (f 6).toNatClampNeg
def rSt (f : Row) (p : Nat) : Nat := (f (32 + 42 * p + 2)).toNatClampNeg
def mWr1 (f : Row) (p : Nat) : Row :=
  let f1 := upd f (8 + 6 * p) (f (32 + 42 * p + 1))
  let f2 := upd f1 (8 + 6 * p + 1) (f1 (8 + 6 * p + 1) + nI 1)
  upd f2 (8 + 6 * p + 1) (if f2 2 = 0 then f2 (8 + 6 * p + 1) else f2 (8 + 6 * p + 1) - f2 (8 + 6 * p + 1) / f2 2 * f2 2)
def mEv (f : Row) (p : Nat) : Row :=
  let b := 440 + 3 * rWr f
  let f1 := upd f b (f 3)
  let f2 := upd f1 (b + 1) (nI p)
  let f3 := upd f2 (b + 2) (f2 (32 + 42 * p + 1))
  upd f3 6 (f3 6 + nI 1)
def mWrite (f : Row) (p : Nat) : Row :=
  let f3 := mWr1 f p
  let f4 := va_cpy f3 f3 (32 + 42 * p + 38) (8 + 6 * p + 2) 4
  mIdles (if rWr f < 24 then mEv f4 p else f4) p
def lentI : Option Nat → Int32
  | none => -9
  | some q => nI q
def mSrc (f : Row) (p : Nat) (q : Option Nat) (k : Nat) : Int32 := match q with
  | none => f (32 + 42 * p + 14 + 6 * k)
  | some q => f (32 + 42 * p + 14 + 6 * q + 2 + k)
def mTk (f : Row) (p : Nat) (q : Option Nat) (n : Nat) : Row := fun j => if 32 + 42 * p + 38 ≤ j ∧ j < 32 + 42 * p + 38 + n then mSrc f p q (j - (32 + 42 * p + 38)) else f j
def mPho (f : Row) (p : Nat) (q : Option Nat) : Row :=
  let b := 200 + 10 * rPh f
  let f1 := upd f b (nI p)
  let f2 := upd f1 (b + 1) (f1 (32 + 42 * p + 3))
  let f3 := upd f2 (b + 2) (f2 3)
  let f4 := upd f3 (b + 3) (f3 (32 + 42 * p + 2))
  let f5 := upd f4 (b + 4) (lentI q)
  let f6 := upd f5 (b + 5) (if f5 (32 + 42 * p + 0) = nI 2 then nI 1 else nI 0)
  let f7 := va_cpy f6 f6 (32 + 42 * p + 38) (b + 6) 4
  upd f7 5 (f7 5 + nI 1)
def mTakes (f : Row) (p : Nat) (q : Option Nat) : Row :=
  let f1 := mTk f p q (rN f)
  upd (if rPh f < 24 then mPho f1 p q else f1) (32 + 42 * p + 5) (nI 1)
/-- whether cell c has moved in the whole collect -/
def mMv (f : Row) (p c : Nat) : Bool := decide (nI 1 < f (32 + 42 * p + 4)) && decide (f (32 + 42 * p + 14 + 6 * c + 1) ≠ f (32 + 42 * p + 10 + c))
def anyMv (f : Row) (p : Nat) : Nat → Bool
  | 0 => false
  | k + 1 => anyMv f p k || mMv f p k
def mCnt (f : Row) (p k : Nat) : Row := fun j => if 32 + 42 * p + 10 ≤ j ∧ j < 32 + 42 * p + 10 + k then f (32 + 42 * p + 14 + 6 * (j - (32 + 42 * p + 10)) + 1) else if 32 + 42 * p + 6 ≤ j ∧ j < 32 + 42 * p + 6 + k ∧ mMv f p (j - (32 + 42 * p + 6)) = true then f j + nI 1 else f j
def lendG (f : Row) (p : Nat) : Nat → Nat → Option Nat
  | _, 0 => none
  | j, i + 1 => if f 1 ≤ f (32 + 42 * p + 6 + j) then some j else lendG f p (j + 1) i
def mLend (f : Row) (p : Nat) : Option Nat := lendG f p 0 (rN f)
theorem lendG_lt {f : Row} {p : Nat} : ∀ (i j q : Nat), lendG f p j i = some q → j ≤ q ∧ q < j + i
  | 0, _, _, h => by simp [lendG] at h
  | i + 1, j, q, h => by
    rw [lendG] at h
    split at h
    · cases h; omega
    · have := lendG_lt i (j + 1) q h; omega
def mRead (f : Row) (p c : Nat) : Row := va_cpy f f (8 + 6 * c) (32 + 42 * p + 14 + 6 * c) 6
def mS2 (f : Row) (p : Nat) : Row :=
  let f1 := upd f 3 (f 3 + nI 1)
  upd f1 (32 + 42 * p + 2) (f1 (32 + 42 * p + 2) + nI 1)
/-- behind a whole collect -/
def mWhole (f : Row) (p : Nat) : Row :=
  let f4 := upd f (32 + 42 * p + 4) (f (32 + 42 * p + 4) + nI 1)
  let f5 := mCnt f4 p (rN f)
  let is := anyMv f4 p (rN f)
  let q := if is then mLend f5 p else none
  if f5 (32 + 42 * p + 4) = nI 1 ∨ (is = true ∧ q = none) then f5 else
  let f6 := mTakes f5 p q
  if f6 (32 + 42 * p + 0) = nI 1 then mIdles f6 p else f6
def mStep (f : Row) (p : Nat) : Row :=
  let f2 := mS2 f p
  if f2 (32 + 42 * p + 5) = nI 1 then mWrite f2 p else
  let c := rSt f p % rN f
  let f3 := mRead f2 p c
  if c < rN f - 1 then f3 else mWhole f3 p
