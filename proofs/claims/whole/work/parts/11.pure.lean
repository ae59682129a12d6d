/-! truth values, and small pure words -/
def bI (b : Bool) : Int32 := nI (if b then 1 else 0)
theorem bI_0 {b : Bool} : bI b = 0 ↔ b = false := by cases b <;> decide
theorem bI_n0 {b : Bool} : ¬ bI b = 0 ↔ b = true := by cases b <;> decide
theorem narB (b : Bool) : narrow .boolean (.int (bI b)) = .int (bI b) := by cases b <;> rfl
def inB (v lo hi : Int32) : Bool := decide (lo ≤ v ∧ v ≤ hi)
section BROWS
variable {p : Program} {l : Launch} {e : Env} {R : Room} {s : State} {m : MethodId} {args : Array Value} {below : List Frame} {meth : Method} {c : Code} {H : Heap} {locs : List Loc} {cells slots : Nat} {Q : State → Prop}
variable {g : GG} {A : Nat → Prop} {cc : ByteArray} {nL : Nat} {own : String} {rt : Option FieldType} {d : Nat} {pc : Nat} {ls : Array Slot} {rest : List Value}
theorem r_zeqB (K : Cx p l R s m args meth c g A cc nL own rt d) {b : Bool} {off : Int} (tgt : Nat) (dd : decode cc pc = .ok (.ifCond .eq off, 3)) (ht : (pc : Int) + off = (tgt : Int)) (kt : b = false → W p l e R s m args below meth c H locs cells slots Q (F0 m tgt ls rest)) (kf : b = true → W p l e R s m args below meth c H locs cells slots Q (F0 m (pc + 3) ls rest)) : W p l e R s m args below meth c H locs cells slots Q (F0 m pc ls (.int (bI b) :: rest)) := r_zeq K tgt dd ht (fun h => kt (bI_0.mp h)) (fun h => kf (bI_n0.mp h))
theorem r_zneB (K : Cx p l R s m args meth c g A cc nL own rt d) {b : Bool} {off : Int} (tgt : Nat) (dd : decode cc pc = .ok (.ifCond .ne off, 3)) (ht : (pc : Int) + off = (tgt : Int)) (kt : b = true → W p l e R s m args below meth c H locs cells slots Q (F0 m tgt ls rest)) (kf : b = false → W p l e R s m args below meth c H locs cells slots Q (F0 m (pc + 3) ls rest)) : W p l e R s m args below meth c H locs cells slots Q (F0 m pc ls (.int (bI b) :: rest)) := r_zne K tgt dd ht (fun h => kt (bI_n0.mp h)) (fun h => kf (bI_0.mp h))
end BROWS
/-- a nest mate's link -/
theorem nnX2_27 : ∀ U, NS U → va_Nw (.methodLinkNest RX2 27 yX5_copyAll RX5) U := fun _ h => h.2.2.2.2.2.1
theorem nnX0_63 : ∀ U, NS U → va_Nw (.methodLinkNest RX0 63 yX5_copyAll RX5) U := fun _ h => h.2.2.2.2.2.2
/-! the reference's row, a function of its places -/
abbrev Row : Type := Nat → Int32
abbrev aI (g : GG) (a n : Nat) (f : Row) : Nat × va_E := (a, .inl (g.2 0, n, .inl f))
def mBares (n mv wr : Int32) : Row := upd (upd (upd (fun _ => 0) 0 n) 1 mv) 2 wr
def wAt (p : Nat) : Nat := 32 + 42 * p
def mIdles (f : Row) (p : Nat) : Row := fun j => if 32 + 42 * p ≤ j ∧ j < 32 + 42 * p + 42 then 0 else f j
