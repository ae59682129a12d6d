/-! the class's world: pictures -/
theorem r_getE {p : Program} {l : Launch} {e : Env} {R : Room} {s : State} {m : MethodId} {args : Array Value} {below : List Frame} {meth : Method} {c : Code} {H : Heap} {locs : List Loc} {cells slots : Nat} {Q : State → Prop} {g : GG} {A : Nat → Prop} {cc : ByteArray} {nL : Nat} {own : String} {rt : Option FieldType} {d : Nat} {pc : Nat} {ls : Array Slot} {rest : List Value} {ws : va_W} (K : Cx p l R s m args meth c g A cc nL own rt d) (h : Hp g A s H locs ws) {idx ci k : Nat} (ff : FFd own idx ci k) (q0 : Nat) {a : Nat} {fs : List Value} {v v' : Value} (he : ws[q0]? = some (a, .inr (ci, fs))) (hv : fs[k]? = some v) (hvv : v = v') (dd : decode cc pc = .ok (.getfield idx, 3)) (kk : W p l e R s m args below meth c H locs cells slots Q (F0 m (pc + 3) ls (v' :: rest))) : W p l e R s m args below meth c H locs cells slots Q (F0 m pc ls (.ref a :: rest)) := r_get K h ff q0 he hv dd (by rw [hvv]; exact kk)
abbrev aR (g : GG) (t a n : Nat) (f : Nat → Option Nat) : Nat × va_E := (a, .inl (g.2 t, n, .inr (.inr (.inr (.inr f)))))
abbrev oWor (a : Nat → Nat) (kw : Row) : Nat × va_E := (a 0, .inr (4, [.int (kw 0), .int (kw 1), .int (kw 2), .int (kw 3), .int (kw 4), .ref (a 1), .ref (a 5), .ref (a 38), .ref (a 40)]))
def verB (w v : Int32) : Int32 := if w = 0 then v + nI 1 else (v + nI 1) - (v + nI 1) / w * w
def ifU (b : Bool) (f : Row) (i : Nat) (x : Int32) : Row := bif b then upd f i x else f
def up1 (b : Bool) (n : Nat) : Nat := bif b then n + 1 else n
/-- what a step of one writer touches -/
abbrev soW (g : GG) (a : Nat → Nat) (kw fv fe fw : Row) (fa : Nat → Option Nat) (asz : Int32) (fx : Row) (hsz : Int32) (ti pls wv th : Row) (b : Nat → Nat) (k pv mv ah rv rs rw : Row) : va_W :=
  [oWor a kw, oCells (a 1) (a 2) (a 3) (a 4), aI g (a 2) 4 fv, aI g (a 3) 4 fe, aI g (a 4) 16 fw, aR g 2 (a 5) 4 fa, oAlb (a 38) (a 39) asz, aI g (a 39) 264 fx, oHis (a 40) (a 41) (a 42) (a 43) (a 44) hsz, aI g (a 41) 24 ti, aI g (a 42) 24 pls, aI g (a 43) 24 wv, aI g (a 44) 4 th,
   oAct b k, aI g (b 1) 4 pv, aI g (b 2) 4 mv, aI g (b 3) 4 ah, oCells (b 4) (b 5) (b 6) (b 7), aI g (b 5) 4 rv, aI g (b 6) 4 rs, aI g (b 7) 16 rw]
abbrev wW (g : GG) (a : Nat → Nat) (V : Nat → Row) : va_W :=
  [oWor a (V 0), oCells (a 1) (a 2) (a 3) (a 4), aI g (a 2) 4 (V 2), aI g (a 3) 4 (V 3), aI g (a 4) 16 (V 4), aR g 2 (a 5) 4 (fun i => some (a (6 + 8 * i))), (a 6, .inr (0, [.int (V 6 0), .int (V 6 1), .int (V 6 2), .int (V 6 3), .int (V 6 4), .int (V 6 5), .int (V 6 6), .int (V 6 7), .ref (a 7), .ref (a 8), .ref (a 9), .ref (a 10)])), aI g (a 7) 4 (V 7), aI g (a 8) 4 (V 8), aI g (a 9) 4 (V 9), oCells (a 10) (a 11) (a 12) (a 13), aI g (a 11) 4 (V 11), aI g (a 12) 4 (V 12), aI g (a 13) 16 (V 13), (a 14, .inr (0, [.int (V 14 0), .int (V 14 1), .int (V 14 2), .int (V 14 3), .int (V 14 4), .int (V 14 5), .int (V 14 6), .int (V 14 7), .ref (a 15), .ref (a 16), .ref (a 17), .ref (a 18)])), aI g (a 15) 4 (V 15), aI g (a 16) 4 (V 16), aI g (a 17) 4 (V 17), oCells (a 18) (a 19) (a 20) (a 21), aI g (a 19) 4 (V 19), aI g (a 20) 4 (V 20), aI g (a 21) 16 (V 21), (a 22, .inr (0, [.int (V 22 0), .int (V 22 1), .int (V 22 2), .int (V 22 3), .int (V 22 4), .int (V 22 5), .int (V 22 6), .int (V 22 7), .ref (a 23), .ref (a 24), .ref (a 25), .ref (a 26)])), aI g (a 23) 4 (V 23), aI g (a 24) 4 (V 24), aI g (a 25) 4 (V 25), oCells (a 26) (a 27) (a 28) (a 29), aI g (a 27) 4 (V 27), aI g (a 28) 4 (V 28), aI g (a 29) 16 (V 29), (a 30, .inr (0, [.int (V 30 0), .int (V 30 1), .int (V 30 2), .int (V 30 3), .int (V 30 4), .int (V 30 5), .int (V 30 6), .int (V 30 7), .ref (a 31), .ref (a 32), .ref (a 33), .ref (a 34)])), aI g (a 31) 4 (V 31), aI g (a 32) 4 (V 32), aI g (a 33) 4 (V 33), oCells (a 34) (a 35) (a 36) (a 37), aI g (a 35) 4 (V 35), aI g (a 36) 4 (V 36), aI g (a 37) 16 (V 37), oAlb (a 38) (a 39) (V 38 0), aI g (a 39) 264 (V 39), oHis (a 40) (a 41) (a 42) (a 43) (a 44) (V 40 0), aI g (a 41) 24 (V 41), aI g (a 42) 24 (V 42), aI g (a 43) 24 (V 43), aI g (a 44) 4 (V 44)]
def setB (V : Nat → Row) (j : Nat) (r : Row) : Nat → Row := fun i => bif Nat.beq i j then r else V i
/-- a new world: n, moves, wrap -/
def cRes (V : Nat → Row) (n mv wr : Int32) : Nat → Row := fun j => match j with
  | 0 => fun i => match i with
    | 0 => n
    | 1 => mv
    | 2 => wr
    | _ => 0
  | 6 => kB (nI 0) (-9) (nI 0)
  | 14 => kB (nI 0) (-9) (nI 0)
  | 22 => kB (nI 0) (-9) (nI 0)
  | 30 => kB (nI 0) (-9) (nI 0)
  | 39 => V 39
  | 41 => V 41
  | 42 => V 42
  | 43 => V 43
  | 44 => V 44
  | _ => z0
theorem setB_eq {V : Nat → Row} {j : Nat} {r : Row} : setB V j r j = r := by
  unfold setB; rw [Nat.beq_refl]; rfl
theorem setB_ne {V : Nat → Row} {i j : Nat} {r : Row} (h : i ≠ j) : setB V j r i = V i := by
  unfold setB
  have : Nat.beq i j = false := by
    cases e : Nat.beq i j with
    | false => rfl
    | true => exact absurd (Nat.eq_of_beq_eq_true e) h
  rw [this]; rfl
/-- a contract over more cells, the changed ones told by their places -/
theorem Ct.frameG {l : Launch} {g : GG} {y : MethodName} {cc : ByteArray} {n : Nat} {rt : Option FieldType} {d : Nat} {av : List Value} {w0 ws ws' : va_W} {ans : Option Value} {w1 : va_W} (h : Ct l g y cc n rt d av w0 ans w1) (isC isR : List Nat) (N : Nat) (hn : va_nd isC = true) (hC : isC.map (fun i => ws[i]?) = w0.map some) (hC' : isC.map (fun i => ws'[i]?) = w1.map some) (hR : isR.map (fun i => ws'[i]?) = isR.map (fun i => ws[i]?)) (hN : ws'.length = N) (hcov : (List.range N).all (fun k => isC.contains k || isR.contains k) = true) (hdis : isR.all (fun k => !isC.contains k) = true) : Ct l g y cc n rt d av ws ans ws' := by
  intro sz
  refine (h sz).mono ?_ ?_ (fun q hq => va_A_sub hC hq)
  · rintro a s ⟨h1, h2, h3, h4, h5⟩
    exact ⟨h1, h2, fun k q hk => by obtain ⟨i, -, h6⟩ := map_at hC hk; exact h3 i q h6, h4, h5.sub isC hn hC⟩
  · rintro a s o t ⟨-, h2, h3, -, h5⟩ ⟨⟨q1, q2⟩, q3⟩
    subst h2
    refine ⟨⟨q1, fun k q hk => ?_⟩, q3.1, fun q a b => q3.2 q a (fun z => b (va_A_sub hC z))⟩
    have hkN : k < N := by rw [← hN]; exact (List.getElem?_eq_some_iff.mp hk).1
    have hc := List.all_eq_true.mp hcov k (List.mem_range.mpr hkN)
    rw [Bool.or_eq_true] at hc
    by_cases hin : k ∈ isC
    · obtain ⟨j, hj⟩ := List.getElem?_of_mem hin
      have e : (isC.map (fun i => ws'[i]?))[j]? = some (some q) := by rw [List.getElem?_map, hj]; exact congrArg some hk
      rw [hC', List.getElem?_map] at e
      cases hw : w1[j]? with
      | none => rw [hw] at e; cases e
      | some x => rw [hw] at e; cases e; exact q2 j q hw
    · have hr : k ∈ isR := by
        rcases hc with hc | hc
        · exact absurd (List.contains_iff_mem.mp hc) hin
        · exact List.contains_iff_mem.mp hc
      obtain ⟨j, hj⟩ := List.getElem?_of_mem hr
      have e : (isR.map (fun i => ws'[i]?))[j]? = some (some q) := by rw [List.getElem?_map, hj]; exact congrArg some hk
      rw [hR, List.getElem?_map, hj] at e
      have hws : ws[k]? = some q := Option.some.inj e
      have hat := h3 k q hws
      refine hat.kept (q3.2 q.1 hat.lt (fun z => ?_))
      rcases z with ⟨k2, e2, h6⟩ | h6
      · obtain ⟨i, h7, h8⟩ := map_at hC h6
        have hki := h5.1 k i q (q.1, e2) hws h8 rfl
        exact hin (by rw [hki]; exact List.mem_of_getElem? h7)
      · have := hat.lt; omega
