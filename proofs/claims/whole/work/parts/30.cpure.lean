/-! the class's pictures, and frames of contracts -/
theorem Met.mono {l : Launch} {y : MethodName} {ws : List Cond} {rm : Room} {Pc Pc' : Array Value → State → Prop} {Qc Qc' : Array Value → State → Outcome → State → Prop} {mc ms : Nat} {free free' : Addr → Prop} (h : Met l y ws rm Pc Qc mc ms free) (hP : ∀ a s, Pc' a s → Pc a s) (hQ : ∀ a s o t, Pc' a s → Qc a s o t → Qc' a s o t) (hf : ∀ q, free q → free' q) : Met l y ws rm Pc' Qc' mc ms free' := by
  intro p e h1 h2 h3 s m args below h4 h5 h6 h7
  obtain ⟨n, o, a1, a2, a3, a4, L, a5, a6⟩ := h p e h1 h2 h3 s m args below h4 h5 (hP _ _ h6) h7
  exact ⟨n, o, a1, a2, a3, hQ _ _ _ _ h6 a4, L, a5, fun q hq => hf _ (a6 q hq)⟩
theorem va_A_sub {ws w0 : va_W} {isC : List Nat} {sz q : Nat} (hC : isC.map (fun i => ws[i]?) = w0.map some) (h : va_A w0 sz q) : va_A ws sz q := by
  rcases h with ⟨k, e, hk⟩ | h
  · obtain ⟨i, -, h2⟩ := map_at hC hk
    exact Or.inl ⟨i, e, h2⟩
  · exact Or.inr h
/-- a contract over more cells than it needs -/
theorem Ct.frame {l : Launch} {g : GG} {y : MethodName} {cc : ByteArray} {n : Nat} {rt : Option FieldType} {d : Nat} {av : List Value} {w0 ws : va_W} {ans : Option Value} {w1 : va_W} (h : Ct l g y cc n rt d av w0 ans w1) (isC : List Nat) (hn : va_nd isC = true) (hC : isC.map (fun i => ws[i]?) = w0.map some) (hs : w1.map Prod.fst = w0.map Prod.fst) {ws' : va_W} (hws : putAt ws isC w1 = ws') : Ct l g y cc n rt d av ws ans ws' := by
  intro sz
  refine (h sz).mono ?_ ?_ (fun q hq => va_A_sub hC hq)
  · rintro a s ⟨h1, h2, h3, h4, h5⟩
    exact ⟨h1, h2, fun k q hk => by obtain ⟨i, -, h6⟩ := map_at hC hk; exact h3 i q h6, h4, h5.sub isC hn hC⟩
  · rintro a s o t ⟨-, h2, h3, -, h5⟩ ⟨⟨q1, q2⟩, q3⟩
    subst h2
    have hh : Hp g (va_A ws s.heap.size) s s.heap [] ws := ⟨h3, h5.self, va_S.rf⟩
    have hb := hh.back (H1 := t.heap) (locs1 := []) isC hC hs q2 (fun q a b => q3.2 q a b) ⟨q3.1, fun q a b => q3.2 q a (fun z => b (va_A_sub hC z)), fun _ z => by cases z⟩
    rw [hws] at hb
    exact ⟨⟨q1, hb.1⟩, q3.1, fun q a b => q3.2 q a (fun z => b (va_A_sub hC z))⟩
theorem CtE.frame {S : Type} {l : Launch} {g : GG} {y : MethodName} {cc : ByteArray} {n : Nat} {rt : Option FieldType} {d : Nat} {av : List Value} {w0 ws : va_W} {ans : Option Value} {w1 : S → va_W} (h : CtE l g y cc n rt d av w0 ans w1) (isC : List Nat) (hn : va_nd isC = true) (hC : isC.map (fun i => ws[i]?) = w0.map some) (hs : ∀ u, (w1 u).map Prod.fst = w0.map Prod.fst) {ws' : S → va_W} (hws : ∀ u, putAt ws isC (w1 u) = ws' u) : CtE l g y cc n rt d av ws ans ws' := by
  intro sz
  refine (h sz).mono ?_ ?_ (fun q hq => va_A_sub hC hq)
  · rintro a s ⟨h1, h2, h3, h4, h5⟩
    exact ⟨h1, h2, fun k q hk => by obtain ⟨i, -, h6⟩ := map_at hC hk; exact h3 i q h6, h4, h5.sub isC hn hC⟩
  · rintro a s o t ⟨-, h2, h3, -, h5⟩ ⟨⟨q1, u, q2⟩, q3⟩
    subst h2
    have hh : Hp g (va_A ws s.heap.size) s s.heap [] ws := ⟨h3, h5.self, va_S.rf⟩
    have hb := hh.back (H1 := t.heap) (locs1 := []) isC hC (hs u) q2 (fun q a b => q3.2 q a b) ⟨q3.1, fun q a b => q3.2 q a (fun z => b (va_A_sub hC z)), fun _ z => by cases z⟩
    rw [hws u] at hb
    exact ⟨⟨q1, u, hb.1⟩, q3.1, fun q a b => q3.2 q a (fun z => b (va_A_sub hC z))⟩
/-- what is told of the answer and the picture may be told otherwise -/
theorem Ct.cast {l : Launch} {g : GG} {y : MethodName} {cc : ByteArray} {n : Nat} {rt : Option FieldType} {d : Nat} {av : List Value} {w0 : va_W} {ans ans' : Option Value} {w1 w1' : va_W} (h : Ct l g y cc n rt d av w0 ans w1) (e1 : ans = ans') (e2 : w1 = w1') : Ct l g y cc n rt d av w0 ans' w1' := by subst e1; subst e2; exact h
/-- more depth may be told -/
theorem r_minS {p : Program} {l : Launch} {e : Env} {R : Room} {s : State} {m : MethodId} {args : Array Value} {below : List Frame} {meth : Method} {c : Code} {H : Heap} {locs : List Loc} {cells slots : Nat} {Q : State → Prop} {g : GG} {A : Nat → Prop} {cc : ByteArray} {nL : Nat} {own : String} {rt : Option FieldType} {d : Nat} {pc : Nat} {ls : Array Slot} {rest : List Value} {lv : List (Option Value)} (K : Cx p l R s m args meth c g A cc nL own rt d) (hl : Lq ls nL lv) {idx : Nat} {x : Int32} (hw : Cond.methodLink own idx Lib.Math.min.name ∈ BIG) (hd : 1 ≤ d) (hrest : (rest.map fun v => v.category).sum ≤ 8) (hc : cells ≤ R.cells) (hs : slots ≤ R.slots) (dd : decode cc pc = .ok (.invokestatic idx, 3)) (kk : W p l e R s m args below meth c H locs cells slots Q (F0 m (pc + 3) ls (.int x :: rest))) : W p l e R s m args below meth c H locs cells slots Q (F0 m pc ls (.int x :: .int x :: rest)) := r_min K hl hw hd hrest hc hs dd (by rw [ite_self]; exact kk)
abbrev oCells (x0 x1 x2 x3 : Nat) : Nat × va_E := (x0, .inr (2, [.ref x1, .ref x2, .ref x3]))
abbrev oAct (b : Nat → Nat) (k : Row) : Nat × va_E := (b 0, .inr (0, [.int (k 0), .int (k 1), .int (k 2), .int (k 3), .int (k 4), .int (k 5), .int (k 6), .int (k 7), .ref (b 1), .ref (b 2), .ref (b 3), .ref (b 4)]))
abbrev actW (g : GG) (b : Nat → Nat) (k ph mv ah rv rs rw : Row) : va_W := [oAct b k, aI g (b 1) 4 ph, aI g (b 2) 4 mv, aI g (b 3) 4 ah, oCells (b 4) (b 5) (b 6) (b 7), aI g (b 5) 4 rv, aI g (b 6) 4 rs, aI g (b 7) 16 rw]
def kB (kind v t : Int32) : Row := fun i => match i with
  | 0 => kind
  | 1 => v
  | 2 => t
  | 7 => -9
  | _ => 0
def z0 : Row := fun _ => 0
/-- moved in this collect -/
def cMv (mv rs ah : Row) (n : Nat) : Row := fun c => if c < n ∧ rs c ≠ ah c then mv c + nI 1 else mv c
def cAny (rs ah : Row) : Nat → Bool
  | 0 => false
  | k + 1 => cAny rs ah k || decide (rs k ≠ ah k)
def cLow (mv : Row) (m : Int32) : Nat → Nat → Option Nat
  | _, 0 => none
  | j, i + 1 => if m ≤ mv j then some j else cLow mv m (j + 1) i
theorem cLow_lt {mv : Row} {m : Int32} : ∀ (i j q : Nat), cLow mv m j i = some q → j ≤ q ∧ q < j + i
  | 0, _, _, h => by simp [cLow] at h
  | i + 1, j, q, h => by
    rw [cLow] at h
    split at h
    · cases h; omega
    · have := cLow_lt i (j + 1) q h; omega
theorem kBz (k : Row) (x : Int32) : True := trivial
