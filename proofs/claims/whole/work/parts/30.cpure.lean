/-! the class's pictures, and frames of contracts -/
theorem Met.mono {l : Launch} {y : MethodName} {ws : List Cond} {rm : Room} {Pc Pc' : Array Value → State → Prop} {Qc Qc' : Array Value → State → Outcome → State → Prop} {mc ms : Nat} {free free' : Addr → Prop} (h : Met l y ws rm Pc Qc mc ms free) (hP : ∀ a s, Pc' a s → Pc a s) (hQ : ∀ a s o t, Pc' a s → Qc a s o t → Qc' a s o t) (hf : ∀ q, free q → free' q) : Met l y ws rm Pc' Qc' mc ms free' := by
  intro p e h1 h2 h3 s m args below h4 h5 h6 h7
  obtain ⟨n, o, a1, a2, a3, a4, L, a5, a6⟩ := h p e h1 h2 h3 s m args below h4 h5 (hP _ _ h6) h7
  exact ⟨n, o, a1, a2, a3, hQ _ _ _ _ h6 a4, L, a5, fun q hq => hf _ (a6 q hq)⟩
theorem va_A_sub {ws w0 : va_W} {isC : List Nat} {sz q : Nat} (hC : isC.map (fun i => ws[i]?) = w0.map some) (h : va_A w0 sz q) : va_A ws sz q := by
  rcases h with ⟨k, e, hk⟩ | h
  · obtain ⟨i, -, h2⟩ := map_at hC hk
    exact Or.inl ⟨i, e, h2⟩
  · exact Or.inr h
/-- a contract over more cells than it needs -/
theorem Ct.frame {l : Launch} {g : GG} {y : MethodName} {cc : ByteArray} {n : Nat} {rt : Option FieldType} {d : Nat} {av : List Value} {w0 ws : va_W} {ans : Option Value} {w1 : va_W} (h : Ct l g y cc n rt d av w0 ans w1) (isC : List Nat) (hn : va_nd isC = true) (hC : isC.map (fun i => ws[i]?) = w0.map some) (hs : w1.map Prod.fst = w0.map Prod.fst) {ws' : va_W} (hws : putAt ws isC w1 = ws') : Ct l g y cc n rt d av ws ans ws' := by
  intro sz
  refine (h sz).mono ?_ ?_ (fun q hq => va_A_sub hC hq)
  · rintro a s ⟨h1, h2, h3, h4, h5⟩
    exact ⟨h1, h2, fun k q hk => by obtain ⟨i, -, h6⟩ := map_at hC hk; exact h3 i q h6, h4, h5.sub isC hn hC⟩
  · rintro a s o t ⟨-, h2, h3, -, h5⟩ ⟨⟨q1, q2⟩, q3⟩
    subst h2
    have hh : Hp g (va_A ws s.heap.size) s s.heap [] ws := ⟨h3, h5.self, va_S.rf⟩
    have hb := hh.back (H1 := t.heap) (locs1 := []) isC hC hs q2 (fun q a b => q3.2 q a b) ⟨q3.1, fun q a b => q3.2 q a (fun z => b (va_A_sub hC z)), fun _ z => by cases z⟩
    rw [hws] at hb
    exact ⟨⟨q1, hb.1⟩, q3.1, fun q a b => q3.2 q a (fun z => b (va_A_sub hC z))⟩
theorem CtE.frame {S : Type} {l : Launch} {g : GG} {y : MethodName} {cc : ByteArray} {n : Nat} {rt : Option FieldType} {d : Nat} {av : List Value} {w0 ws : va_W} {ans : Option Value} {w1 : S → va_W} (h : CtE l g y cc n rt d av w0 ans w1) (isC : List Nat) (hn : va_nd isC = true) (hC : isC.map (fun i => ws[i]?) = w0.map some) (hs : ∀ u, (w1 u).map Prod.fst = w0.map Prod.fst) {ws' : S → va_W} (hws : ∀ u, putAt ws isC (w1 u) = ws' u) : CtE l g y cc n rt d av ws ans ws' := by
  intro sz
  refine (h sz).mono ?_ ?_ (fun q hq => va_A_sub hC hq)
  · rintro a s ⟨h1, h2, h3, h4, h5⟩
    exact ⟨h1, h2, fun k q hk => by obtain ⟨i, -, h6⟩ := map_at hC hk; exact h3 i q h6, h4, h5.sub isC hn hC⟩
  · rintro a s o t ⟨-, h2, h3, -, h5⟩ ⟨⟨q1, u, q2⟩, q3⟩
    subst h2
    have hh : Hp g (va_A ws s.heap.size) s s.heap [] ws := ⟨h3, h5.self, va_S.rf⟩
    have hb := hh.back (H1 := t.heap) (locs1 := []) isC hC (hs u) q2 (fun q a b => q3.2 q a b) ⟨q3.1, fun q a b => q3.2 q a (fun z => b (va_A_sub hC z)), fun _ z => by cases z⟩
    rw [hws u] at hb
    exact ⟨⟨q1, u, hb.1⟩, q3.1, fun q a b => q3.2 q a (fun z => b (va_A_sub hC z))⟩
/-- what is told of the answer and the picture may be told otherwise -/
theorem Ct.cast {l : Launch} {g : GG} {y : MethodName} {cc : ByteArray} {n : Nat} {rt : Option FieldType} {d : Nat} {av : List Value} {w0 : va_W} {ans ans' : Option Value} {w1 w1' : va_W} (h : Ct l g y cc n rt d av w0 ans w1) (e1 : ans = ans') (e2 : w1 = w1') : Ct l g y cc n rt d av w0 ans' w1' := by subst e1; subst e2; exact h
/-- more depth may be told -/
theorem r_minS {p : Program} {l : Launch} {e : Env} {R : Room} {s : State} {m : MethodId} {args : Array Value} {below : List Frame} {meth : Method} {c : Code} {H : Heap} {locs : List Loc} {cells slots : Nat} {Q : State → Prop} {g : GG} {A : Nat → Prop} {cc : ByteArray} {nL : Nat} {own : String} {rt : Option FieldType} {d : Nat} {pc : Nat} {ls : Array Slot} {rest : List Value} {lv : List (Option Value)} (K : Cx p l R s m args meth c g A cc nL own rt d) (hl : Lq ls nL lv) {idx : Nat} {x : Int32} (hw : Cond.methodLink own idx Lib.Math.min.name ∈ BIG) (hd : 1 ≤ d) (hrest : (rest.map fun v => v.category).sum ≤ 8) (hc : cells ≤ R.cells) (hs : slots ≤ R.slots) (dd : decode cc pc = .ok (.invokestatic idx, 3)) (kk : W p l e R s m args below meth c H locs cells slots Q (F0 m (pc + 3) ls (.int x :: rest))) : W p l e R s m args below meth c H locs cells slots Q (F0 m pc ls (.int x :: .int x :: rest)) := r_min K hl hw hd hrest hc hs dd (by rw [ite_self]; exact kk)
abbrev oCells (x0 x1 x2 x3 : Nat) : Nat × va_E := (x0, .inr (2, [.ref x1, .ref x2, .ref x3]))
abbrev oAct (b : Nat → Nat) (k : Row) : Nat × va_E := (b 0, .inr (0, [.int (k 0), .int (k 1), .int (k 2), .int (k 3), .int (k 4), .int (k 5), .int (k 6), .int (k 7), .ref (b 1), .ref (b 2), .ref (b 3), .ref (b 4)]))
abbrev actW (g : GG) (b : Nat → Nat) (k ph mv ah rv rs rw : Row) : va_W := [oAct b k, aI g (b 1) 4 ph, aI g (b 2) 4 mv, aI g (b 3) 4 ah, oCells (b 4) (b 5) (b 6) (b 7), aI g (b 5) 4 rv, aI g (b 6) 4 rs, aI g (b 7) 16 rw]
def kB (kind v t : Int32) : Row := fun i => match i with
  | 0 => kind
  | 1 => v
  | 2 => t
  | 7 => -9
  | _ => 0
def z0 : Row := fun _ => 0
/-- moved in this collect -/
def cMv (mv rs ah : Row) (n : Nat) : Row := fun c => if c < n ∧ rs c ≠ ah c then mv c + nI 1 else mv c
def cAny (rs ah : Row) : Nat → Bool
  | 0 => false
  | k + 1 => cAny rs ah k || decide (rs k ≠ ah k)
def cLow (mv : Row) (m : Int32) : Nat → Nat → Option Nat
  | _, 0 => none
  | j, i + 1 => if m ≤ mv j then some j else cLow mv m (j + 1) i
theorem cLow_lt {mv : Row} {m : Int32} : ∀ (i j q : Nat), cLow mv m j i = some q → j ≤ q ∧ q < j + i
  | 0, _, _, h => by simp [cLow] at h
  | i + 1, j, q, h => by
    rw [cLow] at h
    split at h
    · cases h; omega
    · have := cLow_lt i (j + 1) q h; omega
theorem kBz (k : Row) (x : Int32) : True := trivial
abbrev oAlb (x0 x1 : Nat) (sz : Int32) : Nat × va_E := (x0, .inr (1, [.int sz, .ref x1]))
abbrev oHis (y0 y1 y2 y3 y4 : Nat) (sz : Int32) : Nat × va_E := (y0, .inr (3, [.int sz, .ref y1, .ref y2, .ref y3, .ref y4]))
def cFa (fa : Row) (ph : Nat) (p : Int32) (k : Row) (en : Int32) (mo : Int32) (pv : Row) : Row :=
  let f1 := upd fa (ph * 11 + 0) p
  let f2 := upd f1 (ph * 11 + 1) (k 2)
  let f3 := upd f2 (ph * 11 + 2) en
  let f4 := upd f3 (ph * 11 + 3) (k 3)
  let f5 := upd f4 (ph * 11 + 4) (k 7)
  let f6 := upd f5 (ph * 11 + 5) (if k 0 = nI 2 then nI 1 else nI 0)
  let f7 := va_cpy pv f6 0 (ph * 11 + 6) 4
  upd f7 (ph * 11 + 10) mo
def cCW (fa : Row) (w : Nat) (x : Int32) : Nat → Nat
  | 0 => 0
  | i + 1 => cCW fa w x i + (if fa (i * 11 + w) = x then 1 else 0)
def cLA (fa : Row) (x : Int32) : Nat → Int32
  | 0 => -9
  | i + 1 => if x < fa (i * 11 + 3) ∧ (cLA fa x i = -9 ∨ fa (i * 11 + 3) < cLA fa x i) then fa (i * 11 + 3) else cLA fa x i
def cGB (fa : Row) (x : Int32) : Nat → Int32
  | 0 => -9
  | i + 1 => if fa (i * 11 + 3) < x ∧ (cGB fa x i = -9 ∨ cGB fa x i < fa (i * 11 + 3)) then fa (i * 11 + 3) else cGB fa x i
def eqK (th ph : Row) : Nat → Bool
  | 0 => true
  | k + 1 => eqK th ph k && decide (th k = ph k)
theorem eqK_no {th ph : Row} : ∀ (d k : Nat), eqK th ph k = false → eqK th ph (k + d) = false
  | 0, k, h => h
  | d + 1, k, h => by rw [← Nat.add_assoc, eqK, eqK_no d k h]; rfl
/-- the cells behind the first k writes -/
def thK (pl : Nat → Nat) (wv : Row) : Nat → Row
  | 0 => z0
  | k + 1 => upd (thK pl wv k) (pl k) (wv k)
def cLead (ti : Row) (bg : Int32) : Nat → Nat → Nat
  | 0, i => i
  | j + 1, i => if ti i ≤ bg then cLead ti bg j (i + 1) else i
theorem cLead_le {ti : Row} {bg : Int32} : ∀ (j i : Nat), i ≤ cLead ti bg j i ∧ cLead ti bg j i ≤ i + j
  | 0, i => ⟨Nat.le_refl _, Nat.le_refl _⟩
  | j + 1, i => by
    rw [cLead]; split
    · have := cLead_le (ti := ti) (bg := bg) j (i + 1); omega
    · omega
/-- (answer, how many writes were taken in) -/
def cMo (ti : Row) (pl : Nat → Nat) (wv pv : Row) : Nat → Nat → Int32 × Nat
  | 0, i => (-9, i)
  | j + 1, i => if eqK (thK pl wv (i + 1)) pv 4 then (ti i, i + 1) else cMo ti pl wv pv j (i + 1)
def cMom (ti : Row) (pl : Nat → Nat) (wv pv : Row) (bg : Int32) (sz : Nat) : Int32 × Nat :=
  if eqK (thK pl wv (cLead ti bg sz 0)) pv 4 then (bg, cLead ti bg sz 0) else cMo ti pl wv pv (sz - cLead ti bg sz 0) (cLead ti bg sz 0)
