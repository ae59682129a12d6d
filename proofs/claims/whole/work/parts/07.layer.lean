/-! my layer over the kit: what is fixed of a method's run (Cx), the heap's picture (Hp), locals by place (Lq), contracts without making (Ct) -/
abbrev GG : Type := va_G × (Nat → ClassId)
abbrev TYS (g : GG) : List (ClassId × FieldType) := [(g.2 0, .int), (g.2 1, .boolean), (g.2 2, .object "LentViews$Act"), (g.2 3, .object "LentViews$World")]
def NS (U : State) : Prop := va_Nw (.methodLinkNest RX4 11 yX2_init RX5) U ∧ va_Nw (.methodLinkNest RX4 26 yX1_init RX5) U ∧ va_Nw (.methodLinkNest RX4 33 yX3_init RX5) U ∧ va_Nw (.methodLinkNest RX4 38 yX0_init RX5) U ∧ va_Nw (.methodLinkNest RX0 23 yX2_init RX5) U ∧ va_Nw (.methodLinkNest RX2 27 yX5_copyAll RX5) U ∧ va_Nw (.methodLinkNest RX0 63 yX5_copyAll RX5) U
theorem NS.warm {s U : State} (hW : s.WarmedH U.vm) (h : NS s) : NS U := ⟨h.1.warmM hW, h.2.1.warmM hW, h.2.2.1.warmM hW, h.2.2.2.1.warmM hW, h.2.2.2.2.1.warmM hW, h.2.2.2.2.2.1.warmM hW, h.2.2.2.2.2.2.warmM hW⟩
theorem NS.same {s U : State} (e : s.vm = U.vm) (h : NS s) : NS U := ⟨va_Nw.same rfl e h.1, va_Nw.same rfl e h.2.1, va_Nw.same rfl e h.2.2.1, va_Nw.same rfl e h.2.2.2.1, va_Nw.same rfl e h.2.2.2.2.1, va_Nw.same rfl e h.2.2.2.2.2.1, va_Nw.same rfl e h.2.2.2.2.2.2⟩
/-- all that is fixed of the machine's classes -/
def gK (g : GG) (U : State) : Prop := va_K g.1 vwCl (TYS g) U ∧ NS U ∧ va_AO "LentViews$Act" U ∧ va_AO "LentViews$World" U
theorem gK.warm {g : GG} {s U : State} (hW : s.WarmedH U.vm) (h : gK g s) : gK g U := ⟨va_K.moved hW.alike h.1, h.2.1.warm hW, h.2.2.1.moved hW.alike, h.2.2.2.moved hW.alike⟩
theorem gK.same {g : GG} {s U : State} (e : s.vm = U.vm) (h : gK g s) : gK g U := ⟨va_K.moved (by rw [e]; exact Vm.Alike.refl U.vm) h.1, h.2.1.same e, h.2.2.1.moved (by rw [e]; exact Vm.Alike.refl U.vm), h.2.2.2.moved (by rw [e]; exact Vm.Alike.refl U.vm)⟩
def RM (d : Nat) : Room := { frames := d, cells := 0, slots := 0, locals := 38 * d }
def MW (y : MethodName) (cc : ByteArray) (n : Nat) (r : Option FieldType) : List Cond := .code y cc n r :: BIG
def cPre (g : GG) (av : List Value) (w0 : va_W) (sz : Nat) : Array Value → State → Prop := va_Pc av (fun U => U.heap.size = sz ∧ va_P g.1 vwCl w0 U.heap ∧ gK g U ∧ va_D (fun _ => True) w0)
def cQ (g : GG) (ans : Option Value) (w1 : va_W) (A : Nat → Prop) : Array Value → State → Outcome → State → Prop := fun _ st oc t => (oc = .returned ans ∧ va_P g.1 vwCl w1 t.heap) ∧ va_F A st t
/-- a contract of a method that makes nothing: from the picture w0 to the picture w1 (the same addresses), with the answer -/
def Ct (l : Launch) (g : GG) (y : MethodName) (cc : ByteArray) (n : Nat) (rt : Option FieldType) (d : Nat) (av : List Value) (w0 : va_W) (ans : Option Value) (w1 : va_W) : Prop :=
  ∀ sz, Met l y (MW y cc n rt) (RM d) (cPre g av w0 sz) (cQ g ans w1 (va_A w0 sz)) 0 0 (va_A w0 sz)
theorem cPre.blind {g : GG} {av : List Value} {w0 : va_W} {sz : Nat} : FrameBlind (cPre g av w0 sz) := fun _ _ _ _ q => ⟨q.1, q.2.1, q.2.2.1, q.2.2.2.1.same rfl, q.2.2.2.2⟩
def Hp (g : GG) (A : Nat → Prop) (s : State) (H : Heap) (locs : List Loc) (ws : va_W) : Prop := va_P g.1 vwCl ws H ∧ va_D A ws ∧ va_S A s.heap H locs
/-! locals by place -/
def lqp : Nat → List (Option Value) → List (Nat × Value)
  | _, [] => []
  | i, some v :: t => (i, v) :: lqp (i + 1) t
  | i, none :: t => lqp (i + 1) t
theorem lqp_mem : ∀ (l : List (Option Value)) (i j : Nat) (v : Value), (j, v) ∈ lqp i l ↔ ∃ k, j = i + k ∧ l[k]? = some (some v)
  | [], i, j, v => by simp [lqp]
  | none :: t, i, j, v => by
    rw [lqp, lqp_mem t (i + 1) j v]
    constructor
    · rintro ⟨k, rfl, h⟩; exact ⟨k + 1, by omega, by simpa using h⟩
    · rintro ⟨k, rfl, h⟩
      cases k with
      | zero => simp at h
      | succ k => exact ⟨k, by omega, by simpa using h⟩
  | some w :: t, i, j, v => by
    rw [lqp, List.mem_cons, lqp_mem t (i + 1) j v]
    constructor
    · rintro (h | ⟨k, rfl, h⟩)
      · cases h; exact ⟨0, rfl, rfl⟩
      · exact ⟨k + 1, by omega, by simpa using h⟩
    · rintro ⟨k, rfl, h⟩
      cases k with
      | zero => left; simp at h; rw [h]; rfl
      | succ k => right; exact ⟨k, by omega, by simpa using h⟩
def Lq (ls : Array Slot) (n : Nat) (l : List (Option Value)) : Prop := n = l.length ∧ lv_has ls n (lqp 0 l) ∧ ∀ v, some v ∈ l → v.category = 1
theorem Lq.at {ls : Array Slot} {n : Nat} {l : List (Option Value)} (h : Lq ls n l) {i : Nat} {v : Value} (hi : l[i]? = some (some v)) : ls[i]? = some (.val v) := h.2.1.2.2 (i, v) ((lqp_mem l 0 i v).mpr ⟨i, by omega, hi⟩)
theorem Lq.store {ls ls' : Array Slot} {n : Nat} {l : List (Option Value)} {i : Nat} {v : Value} (h : Lq ls n l) (hc : v.category = 1) (h' : lv_has ls' n ((i, v) :: (lqp 0 l).filter (fun q => !(q.1 == i) && !(q.1 + 1 == i && q.2.category == 2)))) : Lq ls' n (l.set i (some v)) := by
  refine ⟨by rw [List.length_set]; exact h.1, ⟨h'.1, h'.2.1, fun q hq => ?_⟩, fun w hw => ?_⟩
  · obtain ⟨j, w⟩ := q
    obtain ⟨k, hk, hl⟩ := (lqp_mem _ 0 j w).mp hq
    have hjk : j = k := by omega
    subst hjk
    apply h'.2.2
    by_cases hji : j = i
    · subst hji
      have hlt : j < (l.set j (some v)).length := (List.getElem?_eq_some_iff.mp hl).1
      rw [List.length_set] at hlt
      rw [List.getElem?_set_self hlt] at hl
      cases hl
      exact List.mem_cons_self
    · rw [List.getElem?_set_ne (fun e => hji e.symm)] at hl
      refine List.mem_cons_of_mem _ (List.mem_filter.mpr ⟨(lqp_mem l 0 j w).mpr ⟨j, by omega, hl⟩, ?_⟩)
      have hcw := h.2.2 w (List.mem_of_getElem? hl)
      simp [hji, hcw]
  · rcases List.mem_or_eq_of_mem_set hw with h1 | h1
    · exact h.2.2 w h1
    · cases h1; exact hc
def lqi (n : Nat) (av : List Value) : List (Option Value) := av.map some ++ List.replicate (n - av.length) none
theorem lqp_none (k i : Nat) : lqp i (List.replicate k none) = [] := by
  induction k generalizing i with
  | zero => rfl
  | succ k ih => rw [List.replicate_succ, lqp]; exact ih (i + 1)
theorem lqp_args : ∀ (av : List Value) (k i : Nat), (∀ v ∈ av, v.category = 1) → lqp i (av.map some ++ List.replicate k none) = lv_args i av
  | [], k, i, _ => by simp [lqp_none, lv_args]
  | v :: t, k, i, h => by
    have hv : v.category = 1 := h v List.mem_cons_self
    rw [List.map_cons, List.cons_append, lqp, lv_args, lqp_args t k (i + 1) (fun w hw => h w (List.mem_cons_of_mem _ hw))]
    simp [hv]
theorem lg_sl_len : ∀ (av : List Value), (∀ v ∈ av, v.category = 1) → (lg_sl av).length = av.length
  | [], _ => rfl
  | v :: t, h => by
    have hv : v.category = 1 := h v List.mem_cons_self
    have := lg_sl_len t (fun w hw => h w (List.mem_cons_of_mem _ hw))
    simp only [lg_sl, List.flatMap_cons] at this ⊢
    simp [hv, this]
theorem Lq.entry (av : List Value) {n : Nat} (hn : av.length ≤ n) (hc : ∀ v ∈ av, v.category = 1) : Lq ((lg_sl av ++ List.replicate (n - (lg_sl av).length) Slot.unset).toArray) n (lqi n av) := by
  refine ⟨by simp [lqi]; omega, ?_, fun v hv => ?_⟩
  · rw [lqi, lqp_args av _ 0 hc]
    exact lv_entry av (by rw [lg_sl_len av hc]; exact hn)
  · simp only [lqi, List.mem_append, List.mem_map, List.mem_replicate] at hv
    rcases hv with ⟨w, hw, e⟩ | h
    · cases e; exact hc _ hw
    · exact absurd h.2 (by simp)
/-! the fixed part of a run -/
def Cx (p : Program) (l : Launch) (R : Room) (s : State) (m : MethodId) (args : Array Value) (meth : Method) (c : Code) (g : GG) (A : Nat → Prop) (cc : ByteArray) (nL : Nat) (own : String) (rt : Option FieldType) (d : Nat) : Prop :=
  CallFix p m c cc nL s args BIG own ∧ meth.sig.returnType = rt ∧ meth.locks = false ∧ gK g s ∧ (∀ q, s.heap.size ≤ q → A q) ∧ d ≤ R.frames ∧ 38 * d ≤ R.locals
/-- a method's run may end in Q: with the answer and the picture that the contract names -/
def Rt (p : Program) (l : Launch) (e : Env) (R : Room) (s : State) (m : MethodId) (args : Array Value) (below : List Frame) (meth : Method) (c : Code) (g : GG) (A : Nat → Prop) (cc : ByteArray) (Q : State → Prop) (ans : Option Value) (w1 : va_W) : Prop :=
  (∀ (H : Heap) (locs : List Loc) (ls : Array Slot) (pc : Nat) (v : Int32), decode cc pc = .ok (.ireturn, 1) → Hp g A s H locs w1 → ans = some (.int v) → W p l e R s m args below meth c H locs 0 0 Q (F0 m pc ls [.int v])) ∧
  (∀ (H : Heap) (locs : List Loc) (ls : Array Slot) (pc : Nat), decode cc pc = .ok (.return_, 1) → Hp g A s H locs w1 → ans = none → W p l e R s m args below meth c H locs 0 0 Q (F0 m pc ls []))
theorem Ct.start {l : Launch} {g : GG} {y : MethodName} {cc : ByteArray} {n : Nat} {rt : Option FieldType} {d : Nat} {av : List Value} {w0 : va_W} {ans : Option Value} {w1 : va_W} (hy : plainName y.cls = true) (hav : av.length ≤ n) (hcat : ∀ v ∈ av, v.category = 1)
    (hrt : rt = none ∧ ans = none ∨ ∃ (ty : FieldType) (v : Int32), rt = some ty ∧ ans = some (.int v) ∧ narrow ty (.int v) = .int v)
    (body : ∀ (p : Program) (e : Env) (R : Room) (s : State) (m : MethodId) (args : Array Value) (below : List Frame) (meth : Method) (c : Code) (A : Nat → Prop) (Q : State → Prop), Cx p l R s m args meth c g A cc n y.cls rt d → Rt p l e R s m args below meth c g A cc Q ans w1 → Hp g A s s.heap [] w0 → ∀ ls : Array Slot, Lq ls n (lqi n av) → W p l e R s m args below meth c s.heap [] 0 0 Q (F0 m 0 ls [])) : Ct l g y cc n rt d av w0 ans w1 := by
  intro sz
  refine Met.ofW (cc := cc) (maxL := n) (ret := rt) hy rfl ?_
  intro p e s m args below meth c s₁ B hml hv
  obtain ⟨rfl, hsz, hP, hK, hD0⟩ := hv
  subst hsz
  have hts : ∀ w ∈ BIG, w.before av.toArray s = true := fun w h => atoms_spec (ws := MW y cc n rt) B.pre w (List.mem_cons_of_mem _ h)
  have hown : s.vm.findClass y.cls = some m.cls := findClass_of_methodNamed B.named
  have hlocks := B.notSynchronized
  rw [lg_entry_eq]
  refine body p e _ s m _ below meth c (va_A w0 s.heap.size) _ ⟨⟨B.exec, B.bytes, hml, hown, hts⟩, B.returns, hlocks, hK, fun q h => Or.inr h, Nat.le_refl _, Nat.le_refl _⟩ ⟨?_, ?_⟩ ⟨hP, hD0.self, va_S.rf⟩ _ (Lq.entry av hav hcat)
  · intro H locs ls pc v hd hH ha
    obtain ⟨hP1, hD1, hS1⟩ := hH
    rcases hrt with ⟨-, h2⟩ | ⟨ty, v', h1, h2, h3⟩
    · rw [h2] at ha; cases ha
    · rw [h2] at ha
      cases ha
      exact W.zret B.exec B.bytes (B.returns.trans h1) h3 (fun t ht hW => ⟨⟨by rw [h2], by rw [ht]; exact hP1⟩, hS1.F ht⟩) hS1.2.2 hd
  · intro H locs ls pc hd hH ha
    obtain ⟨hP1, hD1, hS1⟩ := hH
    rcases hrt with ⟨h1, h2⟩ | ⟨ty, v', h1, h2, h3⟩
    · exact W.vret B.exec B.bytes (B.returns.trans h1) (fun t ht hW => ⟨⟨by rw [h2], by rw [ht]; exact hP1⟩, hS1.F ht⟩) hS1.2.2 hd
    · rw [h2] at ha; cases ha
/-! the frame: a callee's cells put back at their places -/
def putAt : va_W → List Nat → va_W → va_W
  | ws, i :: is, e :: es => putAt (ws.set i e) is es
  | ws, _, _ => ws
theorem putAt_get : ∀ (is : List Nat) (es ws : va_W) (k : Nat) (q : Nat × va_E), is.length = es.length → (putAt ws is es)[k]? = some q → (∃ j : Nat, is[j]? = some k ∧ es[j]? = some q) ∨ (ws[k]? = some q ∧ k ∉ is)
  | [], [], ws, k, q, _, h => by rw [putAt] at h <;> simp_all
  | [], _ :: _, _, _, _, hl, _ => by simp at hl
  | _ :: _, [], _, _, _, hl, _ => by simp at hl
  | i :: is, e :: es, ws, k, q, hl, h => by
    rw [putAt] at h
    rcases putAt_get is es (ws.set i e) k q (by simpa using hl) h with ⟨j, h1, h2⟩ | ⟨h1, h2⟩
    · exact Or.inl ⟨j + 1, by simpa using h1, by simpa using h2⟩
    · by_cases hk : k = i
      · subst hk
        have hlt : k < (ws.set k e).length := (List.getElem?_eq_some_iff.mp h1).1
        rw [List.length_set] at hlt
        rw [List.getElem?_set_self hlt] at h1
        cases h1
        exact Or.inl ⟨0, rfl, rfl⟩
      · rw [List.getElem?_set_ne (fun e => hk e.symm)] at h1
        exact Or.inr ⟨h1, fun h3 => (List.mem_cons.mp h3).elim hk h2⟩
theorem map_at {ws w : va_W} {is : List Nat} (hs : is.map (fun i => ws[i]?) = w.map some) {k : Nat} {q : Nat × va_E} (hq : w[k]? = some q) : ∃ i, is[k]? = some i ∧ ws[i]? = some q := by
  have h1 : (is.map (fun i => ws[i]?))[k]? = some (some q) := by rw [hs, List.getElem?_map, hq]; rfl
  rw [List.getElem?_map] at h1
  cases hi : is[k]? with
  | none => rw [hi] at h1; cases h1
  | some i => rw [hi] at h1; exact ⟨i, rfl, Option.some.inj h1⟩
theorem Hp.sameD {A : Nat → Prop} {ws ws' : va_W} (hD : va_D A ws) (h : ∀ (k : Nat) (q : Nat × va_E), ws'[k]? = some q → ∃ q0, ws[k]? = some q0 ∧ q0.1 = q.1) : va_D A ws' := by
  refine ⟨fun i j x y hx hy e => ?_, fun k q hk => ?_⟩
  · obtain ⟨x0, h1, h2⟩ := h i x hx
    obtain ⟨y0, h3, h4⟩ := h j y hy
    exact hD.1 i j x0 y0 h1 h3 (by rw [h2, h4]; exact e)
  · obtain ⟨q0, h1, h2⟩ := h k q hk
    rw [← h2]; exact hD.2 k q0 h1
theorem Hp.back {g : GG} {A : Nat → Prop} {s : State} {H H1 : Heap} {locs locs1 : List Loc} {ws w0 w1 : va_W} (h : Hp g A s H locs ws) (isC : List Nat) (hC : isC.map (fun i => ws[i]?) = w0.map some) (hs : w1.map Prod.fst = w0.map Prod.fst) (hP1 : va_P g.1 vwCl w1 H1) (hk : ∀ q : Nat, q < H.size → ¬ va_A w0 H.size q → H1[q]? = H[q]?) (hS : va_S A s.heap H1 locs1) : Hp g A s H1 locs1 (putAt ws isC w1) := by
  have hlen : isC.length = w1.length := by
    have h1 := congrArg List.length hC
    have h2 := congrArg List.length hs
    simp at h1 h2; omega
  refine ⟨fun k q hq => ?_, Hp.sameD h.2.1 (fun k q hq => ?_), hS⟩
  · rcases putAt_get isC w1 ws k q hlen hq with ⟨j, h1, h2⟩ | ⟨h1, h2⟩
    · exact hP1 j q h2
    · have hat := h.1 k q h1
      refine hat.kept (hk q.1 hat.lt (fun hA => ?_))
      rcases hA with ⟨k2, e, h3⟩ | h3
      · obtain ⟨i, h4, h5⟩ := map_at hC h3
        have hki := h.2.1.1 k i q (q.1, e) h1 h5 rfl
        exact h2 (by rw [hki]; exact List.mem_of_getElem? h4)
      · have := hat.lt; omega
  · rcases putAt_get isC w1 ws k q hlen hq with ⟨j, h1, h2⟩ | ⟨h1, h2⟩
    · have h3 : (w0.map Prod.fst)[j]? = some q.1 := by rw [← hs, List.getElem?_map, h2]; rfl
      rw [List.getElem?_map] at h3
      cases h4 : w0[j]? with
      | none => rw [h4] at h3; cases h3
      | some q0 =>
        rw [h4] at h3
        obtain ⟨i, h5, h6⟩ := map_at hC h4
        rw [h1] at h5
        cases h5
        exact ⟨q0, h6, Option.some.inj h3⟩
    · exact ⟨q, h1, rfl⟩
/-- an array's content may be told otherwise, where it agrees within the length -/
theorem arr_cg {cA : ClassId} {n : Nat} {f f' : Nat → Int32} (h : ∀ j, j < n → f j = f' j) : vp_cell cA (n, .inl f) = vp_cell cA (n, .inl f') := by
  rw [vp_cell_i, vp_cell_i]
  unfold arrV
  congr 1
  apply Array.ext
  · simp
  · intro i h1 h2
    simp at h1 ⊢
    exact h i h1
theorem Hp.arr {g : GG} {A : Nat → Prop} {s : State} {H : Heap} {locs : List Loc} {ws : va_W} (h : Hp g A s H locs ws) (q0 : Nat) {a : Nat} {cA : ClassId} {n : Nat} {f : Nat → Int32} (f' : Nat → Int32) (he : ws[q0]? = some (a, .inl (cA, n, .inl f))) (hf : ∀ j, j < n → f j = f' j) : Hp g A s H locs (ws.set q0 (a, .inl (cA, n, .inl f'))) := by
  refine ⟨fun k q hq => ?_, h.2.1.set he, h.2.2⟩
  by_cases hk : k = q0
  · subst hk
    have hlt : k < (ws.set k (a, .inl (cA, n, .inl f'))).length := (List.getElem?_eq_some_iff.mp hq).1
    rw [List.length_set] at hlt
    rw [List.getElem?_set_self hlt] at hq
    cases hq
    have := h.1 k _ he
    show H[a]? = some _
    rw [← arr_cg hf]
    exact this
  · rw [List.getElem?_set_ne (fun e => hk e.symm)] at hq
    exact h.1 k q hq
theorem Hp.to {g : GG} {A : Nat → Prop} {s : State} {H : Heap} {locs : List Loc} {ws ws' : va_W} (h : Hp g A s H locs ws) (e : ws = ws') : Hp g A s H locs ws' := e ▸ h
