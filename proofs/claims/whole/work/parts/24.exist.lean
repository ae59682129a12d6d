/-! contracts whose picture behind holds something that isn't told -/
def cQE {S : Type} (g : GG) (ans : Option Value) (w1 : S → va_W) (A : Nat → Prop) : Array Value → State → Outcome → State → Prop := fun _ st oc t => (oc = .returned ans ∧ ∃ u : S, va_P g.1 vwCl (w1 u) t.heap) ∧ va_F A st t
def CtE {S : Type} (l : Launch) (g : GG) (y : MethodName) (cc : ByteArray) (n : Nat) (rt : Option FieldType) (d : Nat) (av : List Value) (w0 : va_W) (ans : Option Value) (w1 : S → va_W) : Prop :=
  ∀ sz, Met l y (MW y cc n rt) (RM d) (cPre g av w0 sz) (cQE g ans w1 (va_A w0 sz)) 0 0 (va_A w0 sz)
def RtE {S : Type} (p : Program) (l : Launch) (e : Env) (R : Room) (s : State) (m : MethodId) (args : Array Value) (below : List Frame) (meth : Method) (c : Code) (g : GG) (A : Nat → Prop) (cc : ByteArray) (Q : State → Prop) (ans : Option Value) (w1 : S → va_W) : Prop :=
  (∀ (u : S) (H : Heap) (locs : List Loc) (ls : Array Slot) (pc : Nat) (v : Int32), decode cc pc = .ok (.ireturn, 1) → Hp g A s H locs (w1 u) → ans = some (.int v) → W p l e R s m args below meth c H locs 0 0 Q (F0 m pc ls [.int v])) ∧
  (∀ (u : S) (H : Heap) (locs : List Loc) (ls : Array Slot) (pc : Nat), decode cc pc = .ok (.return_, 1) → Hp g A s H locs (w1 u) → ans = none → W p l e R s m args below meth c H locs 0 0 Q (F0 m pc ls []))
theorem CtE.start {S : Type} {l : Launch} {g : GG} {y : MethodName} {cc : ByteArray} {n : Nat} {rt : Option FieldType} {d : Nat} {av : List Value} {w0 : va_W} {ans : Option Value} {w1 : S → va_W} (hy : plainName y.cls = true) (hav : av.length ≤ n) (hcat : ∀ v ∈ av, v.category = 1)
    (hrt : rt = none ∧ ans = none ∨ ∃ (ty : FieldType) (v : Int32), rt = some ty ∧ ans = some (.int v) ∧ narrow ty (.int v) = .int v)
    (body : ∀ (p : Program) (e : Env) (R : Room) (s : State) (m : MethodId) (args : Array Value) (below : List Frame) (meth : Method) (c : Code) (A : Nat → Prop) (Q : State → Prop), Cx p l R s m args meth c g A cc n y.cls rt d → RtE p l e R s m args below meth c g A cc Q ans w1 → Hp g A s s.heap [] w0 → ∀ ls : Array Slot, Lq ls n (lqi n av) → W p l e R s m args below meth c s.heap [] 0 0 Q (F0 m 0 ls [])) : CtE l g y cc n rt d av w0 ans w1 := by
  intro sz
  refine Met.ofW (cc := cc) (maxL := n) (ret := rt) hy rfl ?_
  intro p e s m args below meth c s₁ B hml hv
  obtain ⟨rfl, hsz, hP, hK, hD0⟩ := hv
  subst hsz
  have hts : ∀ w ∈ BIG, w.before av.toArray s = true := fun w h => atoms_spec (ws := MW y cc n rt) B.pre w (List.mem_cons_of_mem _ h)
  have hown : s.vm.findClass y.cls = some m.cls := findClass_of_methodNamed B.named
  have hlocks := B.notSynchronized
  rw [lg_entry_eq]
  refine body p e _ s m _ below meth c (va_A w0 s.heap.size) _ ⟨⟨B.exec, B.bytes, hml, hown, hts⟩, B.returns, hlocks, hK, fun q h => Or.inr h, Nat.le_refl _, Nat.le_refl _⟩ ⟨?_, ?_⟩ ⟨hP, hD0.self, va_S.rf⟩ _ (Lq.entry av hav hcat)
  · intro u H locs ls pc v hd hH ha
    obtain ⟨hP1, hD1, hS1⟩ := hH
    rcases hrt with ⟨-, h2⟩ | ⟨ty, v', h1, h2, h3⟩
    · rw [h2] at ha; cases ha
    · rw [h2] at ha
      cases ha
      exact W.zret B.exec B.bytes (B.returns.trans h1) h3 (fun t ht hW => ⟨⟨by rw [h2], u, by rw [ht]; exact hP1⟩, hS1.F ht⟩) hS1.2.2 hd
  · intro u H locs ls pc hd hH ha
    obtain ⟨hP1, hD1, hS1⟩ := hH
    rcases hrt with ⟨h1, h2⟩ | ⟨ty, v', h1, h2, h3⟩
    · exact W.vret B.exec B.bytes (B.returns.trans h1) (fun t ht hW => ⟨⟨by rw [h2], u, by rw [ht]; exact hP1⟩, hS1.F ht⟩) hS1.2.2 hd
    · rw [h2] at ha; cases ha
section CALLSE
variable {S : Type} {p : Program} {l : Launch} {e : Env} {R : Room} {s : State} {m : MethodId} {args : Array Value} {below : List Frame} {meth : Method} {c : Code} {H : Heap} {locs : List Loc} {cells slots : Nat} {Q : State → Prop}
variable {g : GG} {A : Nat → Prop} {cc : ByteArray} {nL : Nat} {own : String} {rt : Option FieldType} {d : Nat} {pc : Nat} {ls : Array Slot} {rest st0 : List Value} {ws w0 : va_W} {w1 : S → va_W} {lv : List (Option Value)}
variable {y : MethodName} {bytes : ByteArray} {maxL d' np idx : Nat} {rt' : Option FieldType} {As av : List Value} {ans : Option Value} {b : Nat}
theorem r_backE {a : Array Value} (hr : va_Run p l e R s m args below meth c H locs cells slots 0 0 (F0 m pc ls st0) rest (cQE g ans w1 (va_A w0 H.size) a) (va_A w0 H.size)) (h : Hp g A s H locs ws) (hA : ∀ q, s.heap.size ≤ q → A q) (isC : List Nat) (hC : isC.map (fun i => ws[i]?) = w0.map some) (hs : ∀ u, (w1 u).map Prod.fst = w0.map Prod.fst) {ws' : S → va_W} (hws : ∀ u, putAt ws isC (w1 u) = ws' u)
    (kk : ∀ (u : S) (H : Heap) (locs : List Loc), Hp g A s H locs (ws' u) → W p l e R s m args below meth c H locs cells slots Q (F0 m (pc + 3) ls (ans.toList ++ rest))) : W p l e R s m args below meth c H locs cells slots Q (F0 m pc ls st0) := by
  have hf : ∀ q, va_A w0 H.size q → A q := fun q hq => by
    rcases hq with ⟨k, e, hk⟩ | hq
    · obtain ⟨i, -, h2⟩ := map_at hC hk
      exact h.2.1.2 i (q, e) h2
    · exact hA q (Nat.le_trans h.2.2.1 hq)
  intro T hT X
  obtain ⟨v, st₀, t, T', L, h0, X', hL, e1, e2, ⟨⟨hv, u, hP1⟩, hz, hk⟩, st⟩ := hr T hT X
  cases hv
  rw [h0] at hz hk
  have hS : va_S A s.heap T'.heap (locs ++ L) := ⟨Nat.le_trans h.2.2.1 (by rw [e1]; exact hz), fun q h1 h2 => by rw [e1, hk q (Nat.lt_of_lt_of_le h1 h.2.2.1) (fun z => h2 (hf q z))]; exact h.2.2.2.1 q h1 h2, fun q hq => by
      rcases List.mem_append.mp hq with h1 | h1
      · exact h.2.2.2.2 q h1
      · exact hf _ (hL q h1)⟩
  have hb := h.back (H1 := T'.heap) isC hC (hs u) (by rw [e1]; exact hP1) (fun q h1 h2 => by rw [e1]; exact hk q h1 h2) hS
  rw [hws u] at hb
  obtain ⟨t2, a1, b1⟩ := kk u T'.heap (locs ++ L) hb T' rfl X'
  exact ⟨t2, st t2 a1, b1⟩
theorem r_callVE (K : Cx p l R s m args meth c g A cc nL own rt d) (h : Hp g A s H locs ws) (hl : Lq ls nL lv) (ct : CtE l g y bytes maxL rt' d' (.ref b :: As) w0 ans w1) (mc : MCd y bytes maxL rt' np) (vm : VMd y) (ml : Cond.methodLink own idx y ∈ BIG) (q0 : Nat) {ci : Nat} {fs : List Value} {r : vw_C} (hq : ws[q0]? = some (b, .inr (ci, fs))) (hc : vwCl[ci]? = some r) (hy : r.1 = y.cls) (isC : List Nat) (hn : va_nd isC = true) (hC : isC.map (fun i => ws[i]?) = w0.map some) (hs : ∀ u, (w1 u).map Prod.fst = w0.map Prod.fst) (ws' : S → va_W) (hws : ∀ u, putAt ws isC (w1 u) = ws' u) (hd : d' + 1 ≤ d) (hm : maxL ≤ 19) (hnp : As.length = np) (hst : st0 = As.reverse ++ .ref b :: rest) (hrest : (rest.map fun v => v.category).sum ≤ 8) (hcs : cells ≤ R.cells ∧ slots ≤ R.slots) (dd : decode cc pc = .ok (.invokevirtual idx, 3))
    (kk : ∀ (u : S) (H : Heap) (locs : List Loc), Hp g A s H locs (ws' u) → W p l e R s m args below meth c H locs cells slots Q (F0 m (pc + 3) ls (ans.toList ++ rest))) : W p l e R s m args below meth c H locs cells slots Q (F0 m pc ls st0) := by
  obtain ⟨hcf, -, -, hK, hA, hR1, hR2⟩ := K
  have hcw : CallW R s args own y.cls idx y bytes maxL rt' (MW y bytes maxL rt') (RM d') 0 0 np := ⟨callB_of np hcf.2.2.2.2 (mw_good mc.1) rfl rfl rfl (hcf.2.2.2.2 _ mc.2.1) (hcf.2.2.2.2 _ ml) mc.2.2 ⟨show d' + 1 ≤ R.frames by omega, show 8 + (maxL + 11) + 38 * d' ≤ R.locals by omega⟩, hcf.2.2.2.2 _ vm.1, hcf.2.2.2.2 _ vm.2⟩
  have hrv := va_recv hK.1 h.1 hc hq
  rw [hy] at hrv
  exact r_backE (va_runV (As := As) (rest := rest) hcf (ct H.size) hcw ⟨cPre.blind, hrv, fun U hU hW => ⟨rfl, by rw [hU], by rw [hU]; exact sub_P h hC, hK.warm hW, (h.2.1.sub isC hn hC).weaken (fun _ _ _ _ => trivial)⟩⟩ rfl hnp hl.2.1.1 hst (lv_room hrest) dd hcs) h hA isC hC hs hws kk
end CALLSE
/-! bounds -/
theorem stC_le (p : Nat) : ∀ (k : Nat) (f : Row), stC f p k ≤ k
  | 0, _ => Nat.le_refl 0
  | k + 1, f => by rw [stC]; split; · omega
                   · have := stC_le p k (mStep f p); omega
theorem trC_le (a b : Nat) : ∀ (j : Nat) (x : Row × Nat), trC a b j x ≤ j * a
  | 0, _ => by rw [trC]; omega
  | j + 1, x => by
    rw [trC]; split
    · omega
    · have h1 := stC_le 0 a x.1
      have h2 := trC_le a b j (trR x a b)
      rw [Nat.succ_mul]; omega
theorem trN_lt {n mv a b : Nat} {w : Int32} (ha : a ≤ 4) : trN n mv w a b ≤ 4000 := by
  have := trC_le a b 1000 (tr0 n mv w)
  unfold trN; omega
theorem alN_le (β : Nat → Bool) (t : Nat → Nat) (m : Nat) : ∀ k, alN β t m k ≤ k
  | 0 => Nat.le_refl 0
  | k + 1 => by rw [alN]; have := alN_le β t m k; split <;> omega
theorem alM_le (β : Nat → Bool) (t : Nat → Nat) : ∀ m, alM β t m ≤ 4
  | 0 => by rw [alM]; omega
  | m + 1 => by
    rw [alM]
    have h1 := alM_le β t m
    have h2 := alN_le β t m 4
    split <;> omega
theorem askB_le {al : Nat → Nat → Nat} {a : Nat} (hal : ∀ a b, al a b ≤ 4) : ∀ (b : Nat) (x : Int32 × Nat), x.2 ≤ 5 → (askB al a b x).2 ≤ 5
  | 0, x, h => h
  | b + 1, x, h => by
    dsimp only [askB]
    split
    · have := hal a (b + 1); show al a (b + 1) ≤ 5; omega
    · exact askB_le hal b x h
theorem askA_le {al : Nat → Nat → Nat} (hal : ∀ a b, al a b ≤ 4) : ∀ a, (askA al a).2 ≤ 5
  | 0 => Nat.le_refl 5
  | a + 1 => askB_le hal 4 _ (askA_le hal a)
def tkv (β : Nat → Bool) (t : Nat → Nat) (m : Nat) : Int32 := if β (m + 1) then nI (t (m + 1)) else -1 - nI m
theorem tk_neg : ∀ m, m < 4 → ∀ x, x ≤ 4000 → ¬ nI x = -1 - nI m := by
  intro m hm x hx e
  have := congrArg Int32.toInt e
  rw [nI_toInt (by omega)] at this
  rcases (by omega : m = 0 ∨ m = 1 ∨ m = 2 ∨ m = 3) with rfl | rfl | rfl | rfl
  · have h2 : (-1 - nI 0).toInt = -1 := by decide
    omega
  · have h2 : (-1 - nI 1).toInt = -2 := by decide
    omega
  · have h2 : (-1 - nI 2).toInt = -3 := by decide
    omega
  · have h2 : (-1 - nI 3).toInt = -4 := by decide
    omega
theorem tk_cnt {β : Nat → Bool} {t : Nat → Nat} {m k : Nat} (hm : m < 4) (ht : ∀ x, t x ≤ 4000) : (tkv β t k = tkv β t m ∧ β (k + 1) = true) ↔ (β (m + 1) = true ∧ (β (k + 1) = true ∧ t (k + 1) = t (m + 1))) := by
  unfold tkv
  have h1 := ht (k + 1)
  have h2 := ht (m + 1)
  constructor
  · rintro ⟨e, hb⟩
    rw [hb, if_pos rfl] at e
    cases hm2 : β (m + 1) with
    | true =>
      rw [hm2, if_pos rfl] at e
      exact ⟨rfl, hb, (nI_eq (by omega) (by omega)).mp e⟩
    | false =>
      rw [hm2] at e
      exact absurd e (tk_neg m hm _ h1)
  · rintro ⟨hb, hk, e⟩
    rw [hb, hk, e, if_pos rfl, if_pos rfl]
    exact ⟨rfl, rfl⟩
