/-! constructors: contracts that make cells -/
def RMn (d mc ms : Nat) : Room := { frames := d, cells := mc, slots := ms, locals := 38 * d }
def cQN {S : Type} (g : GG) (w1 : S → va_W) (A : Nat → Prop) : Array Value → State → Outcome → State → Prop := fun _ st oc t => (oc = .returned none ∧ ∃ u : S, va_P g.1 vwCl (w1 u) t.heap ∧ va_D A (w1 u)) ∧ va_F A st t
def CtN {S : Type} (l : Launch) (g : GG) (y : MethodName) (cc : ByteArray) (n d mc ms : Nat) (av : List Value) (w0 : va_W) (w1 : S → va_W) : Prop :=
  ∀ sz, Met l y (MW y cc n none) (RMn d mc ms) (cPre g av w0 sz) (cQN g w1 (va_A w0 sz)) mc ms (va_A w0 sz)
def RtN {S : Type} (p : Program) (l : Launch) (e : Env) (R : Room) (s : State) (m : MethodId) (args : Array Value) (below : List Frame) (meth : Method) (c : Code) (g : GG) (A : Nat → Prop) (cc : ByteArray) (Q : State → Prop) (mc ms : Nat) (w1 : S → va_W) : Prop :=
  ∀ (u : S) (H : Heap) (locs : List Loc) (ls : Array Slot) (pc : Nat), decode cc pc = .ok (.return_, 1) → Hp g A s H locs (w1 u) → W p l e R s m args below meth c H locs mc ms Q (F0 m pc ls [])
theorem CtN.start {S : Type} {l : Launch} {g : GG} {y : MethodName} {cc : ByteArray} {n d mc ms : Nat} {av : List Value} {w0 : va_W} {w1 : S → va_W} (hy : plainName y.cls = true) (hav : av.length ≤ n) (hcat : ∀ v ∈ av, v.category = 1)
    (body : ∀ (p : Program) (e : Env) (R : Room) (s : State) (m : MethodId) (args : Array Value) (below : List Frame) (meth : Method) (c : Code) (A : Nat → Prop) (Q : State → Prop), Cx p l R s m args meth c g A cc n y.cls none d → meth.name = y.name → mc ≤ R.cells → ms ≤ R.slots → RtN p l e R s m args below meth c g A cc Q mc ms w1 → Hp g A s s.heap [] w0 → ∀ ls : Array Slot, Lq ls n (lqi n av) → W p l e R s m args below meth c s.heap [] 0 0 Q (F0 m 0 ls [])) : CtN l g y cc n d mc ms av w0 w1 := by
  intro sz
  refine Met.ofW (cc := cc) (maxL := n) (ret := none) hy rfl ?_
  intro p e s m args below meth c s₁ B hml hv
  obtain ⟨rfl, hsz, hP, hK, hD0⟩ := hv
  subst hsz
  have hts : ∀ w ∈ BIG, w.before av.toArray s = true := fun w h => atoms_spec (ws := MW y cc n none) B.pre w (List.mem_cons_of_mem _ h)
  have hown : s.vm.findClass y.cls = some m.cls := findClass_of_methodNamed B.named
  have hlocks := B.notSynchronized
  rw [lg_entry_eq]
  refine body p e _ s m _ below meth c (va_A w0 s.heap.size) _ ⟨⟨B.exec, B.bytes, hml, hown, hts⟩, B.returns, hlocks, hK, fun q h => Or.inr h, Nat.le_refl _, Nat.le_refl _⟩ (name_of_methodNamed B.named B.method).1 (Nat.le_refl _) (Nat.le_refl _) ?_ ⟨hP, hD0.self, va_S.rf⟩ _ (Lq.entry av hav hcat)
  intro u H locs ls pc hd hH
  obtain ⟨hP1, hD1, hS1⟩ := hH
  exact W.vret B.exec B.bytes B.returns (fun t ht hW => ⟨⟨rfl, u, by rw [ht]; exact hP1, hD1⟩, hS1.F ht⟩) hS1.2.2 hd
theorem nI_negx {N : Nat} (h : N < 100000) : ¬ nI N < 0 := fun q => by
  have := Int32.lt_iff_toInt_lt.mp q
  rw [nI_toInt (by omega)] at this
  have e : (0 : Int32).toInt = 0 := rfl
  omega
section NEWS
variable {p : Program} {l : Launch} {e : Env} {R : Room} {s : State} {m : MethodId} {args : Array Value} {below : List Frame} {meth : Method} {c : Code} {H : Heap} {locs : List Loc} {cells slots : Nat} {Q : State → Prop}
variable {g : GG} {A : Nat → Prop} {cc : ByteArray} {nL : Nat} {own : String} {rt : Option FieldType} {d : Nat} {pc : Nat} {ls : Array Slot} {rest st0 : List Value} {ws : va_W} {lv : List (Option Value)}
theorem r_oi (K : Cx p l R s m args meth c g A cc nL own rt d) (hl : Lq ls nL lv) {idx a : Nat} (ml : Cond.methodLink own idx objectInit ∈ BIG) (hd : 1 ≤ d) (hrest : (rest.map fun v => v.category).sum ≤ 8) (dd : decode cc pc = .ok (.invokespecial idx, 3)) (kk : W p l e R s m args below meth c H locs cells slots Q (F0 m (pc + 3) ls rest)) : W p l e R s m args below meth c H locs cells slots Q (F0 m pc ls (.ref a :: rest)) := by
  obtain ⟨hcf, -, -, hK, hA, hR1, hR2⟩ := K
  refine W.objInit hcf.1 hcf.2.1 hcf.2.2.2.1 (hcf.2.2.2.2 _ ml) (hcf.2.2.2.2 _ oi_1) (hcf.2.2.2.2 _ oi_2) rfl ?_ rfl dd (by omega) ?_ kk
  · exact hl.2.1.1.trans hcf.2.2.1.symm
  · show 2 * 0 + _ + 12 ≤ R.locals
    omega
theorem cls_eq (hK : gK g s) {cA : ClassId} {ty : FieldType} {k : Nat} {c0 : ClassId} (h0 : (TYS g)[k]? = some (c0, ty)) (hK' : va_K g.1 vwCl (TYS g ++ [(cA, ty)]) s) : cA = c0 := by
  have a1 := (hK.1.2 k _ h0).2
  have a2 := (hK'.2 4 (cA, ty) rfl).2
  dsimp only at a1 a2
  cases ty with
  | object C =>
    obtain ⟨_, _, _, _, _, q1⟩ := a1
    obtain ⟨_, _, _, _, _, q2⟩ := a2
    exact Option.some.inj (q2.symm.trans q1)
  | _ => exact Option.some.inj (a2.symm.trans a1)
theorem r_newI (K : Cx p l R s m args meth c g A cc nL own rt d) (h : Hp g A s H locs ws) {N : Nat} (hN : N < 100000) (hc : cells + 1 ≤ R.cells) (hs : slots + N ≤ R.slots) (dd : decode cc pc = .ok (.newarray .int, 2)) (kk : ∀ (q : Nat) (H : Heap), Hp g A s H locs (ws ++ [aI g q N z0]) → W p l e R s m args below meth c H locs (cells + 1) (slots + N) Q (F0 m (pc + 2) ls (.ref q :: rest))) : W p l e R s m args below meth c H locs cells slots Q (F0 m pc ls (.int (nI N) :: rest)) := by
  obtain ⟨hcf, -, -, hK, hA, hR1, hR2⟩ := K
  refine va_newa (atype := .int) hcf.1 hcf.2.1 (hcf.2.2.2.2 _ ac_int) (ty := .int) rfl hK.1 h.1 h.2.1 h.2.2 hA (a0 := (N, .inl z0)) (fun _ => rfl) (nI_negx (by omega)) (nI_clamp (by omega)) (by show N * 4 ≤ _; omega) hc hs dd (fun q cA H1 hK' hP hD hS => kk q H1 ?_)
  have e := cls_eq hK (k := 0) rfl hK'
  subst e
  exact ⟨hP, hD, hS⟩
theorem r_newZ (K : Cx p l R s m args meth c g A cc nL own rt d) (h : Hp g A s H locs ws) {N : Nat} (hN : N < 100000) (hc : cells + 1 ≤ R.cells) (hs : slots + N ≤ R.slots) (dd : decode cc pc = .ok (.newarray .boolean, 2)) (kk : ∀ (q : Nat) (H : Heap), Hp g A s H locs (ws ++ [aZ g q N z0]) → W p l e R s m args below meth c H locs (cells + 1) (slots + N) Q (F0 m (pc + 2) ls (.ref q :: rest))) : W p l e R s m args below meth c H locs cells slots Q (F0 m pc ls (.int (nI N) :: rest)) := by
  obtain ⟨hcf, -, -, hK, hA, hR1, hR2⟩ := K
  refine va_newa (atype := .boolean) hcf.1 hcf.2.1 (hcf.2.2.2.2 _ ac_bool) (ty := .boolean) rfl hK.1 h.1 h.2.1 h.2.2 hA (a0 := (N, .inl z0)) (fun _ => rfl) (nI_negx (by omega)) (nI_clamp (by omega)) (by show N * 1 ≤ _; omega) hc hs dd (fun q cA H1 hK' hP hD hS => kk q H1 ?_)
  have e := cls_eq hK (k := 1) rfl hK'
  subst e
  exact ⟨hP, hD, hS⟩
theorem r_newA (K : Cx p l R s m args meth c g A cc nL own rt d) (h : Hp g A s H locs ws) {N idx k : Nat} {C : String} (hk : (TYS g)[k]? = some (g.2 k, .object C)) (hao : gK g s → va_AO C s) (cl : Cond.classLink own idx C ∈ BIG) (hN : N < 100000) (hc : cells + 1 ≤ R.cells) (hs : slots + N ≤ R.slots) (dd : decode cc pc = .ok (.anewarray idx, 3)) (kk : ∀ (q : Nat) (H : Heap), Hp g A s H locs (ws ++ [aR g k q N (fun _ => none)]) → W p l e R s m args below meth c H locs (cells + 1) (slots + N) Q (F0 m (pc + 3) ls (.ref q :: rest))) : W p l e R s m args below meth c H locs cells slots Q (F0 m pc ls (.int (nI N) :: rest)) := by
  obtain ⟨hcf, -, -, hK, hA, hR1, hR2⟩ := K
  refine va_newq hcf.1 hcf.2.1 hcf.2.2.2.1 (hcf.2.2.2.2 _ cl) (hao hK) hK.1 h.1 h.2.1 h.2.2 hA (nI_negx (by omega)) (nI_clamp (by omega)) (by omega) hc hs dd (fun q cA H1 hK' hP hD hS => kk q H1 ?_)
  have e := cls_eq hK hk hK'
  subst e
  exact ⟨hP, hD, hS⟩
/-- a new object -/
theorem r_new (K : Cx p l R s m args meth c g A cc nL own rt d) (h : Hp g A s H locs ws) {C : String} {T : u_T} {N ci idx : Nat} (hin : ∀ w ∈ u_ws C T N, w ∈ BIG) (ty : Nat → FieldType) (hty : ∀ k, k < N → parseFieldDescriptor (T k).2.2.1 = some (ty k)) (cl : Cond.classLink own idx C ∈ BIG) (is : Cond.instantiable C N ∈ BIG) (ini : Cond.initialized C ∈ BIG) (hci : vwCl[ci]? = some (C, T, N)) {fs : List Value} (hfs : ∀ j, j < N → defaultValue (ty j) = vp_V fs j) (hc : cells + 1 ≤ R.cells) (hs : slots + N ≤ R.slots) (dd : decode cc pc = .ok (.new idx, 3)) (kk : ∀ (q : Nat) (H : Heap), Hp g A s H locs (ws ++ [(q, .inr (ci, fs))]) → W p l e R s m args below meth c H locs (cells + 1) (slots + N) Q (F0 m (pc + 3) ls (.ref q :: rest))) : W p l e R s m args below meth c H locs cells slots Q (F0 m pc ls rest) := by
  obtain ⟨hcf, -, -, hK, hA, hR1, hR2⟩ := K
  exact va_new hcf.1 hcf.2.1 hcf.2.2.2.2 hin ty hty hcf.2.2.2.1 (hcf.2.2.2.2 _ cl) (hcf.2.2.2.2 _ is) (hcf.2.2.2.2 _ ini) hK.1 h.1 h.2.1 h.2.2 hA hci hfs hc hs dd (fun q H1 hP hD hS => kk q H1 ⟨hP, hD, hS⟩)
/-- a final field of a new object -/
theorem r_putF (K : Cx p l R s m args meth c g A cc nL own rt d) (hnm : meth.name = "<init>") (h : Hp g A s H locs ws) {idx ci k : Nat} (ff : FFd own idx ci k) {ty : FieldType} (pf : PFd ci k ty true) (hdc : ∀ r : vw_C, vwCl[ci]? = some r → (r.2.1 k).1 = own) (q0 : Nat) {a : Nat} {fs : List Value} {v : Value} (fs' : List Value) (ws' : va_W) (he : ws[q0]? = some (a, .inr (ci, fs))) (hn : narrow ty v = v) (hfit : fits ty v = true) (hl : k < fs.length) (hfs : fs.set k v = fs') (hws : ws.set q0 (a, .inr (ci, fs')) = ws') (dd : decode cc pc = .ok (.putfield idx, 3)) (kk : ∀ (H : Heap) (locs : List Loc), Hp g A s H locs ws' → W p l e R s m args below meth c H locs cells slots Q (F0 m (pc + 3) ls rest)) : W p l e R s m args below meth c H locs cells slots Q (F0 m pc ls (v :: .ref a :: rest)) := by
  obtain ⟨⟨C, T, N⟩, h1, h2, h3, h4⟩ := ff
  obtain ⟨r, ty0, h5, h6, h7, h8, h9⟩ := pf
  have hr : r = (C, T, N) := Option.some.inj (h5.symm.trans h1)
  subst hr
  refine va_putF (C := C) (T := T) (N := N) (Ts := BIG) K.1.1 K.1.2.1 K.1.2.2.2.2 h4 ty0 h6 h7 K.1.2.2.2.1 K.2.2.2.1.1 h.1 h.2.1 h.2.2 q0 he h1 k h2 (K.1.2.2.2.2 _ h3) (fun _ z => z) h8 hnm (hdc _ h1) h9 hn hfit hl dd (fun H1 locs1 hP hD hS => kk H1 locs1 ?_)
  rw [← hws, ← hfs]
  exact ⟨hP, hD, hS⟩
/-- an object into an array -/
theorem r_ast (K : Cx p l R s m args meth c g A cc nL own rt d) (h : Hp g A s H locs ws) (q0 t0 qk ci : Nat) {r : vw_C} {a n v j : Nat} {vs : List Value} {f : Nat → Option Nat} (ws' : va_W) (ha : ws[q0]? = some (a, .inl (g.2 t0, n, .inr (.inr (.inr (.inr f)))))) (ht : (TYS g)[t0]? = some (g.2 t0, .object r.1)) (hv : ws[qk]? = some (v, .inr (ci, vs))) (hc : vwCl[ci]? = some r) (hj : j < n) (hn : n < 2 ^ 31) (hws : ws.set q0 (a, .inl (g.2 t0, n, .inr (.inr (.inr (.inr (va_up f j (some v))))))) = ws') (dd : decode cc pc = .ok (.aastore, 1)) (kk : ∀ (H : Heap) (locs : List Loc), Hp g A s H locs ws' → W p l e R s m args below meth c H locs cells slots Q (F0 m (pc + 1) ls rest)) : W p l e R s m args below meth c H locs cells slots Q (F0 m pc ls (.ref v :: .int (nI j) :: .ref a :: rest)) := by
  refine va_astq K.1.1 K.1.2.1 K.2.2.2.1.1 h.1 h.2.1 h.2.2 q0 t0 qk ci ha ht hv hc (vp_in_nI hj hn) dd (fun H1 locs1 hP hD hS => kk H1 locs1 ?_)
  rw [cl_nI hj hn] at hP hD
  rw [← hws]
  exact ⟨hP, hD, hS⟩
/-- behind a constructor's call -/
theorem r_backN {S : Type} {w0 rs : va_W} {w1 : S → va_W} {mc ms : Nat} {a : Array Value} (hr : va_Run p l e R s m args below meth c H locs cells slots mc ms (F0 m pc ls st0) rest (cQN g w1 (va_A w0 H.size) a) (va_A w0 H.size)) (h : Hp g A s H locs (rs ++ w0)) (hA : ∀ q, s.heap.size ≤ q → A q)
    (kk : ∀ (u : S) (H : Heap) (locs : List Loc), Hp g A s H locs (rs ++ w1 u) → W p l e R s m args below meth c H locs (cells + mc) (slots + ms) Q (F0 m (pc + 3) ls rest)) : W p l e R s m args below meth c H locs cells slots Q (F0 m pc ls st0) := by
  have hf : ∀ q, va_A w0 H.size q → A q := fun q hq => by
    rw [A_mem] at hq
    rcases hq with ⟨e, hq⟩ | hq
    · obtain ⟨i, hi⟩ := List.getElem?_of_mem (List.mem_append_right rs hq)
      exact h.2.1.2 i (q, e) hi
    · exact hA q (Nat.le_trans h.2.2.1 hq)
  intro T hT X
  obtain ⟨v, st₀, t, T', L, h0, X', hL, e1, e2, ⟨⟨hv, u, hP1, hD1⟩, hz, hk⟩, st⟩ := hr T hT X
  cases hv
  rw [h0] at hz hk
  have hS : va_S A s.heap T'.heap (locs ++ L) := ⟨Nat.le_trans h.2.2.1 (by rw [e1]; exact hz), fun q h1 h2 => by rw [e1, hk q (Nat.lt_of_lt_of_le h1 h.2.2.1) (fun z => h2 (hf q z))]; exact h.2.2.2.1 q h1 h2, fun q hq => by
      rcases List.mem_append.mp hq with h1 | h1
      · exact h.2.2.2.2 q h1
      · exact hf _ (hL q h1)⟩
  have nd := D_nodup h.2.1
  rw [List.map_append] at nd
  have nd3 := List.nodup_append.mp nd
  have hno : ∀ q ∈ rs, ¬ va_A w0 H.size q.1 := fun q hq z => by
    rw [A_mem] at z
    rcases z with ⟨e, z⟩ | z
    · exact nd3.2.2 q.1 (List.mem_map.mpr ⟨_, hq, rfl⟩) q.1 (List.mem_map.mpr ⟨_, z, rfl⟩) rfl
    · have := (P_mem h.1 q (List.mem_append_left _ hq)).lt; omega
  have hb : Hp g A s T'.heap (locs ++ L) (rs ++ w1 u) := by
    refine ⟨fun k q hq => ?_, nodup_D ?_ (fun q hq => ?_), hS⟩
    · rcases List.mem_append.mp (List.mem_of_getElem? hq) with h1 | h1
      · have hat := P_mem h.1 q (List.mem_append_left _ h1)
        exact hat.kept (by rw [e1]; exact hk q.1 hat.lt (hno q h1))
      · rw [e1]; exact P_mem hP1 q h1
    · rw [List.map_append]
      refine List.nodup_append.mpr ⟨nd3.1, D_nodup hD1, fun x hx y hy exy => ?_⟩
      obtain ⟨q, hq, rfl⟩ := List.mem_map.mp hx
      obtain ⟨q', hq', rfl⟩ := List.mem_map.mp hy
      obtain ⟨i, hi⟩ := List.getElem?_of_mem hq'
      exact hno q hq (by rw [exy]; exact hD1.2 i q' hi)
    · rcases List.mem_append.mp hq with h1 | h1
      · obtain ⟨i, hi⟩ := List.getElem?_of_mem (List.mem_append_left w0 h1)
        exact h.2.1.2 i q hi
      · obtain ⟨i, hi⟩ := List.getElem?_of_mem h1
        exact hf _ (hD1.2 i q hi)
  obtain ⟨t2, a1, b1⟩ := kk u T'.heap (locs ++ L) hb T' rfl X'
  exact ⟨t2, st t2 a1, b1⟩
theorem r_ctor {S : Type} {w0 : va_W} (rs : va_W) {w1 : S → va_W} {y : MethodName} {bytes : ByteArray} {maxL d' mc ms idx b : Nat} (K : Cx p l R s m args meth c g A cc nL own rt d) (h : Hp g A s H locs ws) (hw : ws = rs ++ w0) (hl : Lq ls nL lv) (ct : CtN l g y bytes maxL d' mc ms [.ref b] w0 w1) (mc1 : MCd y bytes maxL none 0) (im : Cond.instanceMethod y ∈ BIG) (ml : Cond.methodLink own idx y ∈ BIG) (hy : y.name = "<init>") (hd : d' + 1 ≤ d) (hm : maxL ≤ 19) (hst : st0 = .ref b :: rest) (hrest : (rest.map fun v => v.category).sum ≤ 8) (hcs : cells + mc ≤ R.cells ∧ slots + ms ≤ R.slots) (dd : decode cc pc = .ok (.invokespecial idx, 3))
    (kk : ∀ (u : S) (H : Heap) (locs : List Loc), Hp g A s H locs (rs ++ w1 u) → W p l e R s m args below meth c H locs (cells + mc) (slots + ms) Q (F0 m (pc + 3) ls rest)) : W p l e R s m args below meth c H locs cells slots Q (F0 m pc ls st0) := by
  subst hw
  obtain ⟨hcf, -, -, hK, hA, hR1, hR2⟩ := K
  have hP0 : va_P g.1 vwCl w0 H := fun k q hk => P_mem h.1 q (List.mem_append_right _ (List.mem_of_getElem? hk))
  have nd := D_nodup h.2.1
  rw [List.map_append] at nd
  have hD0 : va_D (fun _ => True) w0 := nodup_D (List.nodup_append.mp nd).2.1 (fun _ _ => trivial)
  refine r_backN (rest := rest) (va_runI (As := []) (rest := rest) hcf (ct H.size) ⟨callB_of 0 hcf.2.2.2.2 (mw_good mc1.1) rfl rfl rfl (hcf.2.2.2.2 _ mc1.2.1) (hcf.2.2.2.2 _ ml) mc1.2.2 ⟨show d' + 1 ≤ R.frames by omega, show 8 + (maxL + 11) + 38 * d' ≤ R.locals by omega⟩, hy, hcf.2.2.2.2 _ im⟩ ⟨cPre.blind, fun U hU hW => ⟨rfl, by rw [hU], by rw [hU]; exact hP0, hK.warm hW, hD0⟩⟩ rfl rfl hl.2.1.1 hst (lv_room hrest) dd hcs) h hA kk
theorem r_ctorN {S : Type} {w0 : va_W} (rs : va_W) {w1 : S → va_W} {y : MethodName} {bytes : ByteArray} {maxL d' mc ms idx b : Nat} (K : Cx p l R s m args meth c g A cc nL own rt d) (h : Hp g A s H locs ws) (hw : ws = rs ++ w0) (hl : Lq ls nL lv) (ct : CtN l g y bytes maxL d' mc ms [.ref b] w0 w1) (mc1 : MCd y bytes maxL none 0) (im : Cond.instanceMethod y ∈ BIG) {host : String} (ml : NS s → va_Nw (.methodLinkNest own idx y host) s) (hy : y.name = "<init>") (hd : d' + 1 ≤ d) (hm : maxL ≤ 19) (hst : st0 = .ref b :: rest) (hrest : (rest.map fun v => v.category).sum ≤ 8) (hcs : cells + mc ≤ R.cells ∧ slots + ms ≤ R.slots) (dd : decode cc pc = .ok (.invokespecial idx, 3))
    (kk : ∀ (u : S) (H : Heap) (locs : List Loc), Hp g A s H locs (rs ++ w1 u) → W p l e R s m args below meth c H locs (cells + mc) (slots + ms) Q (F0 m (pc + 3) ls rest)) : W p l e R s m args below meth c H locs cells slots Q (F0 m pc ls st0) := by
  subst hw
  obtain ⟨hcf, -, -, hK, hA, hR1, hR2⟩ := K
  have hP0 : va_P g.1 vwCl w0 H := fun k q hk => P_mem h.1 q (List.mem_append_right _ (List.mem_of_getElem? hk))
  have nd := D_nodup h.2.1
  rw [List.map_append] at nd
  have hD0 : va_D (fun _ => True) w0 := nodup_D (List.nodup_append.mp nd).2.1 (fun _ _ => trivial)
  refine r_backN (rest := rest) (va_runIN (As := []) (rest := rest) hcf (ct H.size) ⟨va_cnB 0 hcf.2.2.2.2 (mw_good mc1.1) rfl rfl rfl (ml hK.2.1) (hcf.2.2.2.2 _ mc1.2.1) mc1.2.2 ⟨show d' + 1 ≤ R.frames by omega, show 8 + (maxL + 11) + 38 * d' ≤ R.locals by omega⟩, hy, hcf.2.2.2.2 _ im⟩ ⟨cPre.blind, fun U hU hW => ⟨rfl, by rw [hU], by rw [hU]; exact hP0, hK.warm hW, hD0⟩⟩ rfl rfl hl.2.1.1 hst (lv_room hrest) dd hcs) h hA kk
end NEWS
