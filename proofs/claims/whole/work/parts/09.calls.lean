/-! calls of methods that make nothing -/
theorem mw_good {y : MethodName} {cc : ByteArray} {n : Nat} {r : Option FieldType} (h : Cond.code y cc n r ∈ BIG) : GoodIn BIG (MW y cc n r) := fun w hw => (List.mem_cons.mp hw).elim (fun e => by rw [e]; exact ⟨h, big_good h⟩) (fun h2 => ⟨h2, big_good h2⟩)
section CALLS
variable {p : Program} {l : Launch} {e : Env} {R : Room} {s : State} {m : MethodId} {args : Array Value} {below : List Frame} {meth : Method} {c : Code} {H : Heap} {locs : List Loc} {cells slots : Nat} {Q : State → Prop}
variable {g : GG} {A : Nat → Prop} {cc : ByteArray} {nL : Nat} {own : String} {rt : Option FieldType} {d : Nat} {pc : Nat} {ls : Array Slot} {rest st0 : List Value} {ws w0 w1 : va_W} {lv : List (Option Value)}
variable {y : MethodName} {bytes : ByteArray} {maxL d' np idx : Nat} {rt' : Option FieldType} {As av : List Value} {ans : Option Value} {b : Nat}
theorem r_back {a : Array Value} (hr : va_Run p l e R s m args below meth c H locs cells slots 0 0 (F0 m pc ls st0) rest (cQ g ans w1 (va_A w0 H.size) a) (va_A w0 H.size)) (h : Hp g A s H locs ws) (hA : ∀ q, s.heap.size ≤ q → A q) (isC : List Nat) (hC : isC.map (fun i => ws[i]?) = w0.map some) (hs : w1.map Prod.fst = w0.map Prod.fst) {ws' : va_W} (hws : putAt ws isC w1 = ws')
    (kk : ∀ (H : Heap) (locs : List Loc), Hp g A s H locs ws' → W p l e R s m args below meth c H locs cells slots Q (F0 m (pc + 3) ls (ans.toList ++ rest))) : W p l e R s m args below meth c H locs cells slots Q (F0 m pc ls st0) := by
  have hf : ∀ q, va_A w0 H.size q → A q := fun q hq => by
    rcases hq with ⟨k, e, hk⟩ | hq
    · obtain ⟨i, -, h2⟩ := map_at hC hk
      exact h.2.1.2 i (q, e) h2
    · exact hA q (Nat.le_trans h.2.2.1 hq)
  intro T hT X
  obtain ⟨v, st₀, t, T', L, h0, X', hL, e1, e2, ⟨⟨hv, hP1⟩, hz, hk⟩, st⟩ := hr T hT X
  cases hv
  rw [h0] at hz hk
  have hS : va_S A s.heap T'.heap (locs ++ L) := ⟨Nat.le_trans h.2.2.1 (by rw [e1]; exact hz), fun q h1 h2 => by rw [e1, hk q (Nat.lt_of_lt_of_le h1 h.2.2.1) (fun z => h2 (hf q z))]; exact h.2.2.2.1 q h1 h2, fun q hq => by
      rcases List.mem_append.mp hq with h1 | h1
      · exact h.2.2.2.2 q h1
      · exact hf _ (hL q h1)⟩
  have hb := h.back (H1 := T'.heap) isC hC hs (by rw [e1]; exact hP1) (fun q h1 h2 => by rw [e1]; exact hk q h1 h2) hS
  rw [hws] at hb
  obtain ⟨t2, a1, b1⟩ := kk T'.heap (locs ++ L) hb T' rfl X'
  exact ⟨t2, st t2 a1, b1⟩
theorem sub_P {isC : List Nat} (h : Hp g A s H locs ws) (hC : isC.map (fun i => ws[i]?) = w0.map some) : va_P g.1 vwCl w0 H := fun k q hk => by
  obtain ⟨i, -, h2⟩ := map_at hC hk
  exact h.1 i q h2
theorem r_callV (K : Cx p l R s m args meth c g A cc nL own rt d) (h : Hp g A s H locs ws) (hl : Lq ls nL lv) (ct : Ct l g y bytes maxL rt' d' (.ref b :: As) w0 ans w1) (mc : MCd y bytes maxL rt' np) (vm : VMd y) (ml : Cond.methodLink own idx y ∈ BIG) (q0 : Nat) {ci : Nat} {fs : List Value} {r : vw_C} (hq : ws[q0]? = some (b, .inr (ci, fs))) (hc : vwCl[ci]? = some r) (hy : r.1 = y.cls) (isC : List Nat) (hn : va_nd isC = true) (hC : isC.map (fun i => ws[i]?) = w0.map some) (hs : w1.map Prod.fst = w0.map Prod.fst) (ws' : va_W) (hws : putAt ws isC w1 = ws') (hd : d' + 1 ≤ d) (hm : maxL ≤ 19) (hnp : As.length = np) (hst : st0 = As.reverse ++ .ref b :: rest) (hrest : (rest.map fun v => v.category).sum ≤ 8) (hcs : cells ≤ R.cells ∧ slots ≤ R.slots) (dd : decode cc pc = .ok (.invokevirtual idx, 3))
    (kk : ∀ (H : Heap) (locs : List Loc), Hp g A s H locs ws' → W p l e R s m args below meth c H locs cells slots Q (F0 m (pc + 3) ls (ans.toList ++ rest))) : W p l e R s m args below meth c H locs cells slots Q (F0 m pc ls st0) := by
  obtain ⟨hcf, -, -, hK, hA, hR1, hR2⟩ := K
  have hcw : CallW R s args own y.cls idx y bytes maxL rt' (MW y bytes maxL rt') (RM d') 0 0 np := ⟨callB_of np hcf.2.2.2.2 (mw_good mc.1) rfl rfl rfl (hcf.2.2.2.2 _ mc.2.1) (hcf.2.2.2.2 _ ml) mc.2.2 ⟨show d' + 1 ≤ R.frames by omega, show 8 + (maxL + 11) + 38 * d' ≤ R.locals by omega⟩, hcf.2.2.2.2 _ vm.1, hcf.2.2.2.2 _ vm.2⟩
  have hrv := va_recv hK.1 h.1 hc hq
  rw [hy] at hrv
  exact r_back (va_runV (As := As) (rest := rest) hcf (ct H.size) hcw ⟨cPre.blind, hrv, fun U hU hW => ⟨rfl, by rw [hU], by rw [hU]; exact sub_P h hC, hK.warm hW, (h.2.1.sub isC hn hC).weaken (fun _ _ _ _ => trivial)⟩⟩ rfl hnp hl.2.1.1 hst (lv_room hrest) dd hcs) h hA isC hC hs hws kk
theorem r_callS (K : Cx p l R s m args meth c g A cc nL own rt d) (h : Hp g A s H locs ws) (hl : Lq ls nL lv) (ct : Ct l g y bytes maxL rt' d' As w0 ans w1) (mc : MCd y bytes maxL rt' np) (sm : Cond.static y ∈ BIG) (ml : Cond.methodLink own idx y ∈ BIG) (isC : List Nat) (hn : va_nd isC = true) (hC : isC.map (fun i => ws[i]?) = w0.map some) (hs : w1.map Prod.fst = w0.map Prod.fst) (ws' : va_W) (hws : putAt ws isC w1 = ws') (hd : d' + 1 ≤ d) (hm : maxL ≤ 19) (hnp : As.length = np) (hst : st0 = As.reverse ++ rest) (hrest : (rest.map fun v => v.category).sum ≤ 8) (hcs : cells ≤ R.cells ∧ slots ≤ R.slots) (dd : decode cc pc = .ok (.invokestatic idx, 3))
    (kk : ∀ (H : Heap) (locs : List Loc), Hp g A s H locs ws' → W p l e R s m args below meth c H locs cells slots Q (F0 m (pc + 3) ls (ans.toList ++ rest))) : W p l e R s m args below meth c H locs cells slots Q (F0 m pc ls st0) := by
  obtain ⟨hcf, -, -, hK, hA, hR1, hR2⟩ := K
  have hcw : CallB R s args own idx y bytes maxL rt' (MW y bytes maxL rt') (RM d') 0 0 np := callB_of np hcf.2.2.2.2 (mw_good mc.1) rfl rfl rfl (hcf.2.2.2.2 _ mc.2.1) (hcf.2.2.2.2 _ ml) mc.2.2 ⟨show d' + 1 ≤ R.frames by omega, show 8 + (maxL + 11) + 38 * d' ≤ R.locals by omega⟩
  exact r_back (va_runS (As := As) (rest := rest) hcf (ct H.size) ⟨hcw, hcf.2.2.2.2 _ sm⟩ ⟨cPre.blind, fun U hU hW => ⟨rfl, by rw [hU], by rw [hU]; exact sub_P h hC, hK.warm hW, (h.2.1.sub isC hn hC).weaken (fun _ _ _ _ => trivial)⟩⟩ rfl hnp hl.2.1.1 hst (lv_room hrest) dd hcs) h hA isC hC hs hws kk
theorem r_callSN (K : Cx p l R s m args meth c g A cc nL own rt d) (h : Hp g A s H locs ws) (hl : Lq ls nL lv) (ct : Ct l g y bytes maxL rt' d' As w0 ans w1) (mc : MCd y bytes maxL rt' np) (sm : Cond.static y ∈ BIG) (ml : ∀ U, NS U → va_Nw (.methodLinkNest own idx y RX5) U) (isC : List Nat) (hn : va_nd isC = true) (hC : isC.map (fun i => ws[i]?) = w0.map some) (hs : w1.map Prod.fst = w0.map Prod.fst) (ws' : va_W) (hws : putAt ws isC w1 = ws') (hd : d' + 1 ≤ d) (hm : maxL ≤ 19) (hnp : As.length = np) (hst : st0 = As.reverse ++ rest) (hrest : (rest.map fun v => v.category).sum ≤ 8) (hcs : cells ≤ R.cells ∧ slots ≤ R.slots) (dd : decode cc pc = .ok (.invokestatic idx, 3))
    (kk : ∀ (H : Heap) (locs : List Loc), Hp g A s H locs ws' → W p l e R s m args below meth c H locs cells slots Q (F0 m (pc + 3) ls (ans.toList ++ rest))) : W p l e R s m args below meth c H locs cells slots Q (F0 m pc ls st0) := by
  obtain ⟨hcf, -, -, hK, hA, hR1, hR2⟩ := K
  have hcw : va_CN R s args own idx y RX5 bytes maxL rt' (MW y bytes maxL rt') (RM d') 0 0 np := va_cnB np hcf.2.2.2.2 (mw_good mc.1) rfl rfl rfl (ml s hK.2.1) (hcf.2.2.2.2 _ mc.2.1) mc.2.2 ⟨show d' + 1 ≤ R.frames by omega, show 8 + (maxL + 11) + 38 * d' ≤ R.locals by omega⟩
  exact r_back (va_runSN (As := As) (rest := rest) hcf (ct H.size) ⟨hcw, hcf.2.2.2.2 _ sm, trivial⟩ ⟨cPre.blind, fun U hU hW => ⟨rfl, by rw [hU], by rw [hU]; exact sub_P h hC, hK.warm hW, (h.2.1.sub isC hn hC).weaken (fun _ _ _ _ => trivial)⟩⟩ rfl hnp hl.2.1.1 hst (lv_room hrest) dd hcs) h hA isC hC hs hws kk
/-! the callee's picture is the caller's whole -/
theorem range_map (ws : va_W) : (List.range ws.length).map (fun i => ws[i]?) = ws.map some := by
  apply List.ext_getElem
  · simp
  · intro i h1 h2
    simp at h1 ⊢
theorem putAt_len : ∀ (is : List Nat) (ws es : va_W), (putAt ws is es).length = ws.length
  | [], ws, es => by rw [putAt]; intro _ _ _ _ h; cases h
  | i :: is, ws, [] => by rw [putAt]; intro _ _ _ _ _ h; cases h
  | i :: is, ws, e :: es => by rw [putAt, putAt_len is, List.length_set]
theorem putAt_all (ws es : va_W) (h : ws.length = es.length) : putAt ws (List.range ws.length) es = es := by
  apply List.ext_getElem
  · rw [putAt_len]; exact h
  · intro k h1 h2
    have hq : (putAt ws (List.range ws.length) es)[k]? = some ((putAt ws (List.range ws.length) es)[k]) := List.getElem?_eq_getElem h1
    rcases putAt_get _ es ws k _ (by simpa using h) hq with ⟨j, a1, a2⟩ | ⟨a1, a2⟩
    · have hj : j < ws.length := by have := (List.getElem?_eq_some_iff.mp a1).1; simpa using this
      rw [List.getElem?_range hj] at a1
      cases a1
      rw [List.getElem?_eq_getElem h2] at a2
      exact (Option.some.inj a2).symm
    · exact absurd (List.mem_range.mpr (by rw [h]; exact h2)) a2
theorem len_of_fst {w1 ws : va_W} (hs : w1.map Prod.fst = ws.map Prod.fst) : ws.length = w1.length := by
  have := congrArg List.length hs
  simpa using this.symm
theorem r_callVW (K : Cx p l R s m args meth c g A cc nL own rt d) (h : Hp g A s H locs ws) (hl : Lq ls nL lv) (ct : Ct l g y bytes maxL rt' d' (.ref b :: As) ws ans w1) (mc : MCd y bytes maxL rt' np) (vm : VMd y) (ml : Cond.methodLink own idx y ∈ BIG) (q0 : Nat) {ci : Nat} {fs : List Value} {r : vw_C} (hq : ws[q0]? = some (b, .inr (ci, fs))) (hc : vwCl[ci]? = some r) (hy : r.1 = y.cls) (hs : w1.map Prod.fst = ws.map Prod.fst) (ws' : va_W) (hws : w1 = ws') (hd : d' + 1 ≤ d) (hm : maxL ≤ 19) (hnp : As.length = np) (hst : st0 = As.reverse ++ .ref b :: rest) (hrest : (rest.map fun v => v.category).sum ≤ 8) (hcs : cells ≤ R.cells ∧ slots ≤ R.slots) (dd : decode cc pc = .ok (.invokevirtual idx, 3))
    (kk : ∀ (H : Heap) (locs : List Loc), Hp g A s H locs ws' → W p l e R s m args below meth c H locs cells slots Q (F0 m (pc + 3) ls (ans.toList ++ rest))) : W p l e R s m args below meth c H locs cells slots Q (F0 m pc ls st0) := by
  obtain ⟨hcf, -, -, hK, hA, hR1, hR2⟩ := K
  have hcw : CallW R s args own y.cls idx y bytes maxL rt' (MW y bytes maxL rt') (RM d') 0 0 np := ⟨callB_of np hcf.2.2.2.2 (mw_good mc.1) rfl rfl rfl (hcf.2.2.2.2 _ mc.2.1) (hcf.2.2.2.2 _ ml) mc.2.2 ⟨show d' + 1 ≤ R.frames by omega, show 8 + (maxL + 11) + 38 * d' ≤ R.locals by omega⟩, hcf.2.2.2.2 _ vm.1, hcf.2.2.2.2 _ vm.2⟩
  have hrv := va_recv hK.1 h.1 hc hq
  rw [hy] at hrv
  exact r_back (va_runV (As := As) (rest := rest) hcf (ct H.size) hcw ⟨cPre.blind, hrv, fun U hU hW => ⟨rfl, by rw [hU], by rw [hU]; exact h.1, hK.warm hW, h.2.1.weaken (fun _ _ _ _ => trivial)⟩⟩ rfl hnp hl.2.1.1 hst (lv_room hrest) dd hcs) h hA (List.range ws.length) (range_map ws) hs ((putAt_all ws w1 (len_of_fst hs)).trans hws) kk
end CALLS
