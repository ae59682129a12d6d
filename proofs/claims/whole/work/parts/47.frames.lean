/-! frames by permutation -/
theorem D_nodup {A : Nat → Prop} {ws : va_W} (h : va_D A ws) : (ws.map Prod.fst).Nodup := by
  unfold List.Nodup
  rw [List.pairwise_iff_getElem]
  intro i j hi hj hij e
  simp only [List.length_map] at hi hj
  rw [List.getElem_map, List.getElem_map] at e
  have := h.1 i j _ _ (List.getElem?_eq_getElem hi) (List.getElem?_eq_getElem hj) e
  omega
theorem nodup_D {A : Nat → Prop} {ws : va_W} (h : (ws.map Prod.fst).Nodup) (hA : ∀ q ∈ ws, A q.1) : va_D A ws := by
  unfold List.Nodup at h
  rw [List.pairwise_iff_getElem] at h
  refine ⟨fun i j x y hx hy e => ?_, fun k q hk => hA q (List.mem_of_getElem? hk)⟩
  obtain ⟨hi, hi2⟩ := List.getElem?_eq_some_iff.mp hx
  obtain ⟨hj, hj2⟩ := List.getElem?_eq_some_iff.mp hy
  rcases Nat.lt_trichotomy i j with hlt | rfl | hlt
  · exact absurd (by rw [List.getElem_map, List.getElem_map, hi2, hj2]; exact e) (h i j (by simpa using hi) (by simpa using hj) hlt)
  · rfl
  · exact absurd (by rw [List.getElem_map, List.getElem_map, hi2, hj2]; exact e.symm) (h j i (by simpa using hj) (by simpa using hi) hlt)
theorem P_mem {D : va_G} {ws : va_W} {H : Heap} (h : va_P D vwCl ws H) : ∀ q ∈ ws, va_at D vwCl q H := fun q hq => by
  obtain ⟨k, hk⟩ := List.getElem?_of_mem hq
  exact h k q hk
theorem A_mem {ws : va_W} {sz q : Nat} : va_A ws sz q ↔ (∃ e, (q, e) ∈ ws) ∨ sz ≤ q := by
  constructor
  · rintro (⟨k, e, h⟩ | h)
    · exact Or.inl ⟨e, List.mem_of_getElem? h⟩
    · exact Or.inr h
  · rintro (⟨e, h⟩ | h)
    · obtain ⟨k, hk⟩ := List.getElem?_of_mem h
      exact Or.inl ⟨k, e, hk⟩
    · exact Or.inr h
theorem Ct.frameP {l : Launch} {g : GG} {y : MethodName} {cc : ByteArray} {n : Nat} {rt : Option FieldType} {d : Nat} {av : List Value} {w0 : va_W} {ans : Option Value} {w1 : va_W} (h : Ct l g y cc n rt d av w0 ans w1) {ws ws' : va_W} (rest : va_W) (hp : ws.Perm (w0 ++ rest)) (hq : ws'.Perm (w1 ++ rest)) : Ct l g y cc n rt d av ws ans ws' := by
  intro sz
  have hA : ∀ q, va_A w0 sz q → va_A ws sz q := fun q z => by
    rw [A_mem] at z ⊢
    rcases z with ⟨e, z⟩ | z
    · exact Or.inl ⟨e, hp.mem_iff.mpr (List.mem_append_left _ z)⟩
    · exact Or.inr z
  refine (h sz).mono ?_ ?_ hA
  · rintro a s ⟨h1, h2, h3, h4, h5⟩
    have nd := (hp.map Prod.fst).nodup_iff.mp (D_nodup h5)
    rw [List.map_append] at nd
    exact ⟨h1, h2, fun k q hk => P_mem h3 q (hp.mem_iff.mpr (List.mem_append_left _ (List.mem_of_getElem? hk))), h4, nodup_D (List.nodup_append.mp nd).1 (fun _ _ => trivial)⟩
  · rintro a s o t ⟨-, h2, h3, -, h5⟩ ⟨⟨q1, q2⟩, q3⟩
    subst h2
    have nd := (hp.map Prod.fst).nodup_iff.mp (D_nodup h5)
    rw [List.map_append] at nd
    refine ⟨⟨q1, fun k q hk => ?_⟩, q3.1, fun q a b => q3.2 q a (fun z => b (hA q z))⟩
    rcases List.mem_append.mp (hq.mem_iff.mp (List.mem_of_getElem? hk)) with hm | hm
    · exact P_mem q2 q hm
    · have hat := P_mem h3 q (hp.mem_iff.mpr (List.mem_append_right _ hm))
      refine hat.kept (q3.2 q.1 hat.lt (fun z => ?_))
      rw [A_mem] at z
      rcases z with ⟨e, z⟩ | z
      · exact (List.nodup_append.mp nd).2.2 q.1 (List.mem_map.mpr ⟨_, z, rfl⟩) q.1 (List.mem_map.mpr ⟨_, hm, rfl⟩) rfl
      · have := hat.lt; omega
theorem CtE.frameP {S : Type} {l : Launch} {g : GG} {y : MethodName} {cc : ByteArray} {n : Nat} {rt : Option FieldType} {d : Nat} {av : List Value} {w0 : va_W} {ans : Option Value} {w1 : S → va_W} (h : CtE l g y cc n rt d av w0 ans w1) {ws : va_W} {S' : Type} {ws' : S' → va_W} (rest : va_W) (hp : ws.Perm (w0 ++ rest)) (hq : ∀ u, ∃ u', (ws' u').Perm (w1 u ++ rest)) : CtE l g y cc n rt d av ws ans ws' := by
  intro sz
  have hA : ∀ q, va_A w0 sz q → va_A ws sz q := fun q z => by
    rw [A_mem] at z ⊢
    rcases z with ⟨e, z⟩ | z
    · exact Or.inl ⟨e, hp.mem_iff.mpr (List.mem_append_left _ z)⟩
    · exact Or.inr z
  refine (h sz).mono ?_ ?_ hA
  · rintro a s ⟨h1, h2, h3, h4, h5⟩
    have nd := (hp.map Prod.fst).nodup_iff.mp (D_nodup h5)
    rw [List.map_append] at nd
    exact ⟨h1, h2, fun k q hk => P_mem h3 q (hp.mem_iff.mpr (List.mem_append_left _ (List.mem_of_getElem? hk))), h4, nodup_D (List.nodup_append.mp nd).1 (fun _ _ => trivial)⟩
  · rintro a s o t ⟨-, h2, h3, -, h5⟩ ⟨⟨q1, u, q2⟩, q3⟩
    subst h2
    have nd := (hp.map Prod.fst).nodup_iff.mp (D_nodup h5)
    rw [List.map_append] at nd
    obtain ⟨u', hq⟩ := hq u
    refine ⟨⟨q1, u', fun k q hk => ?_⟩, q3.1, fun q a b => q3.2 q a (fun z => b (hA q z))⟩
    rcases List.mem_append.mp (hq.mem_iff.mp (List.mem_of_getElem? hk)) with hm | hm
    · exact P_mem q2 q hm
    · have hat := P_mem h3 q (hp.mem_iff.mpr (List.mem_append_right _ hm))
      refine hat.kept (q3.2 q.1 hat.lt (fun z => ?_))
      rw [A_mem] at z
      rcases z with ⟨e, z⟩ | z
      · exact (List.nodup_append.mp nd).2.2 q.1 (List.mem_map.mpr ⟨_, z, rfl⟩) q.1 (List.mem_map.mpr ⟨_, hm, rfl⟩) rfl
      · have := hat.lt; omega
/-- a contract told is one with nothing untold -/
theorem Ct.toE {l : Launch} {g : GG} {y : MethodName} {cc : ByteArray} {n : Nat} {rt : Option FieldType} {d : Nat} {av : List Value} {w0 : va_W} {ans : Option Value} {w1 : va_W} (h : Ct l g y cc n rt d av w0 ans w1) {S : Type} {w1' : S → va_W} (u : S) (hu : w1' u = w1) : CtE l g y cc n rt d av w0 ans w1' := fun sz => (h sz).mono (fun _ _ q => q) (fun _ _ _ _ _ q => ⟨⟨q.1.1, u, by rw [hu]; exact q.1.2⟩, q.2⟩) (fun _ q => q)
section CALLSWE
variable {S : Type} {p : Program} {l : Launch} {e : Env} {R : Room} {s : State} {m : MethodId} {args : Array Value} {below : List Frame} {meth : Method} {c : Code} {H : Heap} {locs : List Loc} {cells slots : Nat} {Q : State → Prop}
variable {g : GG} {A : Nat → Prop} {cc : ByteArray} {nL : Nat} {own : String} {rt : Option FieldType} {d : Nat} {pc : Nat} {ls : Array Slot} {rest st0 : List Value} {ws : va_W} {w1 : S → va_W} {lv : List (Option Value)}
variable {y : MethodName} {bytes : ByteArray} {maxL d' np idx : Nat} {rt' : Option FieldType} {As : List Value} {ans : Option Value} {b : Nat}
theorem r_callVWE (K : Cx p l R s m args meth c g A cc nL own rt d) (h : Hp g A s H locs ws) (hl : Lq ls nL lv) (ct : CtE l g y bytes maxL rt' d' (.ref b :: As) ws ans w1) (mc : MCd y bytes maxL rt' np) (vm : VMd y) (ml : Cond.methodLink own idx y ∈ BIG) (q0 : Nat) {ci : Nat} {fs : List Value} {r : vw_C} (hq : ws[q0]? = some (b, .inr (ci, fs))) (hc : vwCl[ci]? = some r) (hy : r.1 = y.cls) (hs : ∀ u, (w1 u).map Prod.fst = ws.map Prod.fst) (hd : d' + 1 ≤ d) (hm : maxL ≤ 19) (hnp : As.length = np) (hst : st0 = As.reverse ++ .ref b :: rest) (hrest : (rest.map fun v => v.category).sum ≤ 8) (hcs : cells ≤ R.cells ∧ slots ≤ R.slots) (dd : decode cc pc = .ok (.invokevirtual idx, 3))
    (kk : ∀ (u : S) (H : Heap) (locs : List Loc), Hp g A s H locs (w1 u) → W p l e R s m args below meth c H locs cells slots Q (F0 m (pc + 3) ls (ans.toList ++ rest))) : W p l e R s m args below meth c H locs cells slots Q (F0 m pc ls st0) := by
  obtain ⟨hcf, -, -, hK, hA, hR1, hR2⟩ := K
  have hcw : CallW R s args own y.cls idx y bytes maxL rt' (MW y bytes maxL rt') (RM d') 0 0 np := ⟨callB_of np hcf.2.2.2.2 (mw_good mc.1) rfl rfl rfl (hcf.2.2.2.2 _ mc.2.1) (hcf.2.2.2.2 _ ml) mc.2.2 ⟨show d' + 1 ≤ R.frames by omega, show 8 + (maxL + 11) + 38 * d' ≤ R.locals by omega⟩, hcf.2.2.2.2 _ vm.1, hcf.2.2.2.2 _ vm.2⟩
  have hrv := va_recv hK.1 h.1 hc hq
  rw [hy] at hrv
  exact r_backE (va_runV (As := As) (rest := rest) hcf (ct H.size) hcw ⟨cPre.blind, hrv, fun U hU hW => ⟨rfl, by rw [hU], by rw [hU]; exact h.1, hK.warm hW, h.2.1.weaken (fun _ _ _ _ => trivial)⟩⟩ rfl hnp hl.2.1.1 hst (lv_room hrest) dd hcs) h hA (List.range ws.length) (range_map ws) hs (fun u => putAt_all ws (w1 u) (len_of_fst (hs u))) kk
end CALLSWE
