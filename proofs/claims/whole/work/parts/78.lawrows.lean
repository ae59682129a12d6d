/-! rows of the law's own walk -/
abbrev lwP (g : GG) (b a : Nat → Nat) (wa : Nat → Nat → Nat) (z : SX) (th : Int32) (um q : Nat) (f fw fp fi fk fs ft : Row) : va_W := lvP g b wa um q fk z ++ mW g a th (nI um) (nI q) f fw fp fi fk fs ft
theorem wW_len (g : GG) (a : Nat → Nat) (V : Nat → Row) : (wW g a V).length = 45 := rfl
theorem lvP_len (g : GG) (b : Nat → Nat) (wa : Nat → Nat → Nat) (um q : Nat) (fk : Row) (z : SX) : (lvP g b wa um q fk z).length = 413 := by
  rw [List.length_append]
  unfold WS WSf
  simp only [List.length_append, wW_len]
  rfl
theorem lwP_m {g : GG} {b a : Nat → Nat} {wa : Nat → Nat → Nat} {z : SX} {th : Int32} {um q um2 q2 : Nat} {f fw fp fi fk fk2 fs ft : Row} : (lvP g b wa um q fk z ++ mW g a th (nI um2) (nI q2) f fw fp fi fk2 fs ft)[413]? = some (mOb a th (nI um2) (nI q2)) := by
  rw [List.getElem?_append_right (by rw [lvP_len]; exact Nat.le_refl _), lvP_len]; rfl
theorem lwX {S : Type} {l : Launch} {g : GG} {y : MethodName} {cc : ByteArray} {n : Nat} {rt : Option FieldType} {d : Nat} {av : List Value} {w0 : va_W} {ans : Option Value} {w1 : S → va_W} (h : CtE l g y cc n rt d av w0 ans w1) (M : va_W) : CtE l g y cc n rt d av (w0 ++ M) ans (fun u => w1 u ++ M) := h.frameP M (List.Perm.refl _) (fun u => ⟨u, List.Perm.refl _⟩)
theorem lwM {S : Type} {l : Launch} {g : GG} {y : MethodName} {cc : ByteArray} {n : Nat} {rt : Option FieldType} {d : Nat} {av : List Value} {w0 : va_W} {ans : Option Value} {w1 : S → va_W} (h : CtE l g y cc n rt d av w0 ans w1) (X : va_W) : CtE l g y cc n rt d av (X ++ w0) ans (fun u => X ++ w1 u) := h.frameP X List.perm_append_comm (fun u => ⟨u, List.perm_append_comm⟩)
theorem lwX_fst {g : GG} {b : Nat → Nat} {wa : Nat → Nat → Nat} {um q um2 q2 : Nat} {fk fk2 : Row} {z z2 : SX} {M : va_W} : (lvP g b wa um2 q2 fk2 z2 ++ M).map Prod.fst = (lvP g b wa um q fk z ++ M).map Prod.fst := by
  have e := lv_fst (g := g) (wa := wa) (V := z.1) (V' := z2.1) (B := lvB g b wa (nI z.2.1) (nI um) (nI q) fk z.2.2.1 z.2.2.2.1 z.2.2.2.2.1 z.2.2.2.2.2) (B' := lvB g b wa (nI z2.2.1) (nI um2) (nI q2) fk2 z2.2.2.1 z2.2.2.2.1 z2.2.2.2.2.1 z2.2.2.2.2.2) rfl
  rw [List.map_append, e, ← List.map_append]
theorem r_scr {p : Program} {l : Launch} {e : Env} {R : Room} {s : State} {m : MethodId} {args : Array Value} {below : List Frame} {meth : Method} {c : Code} {H : Heap} {locs : List Loc} {cells slots : Nat} {Q : State → Prop} {g : GG} {A : Nat → Prop} {cc : ByteArray} {nL : Nat} {own : String} {rt : Option FieldType} {d : Nat} {pc : Nat} {ls : Array Slot} {rest : List Value} {ws : va_W} (K : Cx p l R s m args meth c g A cc nL own rt d) (h : Hp g A s H locs ws) {b0 L j : Nat} {xs : Nat → Int32} (hX : va_X b0 L xs s s.heap) (hbl : b0 < s.heap.size) (hbA : ¬ A b0) (hj : j < L) (hL : L < 2 ^ 31) (dd : decode cc pc = .ok (.iaload, 1)) (kk : W p l e R s m args below meth c H locs cells slots Q (F0 m (pc + 1) ls (.int (xs j) :: rest))) : W p l e R s m args below meth c H locs cells slots Q (F0 m pc ls (.int (nI j) :: .ref b0 :: rest)) :=
  va_sld K.1.1 K.1.2.1 hX hbl hbA h.2.2 (vp_in_nI hj hL) dd (by rw [cl_nI hj hL]; exact kk)
