/-! one call of the law on both sides -/
abbrev SX : Type := (Nat → Nat → Row) × Nat × Row × Row × Row × Row
abbrev lvP (g : GG) (b : Nat → Nat) (wa : Nat → Nat → Nat) (um q : Nat) (fk : Row) (z : SX) : va_W := lvB g b wa (nI z.2.1) (nI um) (nI q) fk z.2.2.1 z.2.2.2.1 z.2.2.2.2.1 z.2.2.2.2.2 ++ WS g wa z.1
def InvZ (z : SX) (f fp fi fk fs : Row) (um q T : Nat) : Prop := Inv z.1 z.2.2.1 z.2.2.2.1 z.2.2.2.2.1 f fp fi fk fs z.2.1 um q T
/-- both methods answer the same, and the tie goes on -/
def Both (l : Launch) (g : GG) (yX : MethodName) (cX : ByteArray) (nX : Nat) (yM : MethodName) (cM : ByteArray) (nM : Nat) (As : List Value) (z : SX) (f fp fi fk fs : Row) (um q T : Nat) : Prop :=
  ∃ (ans : Int32) (f' fp' fi' fk' fs' : Row) (um' q' dX dM : Nat), dX ≤ 8 ∧ dM ≤ 8 ∧
    (∀ (b : Nat → Nat) (wa : Nat → Nat → Nat), CtE l g yX cX nX (some .int) dX (.ref (b 0) :: As) (lvP g b wa um q fk z) (some (.int ans)) (fun u : {z : SX // InvZ z f' fp' fi' fk' fs' um' q' (T + 20)} => lvP g b wa um' q' fk' u.1)) ∧
    ∀ (a : Nat → Nat) (th : Int32) (fw ft : Row), CtE l g yM cM nM (some .int) dM (.ref (a 0) :: As) (mW g a th (nI um) (nI q) f fw fp fi fk fs ft) (some (.int ans)) (fun u : Row × Row => mW g a (nI 0) (nI um') (nI q') f' u.1 fp' fi' fk' fs' u.2)
theorem Inv.more {V : Nat → Nat → Row} {sa sb sr f fp fi fk fs : Row} {pn um q T T' : Nat} (h : Inv V sa sb sr f fp fi fk fs pn um q T) (hT : T ≤ T') : Inv V sa sb sr f fp fi fk fs pn um q T' := by
  obtain ⟨h1, h2, h3, h4, h5, h6, h7⟩ := h
  exact ⟨h1.more hT, h2, h3, fun i hi => (h4 i hi).more hT, fun k hk hn => (h5 k hk hn).more hT, h6, h7⟩
/-- a call that changes nothing on either side -/
theorem Both.same {l : Launch} {g : GG} {yX : MethodName} {cX : ByteArray} {nX : Nat} {yM : MethodName} {cM : ByteArray} {nM : Nat} {As : List Value} {V : Nat → Nat → Row} {pn : Nat} {sa sb sr rb f fp fi fk fs : Row} {um q T : Nat} (hI : Inv V sa sb sr f fp fi fk fs pn um q T) (ans : Int32) (dX dM : Nat) (hdX : dX ≤ 8) (hdM : dM ≤ 8) (hX : ∀ (b : Nat → Nat) (wa : Nat → Nat → Nat), Ct l g yX cX nX (some .int) dX (.ref (b 0) :: As) (lvB g b wa (nI pn) (nI um) (nI q) fk sa sb sr rb ++ WS g wa V) (some (.int ans)) (lvB g b wa (nI pn) (nI um) (nI q) fk sa sb sr rb ++ WS g wa V)) (hM : ∀ (a : Nat → Nat) (th : Int32) (fw ft : Row), Ct l g yM cM nM (some .int) dM (.ref (a 0) :: As) (mW g a th (nI um) (nI q) f fw fp fi fk fs ft) (some (.int ans)) (mW g a (nI 0) (nI um) (nI q) f fw fp fi fk fs ft)) : Both l g yX cX nX yM cM nM As (V, pn, sa, sb, sr, rb) f fp fi fk fs um q T :=
  ⟨ans, f, fp, fi, fk, fs, um, q, dX, dM, hdX, hdM, fun b wa => (hX b wa).toE ⟨(V, pn, sa, sb, sr, rb), hI.more (Nat.le_add_right _ _)⟩ rfl, fun a th fw ft => (hM a th fw ft).toE (fw, ft) rfl⟩
theorem both_count (l : Launch) (g : GG) (V : Nat → Nat → Row) (pn : Nat) (sa sb sr rb f fp fi fk fs : Row) (um q T : Nat) (hT : T < 800000) (hI : Inv V sa sb sr f fp fi fk fs pn um q T) (x : Int32) : Both l g yX5_count cX5_count 2 yX6_count cX6_count 2 [.int x] (V, pn, sa, sb, sr, rb) f fp fi fk fs um q T := by
  have hI0 := hI
  obtain ⟨⟨n, mv, ph, wr, t, ac, hR, ht, hac, h4⟩, hpn, hum, hpast, him, hq, hsn⟩ := hI
  cases hb : inB x (nI 0) (nI 10) with
  | false => exact Both.same hI0 (-1) 7 1 (by omega) (by omega) (fun b wa => c_X5_count_bad l g b wa fk sa sb sr rb V (nI pn) (nI um) (nI q) x hb) (fun a th fw ft => c_X6_count_bad l g a th (nI um) (nI q) f fw fp fi fk fs ft x hb)
  | true =>
    obtain ⟨k, -, hk, rfl⟩ := inB_lit (by omega) (by omega) hb
    have hw : PHW f ph := fun i hi => by
      obtain ⟨bg, en, r, b1, b2, b3, b4, -⟩ := hR.2.1.2.2.2.1 i hi
      exact ⟨bg, en, b1, b2, b3, by omega⟩
    have hn := hR.1.1.2.1
    have hph := hR.1.1.2.2.2.2.1
    have hwr := hR.1.1.2.2.2.2.2
    rcases (by omega : k = 0 ∨ k = 1 ∨ k = 2 ∨ k = 3 ∨ k = 4 ∨ k = 5 ∨ k = 6 ∨ k = 7 ∨ k = 8 ∨ k = 9 ∨ k = 10) with rfl | rfl | rfl | rfl | rfl | rfl | rfl | rfl | rfl | rfl | rfl
    · exact Both.same hI0 _ 7 3 (by omega) (by omega) (fun b wa => c_X5_count_0 l g b wa fk sa sb sr rb V f n mv ph wr t hR (nI pn) (nI um) (nI q)) (fun a th fw ft => c_X6_count_0 l g a th (nI um) (nI q) f fw fp fi fk fs ft n ph wr hR.1.2.2.2.1 hph hn hR.1.2.1 hR.1.2.2.2.2.1 hwr hw)
    · exact Both.same hI0 _ 7 3 (by omega) (by omega) (fun b wa => c_X5_count_1 l g b wa fk sa sb sr rb V f n mv ph wr t hR (nI pn) (nI um) (nI q)) (fun a th fw ft => c_X6_count_1 l g a th (nI um) (nI q) f fw fp fi fk fs ft n ph wr hR.1.2.2.2.1 hph hn hR.1.2.1 hR.1.2.2.2.2.1 hwr hw)
    · exact Both.same hI0 _ 7 3 (by omega) (by omega) (fun b wa => c_X5_count_2 l g b wa fk sa sb sr rb V f n mv ph wr t hR (nI pn) (nI um) (nI q)) (fun a th fw ft => c_X6_count_2 l g a th (nI um) (nI q) f fw fp fi fk fs ft n ph wr hR.1.2.2.2.1 hph hn hR.1.2.1 hR.1.2.2.2.2.1 hwr hw)
    · exact Both.same hI0 _ 7 3 (by omega) (by omega) (fun b wa => c_X5_count_3 l g b wa fk sa sb sr rb V f n mv ph wr t hR (nI pn) (nI um) (nI q)) (fun a th fw ft => c_X6_count_3 l g a th (nI um) (nI q) f fw fp fi fk fs ft n ph wr hR.1.2.2.2.1 hph hn hR.1.2.1 hR.1.2.2.2.2.1 hwr hw)
    · exact Both.same hI0 _ 7 3 (by omega) (by omega) (fun b wa => c_X5_count_4 l g b wa fk sa sb sr rb V f n mv ph wr t hR (nI pn) (nI um) (nI q)) (fun a th fw ft => c_X6_count_4 l g a th (nI um) (nI q) f fw fp fi fk fs ft n ph wr hR.1.2.2.2.1 hph hn hR.1.2.1 hR.1.2.2.2.2.1 hwr hw)
    · exact Both.same hI0 _ 7 3 (by omega) (by omega) (fun b wa => c_X5_count_5 l g b wa fk sa sb sr rb V f n mv ph wr t hR (nI pn) (nI um) (nI q)) (fun a th fw ft => c_X6_count_5 l g a th (nI um) (nI q) f fw fp fi fk fs ft n ph wr hR.1.2.2.2.1 hph hn hR.1.2.1 hR.1.2.2.2.2.1 hwr hw)
    · exact Both.same hI0 _ 7 3 (by omega) (by omega) (fun b wa => c_X5_count_6 l g b wa fk sa sb sr rb V f n mv ph wr t hR (nI pn) (nI um) (nI q)) (fun a th fw ft => c_X6_count_6 l g a th (nI um) (nI q) f fw fp fi fk fs ft n ph wr hR.1.2.2.2.1 hph hn hR.1.2.1 hR.1.2.2.2.2.1 hwr hw)
    · exact Both.same hI0 _ 7 3 (by omega) (by omega) (fun b wa => c_X5_count_7 l g b wa fk sa sb sr rb V f n mv ph wr t hR (nI pn) (nI um) (nI q)) (fun a th fw ft => c_X6_count_7 l g a th (nI um) (nI q) f fw fp fi fk fs ft n ph wr hR.1.2.2.2.1 hph hn hR.1.2.1 hR.1.2.2.2.2.1 hwr hw)
    · exact Both.same hI0 _ 7 3 (by omega) (by omega) (fun b wa => c_X5_count_8 l g b wa fk sa sb sr rb V f n mv ph wr t hR (nI pn) (nI um) (nI q)) (fun a th fw ft => c_X6_count_8 l g a th (nI um) (nI q) f fw fp fi fk fs ft n ph wr hR.1.2.2.2.1 hph hn hR.1.2.1 hR.1.2.2.2.2.1 hwr hw)
    · exact Both.same hI0 _ 7 3 (by omega) (by omega) (fun b wa => c_X5_count_9 l g b wa fk sa sb sr rb V f n mv ph wr t hR (nI pn) (nI um) (nI q)) (fun a th fw ft => c_X6_count_9 l g a th (nI um) (nI q) f fw fp fi fk fs ft n ph wr hR.1.2.2.2.1 hph hn hR.1.2.1 hR.1.2.2.2.2.1 hwr hw)
    · exact Both.same hI0 _ 7 3 (by omega) (by omega) (fun b wa => c_X5_count_10 l g b wa fk sa sb sr rb V f n mv ph wr t hR (nI pn) (nI um) (nI q)) (fun a th fw ft => c_X6_count_10 l g a th (nI um) (nI q) f fw fp fi fk fs ft n ph wr hR.1.2.2.2.1 hph hn hR.1.2.1 hR.1.2.2.2.2.1 hwr hw)
