/-! what the reading calls answer, on the reference's row -/
section TSW
variable {p : Program} {l : Launch} {e : Env} {R : Room} {s : State} {m : MethodId} {args : Array Value} {below : List Frame} {meth : Method} {c : Code} {H : Heap} {locs : List Loc} {cells slots : Nat} {Q : State → Prop}
variable {g : GG} {A : Nat → Prop} {cc : ByteArray} {nL : Nat} {own : String} {rt : Option FieldType} {d : Nat} {pc : Nat} {ls : Array Slot} {rest : List Value}
theorem r_tsI (K : Cx p l R s m args meth c g A cc nL own rt d) {dflt lo hi : Int} {offs : Array Int} {len : Nat} {x : Int32} (off : Int) (tgt : Nat) (dd : decode cc pc = .ok (.tableswitch dflt lo hi offs, len)) (h1 : ¬ x.toInt < lo) (h2 : ¬ hi < x.toInt) (ho : offs[(x.toInt - lo).toNat]? = some off) (ht : (pc : Int) + off = (tgt : Int)) (kk : W p l e R s m args below meth c H locs cells slots Q (F0 m tgt ls rest)) : W p l e R s m args below meth c H locs cells slots Q (F0 m pc ls (.int x :: rest)) := lv_tableIn K.1.1 K.1.2.1 dd h1 h2 ho ht kk
theorem r_tsO (K : Cx p l R s m args meth c g A cc nL own rt d) {dflt lo hi : Int} {offs : Array Int} {len : Nat} {x : Int32} (tgt : Nat) (dd : decode cc pc = .ok (.tableswitch dflt lo hi offs, len)) (h : x.toInt < lo ∨ hi < x.toInt) (ht : (pc : Int) + dflt = (tgt : Int)) (kk : W p l e R s m args below meth c H locs cells slots Q (F0 m tgt ls rest)) : W p l e R s m args below meth c H locs cells slots Q (F0 m pc ls (.int x :: rest)) := lv_tableOut K.1.1 K.1.2.1 dd h ht kk
theorem r_lsw (K : Cx p l R s m args meth c g A cc nL own rt d) {dflt : Int} {ps : Array (Int × Int)} {len : Nat} {x : Int32} (off : Int) (tgt : Nat) (dd : decode cc pc = .ok (.lookupswitch dflt ps, len)) (hp : (ps.toList.zip (ps.toList.drop 1)).all (fun (a, next) => a.1 < next.1) = true) (ho : Op.lookupswitch.offset ps.toList dflt x.toInt = off) (ht : (pc : Int) + off = (tgt : Int)) (kk : W p l e R s m args below meth c H locs cells slots Q (F0 m tgt ls rest)) : W p l e R s m args below meth c H locs cells slots Q (F0 m pc ls (.int x :: rest)) := lv_lookup K.1.1 K.1.2.1 dd hp ho ht kk
end TSW
/-- it reads yet -/
def rdB (f : Row) (p : Nat) : Bool := decide (¬ f (32 + 42 * p + 0) = 0) && decide (f (32 + 42 * p + 5) = 0)
def mWA (f : Row) (n p : Nat) : Nat → Int32
  | 0 => f (32 + 42 * p + 0)
  | 1 => f (32 + 42 * p + 2)
  | 2 => if rdB f p then nI (rSt f p % n) else -9
  | 3 => f (32 + 42 * p + 4)
  | 8 => if f (32 + 42 * p + 0) = nI 2 then f (32 + 42 * p + 1) else -9
  | k => f (32 + 42 * p + 6 + k - 4)
def mRA (f : Row) (n p c k : Nat) : Int32 := if rdB f p = true ∧ c < rSt f p % n then f (32 + 42 * p + 14 + 6 * c + k) else -9
theorem WFx.st {f : Row} {n mv p : Nat} (h : WFx f n mv) (hp : p < n) (ha : ¬ f (32 + 42 * p + 0) = 0) : ∃ st, st ≤ 60 ∧ f (32 + 42 * p + 2) = nI st ∧ rSt f p = st := by
  obtain ⟨ph, wr, h⟩ := h
  have hp4 : p < 4 := by have := h.1.2.1; omega
  obtain ⟨kd, st, wh, hs, mm, hb⟩ := (h.2.2.2.2.2 p hp4).act ha
  have h60 := hb.st60 h.1.1 h.1.2.1 h.1.2.2.2.1
  exact ⟨st, h60, hb.2.1, rSt_of hb.2.1 (by omega)⟩
/-- what a cell had behind so many steps -/
def vAt (f : Row) (c : Nat) (t : Int32) : Nat → Int32
  | 0 => 0
  | i + 1 => if f (440 + 3 * i) ≤ t ∧ f (440 + 3 * i + 1) = nI c then f (440 + 3 * i + 2) else vAt f c t i
def okK (f : Row) (wr i t : Nat) : Nat → Bool
  | 0 => true
  | k + 1 => okK f wr i t k && decide (vAt f k (nI t) wr = f (200 + 10 * i + 6 + k))
theorem okK_no {f : Row} {wr i t : Nat} : ∀ (d k : Nat), okK f wr i t k = false → okK f wr i t (k + d) = false
  | 0, k, h => h
  | d + 1, k, h => by rw [← Nat.add_assoc, okK, okK_no d k h]; rfl
def momG (f : Row) (wr n i : Nat) : Nat → Nat → Int32
  | _, 0 => -9
  | t, j + 1 => if okK f wr i t n then nI t else momG f wr n i (t + 1) j
/-- the moment of photo i -/
def mMom (f : Row) (i : Nat) : Int32 := momG f (rWr f) (rN f) i (f (200 + 10 * i + 1)).toNatClampNeg ((f (200 + 10 * i + 2)).toNatClampNeg + 1 - (f (200 + 10 * i + 1)).toNatClampNeg)
def rdT (f : Row) (x : Int32) : Nat → Nat
  | 0 => 0
  | i + 1 => rdT f x i + (if f (200 + 10 * i + 3) = x then 1 else 0)
def rdA (f : Row) (x : Int32) : Nat → Int32
  | 0 => -9
  | i + 1 => if x < f (200 + 10 * i + 3) ∧ (rdA f x i = -9 ∨ f (200 + 10 * i + 3) < rdA f x i) then f (200 + 10 * i + 3) else rdA f x i
def rdZ (f : Row) (x : Int32) : Nat → Int32
  | 0 => -9
  | i + 1 => if f (200 + 10 * i + 3) < x ∧ rdZ f x i < f (200 + 10 * i + 3) then f (200 + 10 * i + 3) else rdZ f x i
def mRds (f : Row) (x : Int32) (ph : Nat) : Nat → Int32
  | 0 => nI (rdT f x ph)
  | 1 => rdA f x ph
  | _ => rdZ f x ph
/-- steps enough are left till writer p is idle -/
def MB (f : Row) (p j : Nat) : Prop := f (32 + 42 * p + 0) = 0 ∨ 61 ≤ rSt f p + j
theorem MB.of {f : Row} {p j : Nat} (h : 61 ≤ j) : MB f p j := Or.inr (by omega)
theorem MB.pos {f : Row} {n mv p : Nat} (hx : WFx f n mv) (hp : p < n) (h : MB f p 0) : f (32 + 42 * p + 0) = 0 := by
  rcases h with h | h
  · exact h
  · by_cases ha : f (32 + 42 * p + 0) = 0
    · exact ha
    · obtain ⟨st, h1, h2, h3⟩ := hx.st hp ha; omega
theorem wfx_more {f : Row} {n mv p : Nat} (hx : WFx f n mv) (hp : p < n) (ha : ¬ f (32 + 42 * p + 0) = 0) : mStep f p (32 + 42 * p + 0) = 0 ∨ rSt (mStep f p) p = rSt f p + 1 := by
  obtain ⟨ph, wr, h⟩ := hx
  have hp4 : p < 4 := by have := h.1.2.1; omega
  obtain ⟨kd, st, wh, hs, mm, hb⟩ := (h.2.2.2.2.2 p hp4).act ha
  have h60 := hb.st60 h.1.1 h.1.2.1 h.1.2.2.2.1
  obtain ⟨ph', wr', h1, h2 | ⟨kd', wh', hs', mm', h2⟩, -⟩ := wf_step h hp hb
  · exact Or.inl (h2 0 (by omega))
  · right; rw [rSt_of hb.2.1 (by omega), rSt_of h2.2.1 (by omega)]
theorem MB.step {f : Row} {n mv p j : Nat} (hx : WFx f n mv) (hp : p < n) (ha : ¬ f (32 + 42 * p + 0) = 0) (h : MB f p (j + 1)) : MB (mStep f p) p j := by
  rcases wfx_more hx hp ha with h1 | h1
  · exact Or.inl h1
  · rcases h with h | h
    · exact absurd h ha
    · right; omega
/-- another writer's step leaves a writer's part -/
theorem wfx_other {f : Row} {n mv p p' : Nat} (hx : WFx f n mv) (hp : p < n) (ha : ¬ f (32 + 42 * p + 0) = 0) (hp' : p' < 4) (hne : p' ≠ p) (i : Nat) (hi : i < 42) : mStep f p (32 + 42 * p' + i) = f (32 + 42 * p' + i) := by
  obtain ⟨ph, wr, h⟩ := hx
  have hp4 : p < 4 := by have := h.1.2.1; omega
  obtain ⟨kd, st, wh, hs, mm, hb⟩ := (h.2.2.2.2.2 p hp4).act ha
  obtain ⟨ph', wr', h1, -, h3⟩ := wf_step h hp hb
  exact h3 _ (by omega) (by omega) (by omega) (by omega) (by omega) (by omega) (by omega)
theorem MB.other {f : Row} {n mv p p' j : Nat} (hx : WFx f n mv) (hp : p < n) (ha : ¬ f (32 + 42 * p + 0) = 0) (hp' : p' < 4) (hne : p' ≠ p) (h : MB f p' j) : MB (mStep f p) p' j := by
  rcases h with h | h
  · exact Or.inl ((wfx_other hx hp ha hp' hne 0 (by omega)).trans h)
  · right; unfold rSt; rw [wfx_other hx hp ha hp' hne 2 (by omega)]; exact h
theorem MB.more {f : Row} {p j k : Nat} (h : MB f p j) (hk : j ≤ k) : MB f p k := h.elim Or.inl (fun h => Or.inr (by omega))
/-- one round: each writer that has an act does a step, by numbers -/
def rnF (f : Row) : Nat → Row
  | 0 => f
  | k + 1 => if rnF f k (32 + 42 * k + 0) = 0 then rnF f k else mStep (rnF f k) k
def rnC (f : Row) : Nat → Nat
  | 0 => 0
  | k + 1 => if rnF f k (32 + 42 * k + 0) = 0 then rnC f k else rnC f k + 1
/-- whether one of the first k writers has an act -/
def anyA (f : Row) : Nat → Bool
  | 0 => false
  | k + 1 => anyA f k || decide (¬ f (32 + 42 * k + 0) = 0)
/-- by turns, so many rounds at most -/
def btF (f : Row) (n : Nat) : Nat → Row
  | 0 => f
  | j + 1 => if anyA f n then btF (rnF f n) n j else f
def btC (f : Row) (n : Nat) : Nat → Nat
  | 0 => 0
  | j + 1 => if anyA f n then rnC f n + btC (rnF f n) n j else 0
theorem anyA_no {f : Row} : ∀ k, anyA f k = false → ∀ p, p < k → f (32 + 42 * p + 0) = 0
  | 0, _, p, h => by omega
  | k + 1, h, p, hp => by
    rw [anyA, Bool.or_eq_false_iff] at h
    by_cases e : p = k
    · subst e; exact Decidable.not_not.mp (of_decide_eq_false h.2)
    · exact anyA_no k h.1 p (by omega)
theorem anyA_none {f : Row} : ∀ k, (∀ p, p < k → f (32 + 42 * p + 0) = 0) → anyA f k = false
  | 0, _ => rfl
  | k + 1, h => by rw [anyA, anyA_none k (fun p hp => h p (by omega)), decide_eq_false (fun q => q (h k (by omega)))]; rfl
theorem rn_wf {f : Row} {n mv : Nat} (hx : WFx f n mv) : ∀ k, k ≤ n → WFx (rnF f k) n mv
  | 0, _ => hx
  | k + 1, hk => by
    rw [rnF]
    split
    · exact rn_wf hx k (by omega)
    · rename_i ha; exact wfx_step (rn_wf hx k (by omega)) (by omega) ha
/-- a writer whose turn hasn't come is as it was; the others have one step less -/
theorem rn_MB {f : Row} {n mv j : Nat} (hx : WFx f n mv) (hn : n ≤ 4) (h : ∀ p, p < n → MB f p (j + 1)) : ∀ k, k ≤ n → (∀ p, p < k → MB (rnF f k) p j) ∧ (∀ p, k ≤ p → p < n → MB (rnF f k) p (j + 1))
  | 0, _ => ⟨fun p hp => by omega, fun p _ hp => h p hp⟩
  | k + 1, hk => by
    obtain ⟨h1, h2⟩ := rn_MB hx hn h k (by omega)
    rw [rnF]
    split
    · rename_i ha
      refine ⟨fun p hp => ?_, fun p h3 h4 => h2 p (by omega) h4⟩
      by_cases e : p = k
      · subst e; exact Or.inl ha
      · exact h1 p (by omega)
    · rename_i ha
      have hw := rn_wf hx k (by omega)
      refine ⟨fun p hp => ?_, fun p h3 h4 => (h2 p (by omega) h4).other hw (by omega) ha (by omega) (by omega)⟩
      by_cases e : p = k
      · subst e; exact (h2 p (by omega) (by omega)).step hw (by omega) ha
      · exact (h1 p (by omega)).other hw (by omega) ha (by omega) (by omega)
theorem rn_idle {f : Row} : ∀ k, (∀ p, p < k → f (32 + 42 * p + 0) = 0) → rnF f k = f ∧ rnC f k = 0
  | 0, _ => ⟨rfl, rfl⟩
  | k + 1, h => by
    obtain ⟨h1, h2⟩ := rn_idle k (fun p hp => h p (by omega))
    rw [rnF, rnC, h1, h2, if_pos (h k (by omega)), if_pos (h k (by omega))]
    exact ⟨rfl, rfl⟩
theorem rn_bound (f : Row) : ∀ k, rnC f k ≤ k
  | 0 => Nat.le_refl 0
  | k + 1 => by rw [rnC]; have := rn_bound f k; split <;> omega
theorem rn_late {f : Row} {n mv : Nat} (hx : WFx f n mv) (hn : n ≤ 4) : ∀ k, k ≤ n → ∀ p, k ≤ p → p < 4 → ∀ i, i < 42 → rnF f k (32 + 42 * p + i) = f (32 + 42 * p + i)
  | 0, _, _, _, _, _, _ => rfl
  | k + 1, hk, p, h1, h2, i, hi => by
    rw [rnF]
    split
    · exact rn_late hx hn k (by omega) p (by omega) h2 i hi
    · rename_i ha
      rw [wfx_other (rn_wf hx k (by omega)) (by omega) ha h2 (by omega) i hi]
      exact rn_late hx hn k (by omega) p (by omega) h2 i hi
