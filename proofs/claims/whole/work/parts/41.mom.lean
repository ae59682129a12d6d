/-! the moment: the class looks at the writes, the reference at every time -/
def isM (T : Nat → Nat) (wr k tau : Nat) : Prop := k ≤ wr ∧ (∀ e, e < k → T e ≤ tau) ∧ ∀ e, k ≤ e → e < wr → tau < T e
theorem cLead_M {ti : Row} {T : Nat → Nat} {wr tau : Nat} (hti : ∀ e, e < wr → ti e = nI (T e)) (hT : ∀ e, e < wr → T e < 2 ^ 30) (htau : tau < 2 ^ 30) (hinc : ∀ e e', e < e' → e' < wr → T e < T e') : ∀ (j i : Nat), i + j = wr → (∀ e, e < i → T e ≤ tau) → isM T wr (cLead ti (nI tau) j i) tau
  | 0, i, h1, h2 => ⟨by rw [cLead]; omega, by rw [cLead]; exact h2, by rw [cLead]; intro e a b; omega⟩
  | j + 1, i, h1, h2 => by
    rw [cLead]
    have hi := hti i (by omega)
    have hb := hT i (by omega)
    split
    · rename_i hle
      rw [hi] at hle
      have hle := (nI_leI (by omega) (by omega)).mp hle
      refine cLead_M hti hT htau hinc j (i + 1) (by omega) (fun e he => ?_)
      by_cases e1 : e = i
      · subst e1; exact hle
      · exact h2 e (by omega)
    · rename_i hle
      rw [hi] at hle
      have hgt : tau < T i := Nat.not_le.mp (fun q => hle (nI_le q (by omega)))
      refine ⟨by omega, h2, fun e a b => ?_⟩
      by_cases e1 : e = i
      · subst e1; exact hgt
      · have := hinc i e (by omega) b; omega
theorem isM_uniq {T : Nat → Nat} {wr k k' tau : Nat} (h : isM T wr k tau) (h' : isM T wr k' tau) : k = k' := by
  rcases Nat.lt_trichotomy k k' with q | q | q
  · have a := h'.2.1 k q
    have b := h.2.2 k (Nat.le_refl _) (by have := h'.1; omega)
    omega
  · exact q
  · have a := h.2.1 k' q
    have b := h'.2.2 k' (Nat.le_refl _) (by have := h.1; omega)
    omega
/-- the cells at a time are the cells behind the writes till then -/
theorem vAt_th {f : Row} {wv : Row} {T pl : Nat → Nat} {wr k tau : Nat} (hev : ∀ e, e < wr → f (440 + 3 * e) = nI (T e) ∧ f (440 + 3 * e + 1) = nI (pl e) ∧ f (440 + 3 * e + 2) = wv e ∧ pl e < 4 ∧ T e < 2 ^ 30) (htau : tau < 2 ^ 30) (hM : isM T wr k tau) {c : Nat} (hc : c < 4) : ∀ i, i ≤ wr → vAt f c (nI tau) i = thK pl wv (min i k) c
  | 0, _ => by rw [Nat.zero_min]; rfl
  | i + 1, hi => by
    obtain ⟨a1, a2, a3, a4, a5⟩ := hev i (by omega)
    have ih := vAt_th hev htau hM hc i (by omega)
    rw [vAt, ih]
    by_cases hk : i < k
    · have hle := hM.2.1 i hk
      rw [Nat.min_eq_left (by omega : i + 1 ≤ k), Nat.min_eq_left (by omega : i ≤ k), thK]
      by_cases e : pl i = c
      · rw [if_pos ⟨by rw [a1]; exact nI_le hle (by omega), by rw [a2, e]⟩, a3, e, upd_self]
      · rw [if_neg (fun q => e ((nI_eq (by omega) (by omega)).mp (a2.symm.trans q.2))), upd_ne (fun q => e q.symm)]
    · have hgt := hM.2.2 i (by omega) (by omega)
      rw [Nat.min_eq_right (by omega : k ≤ i + 1), Nat.min_eq_right (by omega : k ≤ i), if_neg]
      rintro ⟨q, -⟩
      rw [a1] at q
      have := (nI_leI (by omega) (by omega)).mp q
      omega
/-- beyond n the cells behind writes are 0 -/
theorem thK_z {pl : Nat → Nat} {wv : Row} {n wr c : Nat} (hpl : ∀ e, e < wr → pl e < n) (hc : n ≤ c) : ∀ k, k ≤ wr → thK pl wv k c = 0
  | 0, _ => rfl
  | k + 1, hk => by rw [thK, upd_ne (by have := hpl k (by omega); omega)]; exact thK_z hpl hc k (by omega)
theorem eqK_iff {th pv : Row} : ∀ k, eqK th pv k = true ↔ ∀ c, c < k → th c = pv c
  | 0 => ⟨fun _ c h => by omega, fun _ => rfl⟩
  | k + 1 => by
    rw [eqK, Bool.and_eq_true, eqK_iff k, decide_eq_true_iff]
    exact ⟨fun h c hc => by
      by_cases e : c = k
      · subst e; exact h.2
      · exact h.1 c (by omega), fun h => ⟨fun c hc => h c (by omega), h k (by omega)⟩⟩
theorem okK_iff {f : Row} {wr i t : Nat} : ∀ k, okK f wr i t k = true ↔ ∀ c, c < k → vAt f c (nI t) wr = f (200 + 10 * i + 6 + c)
  | 0 => ⟨fun _ c h => by omega, fun _ => rfl⟩
  | k + 1 => by
    rw [okK, Bool.and_eq_true, okK_iff k, decide_eq_true_iff]
    exact ⟨fun h c hc => by
      by_cases e : c = k
      · subst e; exact h.2
      · exact h.1 c (by omega), fun h => ⟨fun c hc => h c (by omega), h k (by omega)⟩⟩
theorem bool_ext {a b : Bool} (h : a = true ↔ b = true) : a = b := by
  cases a <;> cases b <;> simp_all
theorem ok_eq {f wv pv : Row} {T pl : Nat → Nat} {n wr i k tau : Nat} (hn : n ≤ 4) (hev : ∀ e, e < wr → f (440 + 3 * e) = nI (T e) ∧ f (440 + 3 * e + 1) = nI (pl e) ∧ f (440 + 3 * e + 2) = wv e ∧ pl e < 4 ∧ T e < 2 ^ 30) (hpn : ∀ e, e < wr → pl e < n) (htau : tau < 2 ^ 30) (hM : isM T wr k tau) (hpv : ∀ c, c < 4 → pv c = f (200 + 10 * i + 6 + c)) (hz : ∀ c, n ≤ c → c < 4 → pv c = 0) : okK f wr i tau n = eqK (thK pl wv k) pv 4 := by
  apply bool_ext
  rw [okK_iff, eqK_iff]
  have hv : ∀ c, c < 4 → vAt f c (nI tau) wr = thK pl wv k c := fun c hc => by
    rw [vAt_th hev htau hM hc wr (Nat.le_refl _), Nat.min_eq_right hM.1]
  constructor
  · intro h c hc
    by_cases e : c < n
    · rw [← hv c hc, hpv c hc]; exact h c e
    · rw [thK_z hpn (by omega) k hM.1, hz c (by omega) hc]
  · intro h c hc
    rw [hv c (by omega), ← hpv c (by omega)]; exact h c (by omega)
theorem mom_go {f ti wv pv : Row} {T pl : Nat → Nat} {n wr i en : Nat} (hn : n ≤ 4) (hti : ∀ e, e < wr → ti e = nI (T e)) (hev : ∀ e, e < wr → f (440 + 3 * e) = nI (T e) ∧ f (440 + 3 * e + 1) = nI (pl e) ∧ f (440 + 3 * e + 2) = wv e ∧ pl e < 4 ∧ T e < 2 ^ 30) (hpn : ∀ e, e < wr → pl e < n) (hinc : ∀ e e', e < e' → e' < wr → T e < T e') (hen : ∀ e, e < wr → T e ≤ en) (hbd : en < 1000000) (hpv : ∀ c, c < 4 → pv c = f (200 + 10 * i + 6 + c)) (hz : ∀ c, n ≤ c → c < 4 → pv c = 0) :
    ∀ (d tau k : Nat), tau + 1 + d = en + 1 → isM T wr k tau → eqK (thK pl wv k) pv 4 = false → momG f wr n i (tau + 1) d = (cMo ti pl wv pv (wr - k) k).1
  | 0, tau, k, h1, hM, hno => by
    have hk : k = wr := by
      rcases Nat.lt_or_ge k wr with q | q
      · have a := hM.2.2 k (Nat.le_refl _) q
        have b := hen k q
        omega
      · have := hM.1; omega
    rw [hk, Nat.sub_self]; rfl
  | d + 1, tau, k, h1, hM, hno => by
    rw [momG]
    by_cases hev1 : k < wr ∧ T k = tau + 1
    · have hM' : isM T wr (k + 1) (tau + 1) := by
        refine ⟨by omega, fun e he => ?_, fun e a b => ?_⟩
        · by_cases e1 : e = k
          · rw [e1, hev1.2]; exact Nat.le_refl _
          · have := hM.2.1 e (by omega); omega
        · have := hinc k e (by omega) b; omega
      rw [ok_eq hn hev hpn (by omega) hM' hpv hz, show wr - k = (wr - (k + 1)) + 1 by omega, cMo]
      cases hq : eqK (thK pl wv (k + 1)) pv 4 with
      | true => rw [if_pos rfl, if_pos rfl, hti k hev1.1, hev1.2]
      | false =>
        rw [if_neg (by decide), if_neg (by decide)]
        exact mom_go hn hti hev hpn hinc hen hbd hpv hz d (tau + 1) (k + 1) (by omega) hM' hq
    · have hM' : isM T wr k (tau + 1) := by
        refine ⟨hM.1, fun e he => by have := hM.2.1 e he; omega, fun e a b => ?_⟩
        have h2 := hM.2.2 e a b
        by_cases e1 : e = k
        · subst e1
          have : T e ≠ tau + 1 := fun q => hev1 ⟨b, q⟩
          omega
        · have h3 := hM.2.2 k (Nat.le_refl _) (by omega)
          have h4 := hinc k e (by omega) b
          omega
      rw [ok_eq hn hev hpn (by omega) hM' hpv hz, hno, if_neg (by decide)]
      exact mom_go hn hti hev hpn hinc hen hbd hpv hz d (tau + 1) k (by omega) hM' hno
theorem mom_eq {f ti wv pv : Row} {T pl : Nat → Nat} {n wr i bg en : Nat} (hn : n ≤ 4) (hti : ∀ e, e < wr → ti e = nI (T e)) (hev : ∀ e, e < wr → f (440 + 3 * e) = nI (T e) ∧ f (440 + 3 * e + 1) = nI (pl e) ∧ f (440 + 3 * e + 2) = wv e ∧ pl e < 4 ∧ T e < 2 ^ 30) (hpn : ∀ e, e < wr → pl e < n) (hinc : ∀ e e', e < e' → e' < wr → T e < T e') (hen : ∀ e, e < wr → T e ≤ en) (hle : bg ≤ en) (hbd : en < 1000000) (hpv : ∀ c, c < 4 → pv c = f (200 + 10 * i + 6 + c)) (hz : ∀ c, n ≤ c → c < 4 → pv c = 0) : momG f wr n i bg (en + 1 - bg) = (cMom ti pl wv pv (nI bg) wr).1 := by
  have hM := cLead_M (tau := bg) hti (fun e he => (hev e he).2.2.2.2) (by omega) hinc wr 0 (by omega) (fun e he => by omega)
  obtain ⟨d, hd⟩ : ∃ d, en + 1 - bg = d + 1 := ⟨en - bg, by omega⟩
  rw [hd, momG, cMom, ok_eq hn hev hpn (by omega) hM hpv hz]
  cases hq : eqK (thK pl wv (cLead ti (nI bg) wr 0)) pv 4 with
  | true => rw [if_pos rfl, if_pos rfl]
  | false =>
    rw [if_neg (by decide), if_neg (by decide)]
    exact mom_go hn hti hev hpn hinc hen hbd hpv hz d bg _ (by omega) hM hq
/-- a later write leaves a moment -/
theorem vAt_more {f f' : Row} {c wr : Nat} {tau : Int32} (e : ∀ j, 440 ≤ j → j < 440 + 3 * wr → f' j = f j) : ∀ i, i ≤ wr → vAt f' c tau i = vAt f c tau i
  | 0, _ => rfl
  | i + 1, hi => by rw [vAt, vAt, vAt_more e i (by omega), e _ (by omega) (by omega), e _ (by omega) (by omega), e _ (by omega) (by omega)]
theorem momG_cong {f f' : Row} {wr wr' n i : Nat} (h : ∀ t, t < 1000000 → okK f' wr' i t n = okK f wr i t n ∨ False) : True := trivial
theorem okK_cong {f f' : Row} {wr wr' i t : Nat} (hv : ∀ c, vAt f' c (nI t) wr' = vAt f c (nI t) wr) (hp : ∀ k, k < 4 → f' (200 + 10 * i + 6 + k) = f (200 + 10 * i + 6 + k)) : ∀ k, k ≤ 4 → okK f' wr' i t k = okK f wr i t k
  | 0, _ => rfl
  | k + 1, hk => by rw [okK, okK, okK_cong hv hp k (by omega), hv k, hp k (by omega)]
theorem momG_eq {f f' : Row} {wr wr' n i en : Nat} (h : ∀ t, t ≤ en → okK f' wr' i t n = okK f wr i t n) : ∀ (d t : Nat), t + d = en + 1 → momG f' wr' n i t d = momG f wr n i t d
  | 0, _, _ => rfl
  | d + 1, t, ht => by rw [momG, momG, h t (by omega), momG_eq h d (t + 1) (by omega)]
