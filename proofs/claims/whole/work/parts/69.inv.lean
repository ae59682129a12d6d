theorem nN_v (pn : Nat) (h : pn < 5) : nN pn = (pn + 1) % 5 := by unfold nN; split <;> omega
/-- what is remembered, on both sides -/
theorem inv_rem {V : Nat → Nat → Row} {fp f : Row} {pn um T n mv ph wr t ac : Nat} (hR : Rel (V 0) f n mv ph wr t) (ht : t ≤ T) (hac : ac ≤ 24) (h4 : f 4 = nI ac) (hT : T < 900000) (hpn : pn < 5) (hum : um ≤ 5) (hp : ∀ i, i < um → RelX (V (rg pn um i)) (fun j => fp (512 * i + j)) T) : ∀ i, i < nU um → RelX (setV V (2 + pn) (cCop (V (2 + pn)) (V 0) ph wr) (rg (nN pn) (nU um) i)) (fun j => nP um f fp (512 * i + j)) T := by
  intro i hi
  have hnew : RelX (cCop (V (2 + pn)) (V 0) ph wr) f T := RelX.cop hR ht hac h4
  have hnn := nN_v pn hpn
  by_cases e5 : um = 5
  · subst e5
    have hu : nU 5 = 5 := rfl
    rw [hu] at hi ⊢
    have eP : ∀ j, nP 5 f fp j = va_cpy f (va_cpy fp fp 512 0 2048) 0 (512 * 4) 512 j := fun j => rfl
    by_cases e4 : i = 4
    · subst e4
      have er : rg (nN pn) 5 4 = 2 + pn := by unfold rg; rw [hnn]; omega
      rw [er, setV_eq]
      refine hnew.cong hT (fun j hj => ?_)
      rw [eP, cpy_i (by omega) (by omega), show 0 + (512 * 4 + j - 512 * 4) = j by omega]
    · have er : rg (nN pn) 5 i = rg pn 5 (i + 1) := by unfold rg; rw [hnn]; omega
      have en : rg pn 5 (i + 1) ≠ 2 + pn := by unfold rg; omega
      rw [er, setV_ne en]
      refine (hp (i + 1) (by omega)).cong hT (fun j hj => ?_)
      rw [eP, cpy_o (by omega), cpy_i (by omega) (by omega), show 512 + (512 * i + j - 0) = 512 * (i + 1) + j by omega]
  · have hu : nU um = um + 1 := if_neg e5
    rw [hu] at hi ⊢
    have eP : ∀ j, nP um f fp j = va_cpy f fp 0 (512 * um) 512 j := fun j => by unfold nP; rw [if_neg e5, if_neg e5]
    by_cases e4 : i = um
    · subst e4
      have er : rg (nN pn) (i + 1) i = 2 + pn := by unfold rg; rw [hnn]; omega
      rw [er, setV_eq]
      refine hnew.cong hT (fun j hj => ?_)
      rw [eP, cpy_i (by omega) (by omega), show 0 + (512 * i + j - 512 * i) = j by omega]
    · have er : rg (nN pn) (um + 1) i = rg pn um i := by unfold rg; rw [hnn]; omega
      have en : rg pn um i ≠ 2 + pn := by unfold rg; omega
      rw [er, setV_ne en]
      refine (hp i (by omega)).cong hT (fun j hj => ?_)
      rw [eP, cpy_o (by omega)]
