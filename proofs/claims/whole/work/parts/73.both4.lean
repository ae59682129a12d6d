theorem both_forget (l : Launch) (g : GG) (V : Nat → Nat → Row) (pn : Nat) (sa sb sr rb f fp fi fk fs : Row) (um q T : Nat) (hT : T < 700000) (hI : Inv V sa sb sr f fp fi fk fs pn um q T) : Both l g yX5_forget cX5_forget 2 yX6_forget cX6_forget 2 [] (V, pn, sa, sb, sr, rb) f fp fi fk fs um q T := by
  obtain ⟨h1, h2, h3, h4, h5, h6, ta, tb, h7⟩ := hI.more (Nat.le_add_right T 20)
  exact ⟨nI q, f, fp, fi, fk, fs, um, 0, 6, 0, by omega, by omega, fun b wa => (c_X5_forget_ok l g b wa fk sa sb sr rb V (nI pn) (nI um) (nI q)).toE ⟨(V, pn, sa, sb, sr, rb), h1, h2, h3, h4, h5, by omega, ta, tb, fun i hi => absurd hi (by omega)⟩ rfl, fun a th fw ft => (c_X6_forget_ok l g a th (nI um) (nI q) f fw fp fi fk fs ft).toE (fw, ft) rfl⟩
theorem both_sees (l : Launch) (g : GG) (V : Nat → Nat → Row) (pn : Nat) (sa sb sr rb f fp fi fk fs : Row) (um q T : Nat) (hT : T < 700000) (hI : Inv V sa sb sr f fp fi fk fs pn um q T) (x y z : Int32) : Both l g yX5_sees cX5_sees 4 yX6_sees cX6_sees 4 [.int x, .int y, .int z] (V, pn, sa, sb, sr, rb) f fp fi fk fs um q T := by
  have hI0 := hI
  obtain ⟨h1, h2, h3, h4, h5, h6, ta, tb, h7⟩ := hI.more (Nat.le_add_right T 20)
  cases hb : ((inB x (nI 1) (nI 4) && inB y (nI 1) (nI 4)) && inB z (nI 0) (nI 99)) with
  | false => exact Both.same hI0 (-1) 6 2 (by omega) (by omega) (fun b wa => c_X5_sees_bad l g b wa fk sa sb sr rb V (nI pn) (nI um) (nI q) x y z hb) (fun a th fw ft => c_X6_sees_bad l g a th (nI um) (nI q) f fw fp fi fk fs ft x y z hb)
  | true =>
    by_cases hq : q < 6
    · have b1 := (Bool.and_eq_true _ _).mp hb
      have b2 := (Bool.and_eq_true _ _).mp b1.1
      obtain ⟨k1, e1, e2, rfl⟩ := inB_lit (by omega) (by omega) b2.1
      obtain ⟨k2, e3, e4, rfl⟩ := inB_lit (by omega) (by omega) b2.2
      refine ⟨_, f, fp, fi, fk, _, um, q + 1, 6, 2, by omega, by omega, fun b wa => (c_X5_sees_ok l g b wa fk sa sb sr rb V (nI pn) (nI um) (nI k1) (nI k2) z q hq hb).toE ⟨(V, pn, upd sa q (nI k1), upd sb q (nI k2), upd sr q z, rb), h1, h2, h3, h4, h5, by omega, fun i => if i = q then k1 else ta i, fun i => if i = q then k2 else tb i, fun i hi => ?_⟩ rfl, fun a th fw ft => (c_X6_sees_ok l g a th (nI um) f fw fp fi fk fs ft (nI k1) (nI k2) z q hq hb).toE (fw, ft) rfl⟩
      by_cases e : i = q
      · subst e
        dsimp only
        rw [if_pos rfl, if_pos rfl]
        refine ⟨upd_self, upd_self, ?_, ?_, ?_, e1, e2, e3, e4⟩
        · rw [upd_ne (by omega), upd_ne (by omega), upd_self]
        · rw [upd_ne (by omega), upd_self]
        · rw [upd_self]; exact upd_self.symm
      · obtain ⟨a1, a2, a3, a4, a5, a6⟩ := h7 i (by omega)
        dsimp only
        rw [if_neg e, if_neg e]
        refine ⟨(upd_ne e).trans a1, (upd_ne e).trans a2, ?_, ?_, ?_, a6⟩
        · rw [upd_ne (by omega), upd_ne (by omega), upd_ne (by omega)]; exact a3
        · rw [upd_ne (by omega), upd_ne (by omega), upd_ne (by omega)]; exact a4
        · rw [upd_ne (by omega), upd_ne (by omega), upd_ne (by omega), a5]; exact (upd_ne e).symm
    · obtain rfl : q = 6 := by omega
      exact Both.same hI0 (-3) 6 2 (by omega) (by omega) (fun b wa => c_X5_sees_full l g b wa fk sa sb sr rb V (nI pn) (nI um) x y z hb) (fun a th fw ft => c_X6_sees_full l g a th (nI um) f fw fp fi fk fs ft x y z hb)
theorem both_keep (l : Launch) (g : GG) (V : Nat → Nat → Row) (pn : Nat) (sa sb sr rb f fp fi fk fs : Row) (um q T : Nat) (hT : T < 700000) (hI : Inv V sa sb sr f fp fi fk fs pn um q T) (x : Int32) : Both l g yX5_keep cX5_keep 2 yX6_keep cX6_keep 3 [.int x] (V, pn, sa, sb, sr, rb) f fp fi fk fs um q T := by
  have hI0 := hI
  obtain ⟨h1, h2, h3, h4, h5, h6, h7⟩ := hI.more (Nat.le_add_right T 20)
  obtain ⟨⟨n, mv, ph, wr, t, ac, hR, ht, hac, h44⟩, -⟩ := hI
  cases hb : inB x (nI 0) (nI 1) with
  | false => exact Both.same hI0 (-1) 6 1 (by omega) (by omega) (fun b wa => c_X5_keep_bad l g b wa fk sa sb sr rb V (nI pn) (nI um) (nI q) x hb) (fun a th fw ft => c_X6_keep_bad l g a th (nI um) (nI q) f fw fp fi fk fs ft x hb)
  | true =>
    obtain ⟨k, -, hk, rfl⟩ := inB_lit (by omega) (by omega) hb
    refine ⟨_, f, fp, _, _, fs, um, q, 6, 1, by omega, by omega, fun b wa => (c_X5_keep_ok l g b wa fk sa sb sr rb V (nI pn) (nI um) (nI q) f n mv ph wr t hR k hk).toE ⟨(setV V (7 + k) (cCop (V (7 + k)) (V 0) ph wr), pn, sa, sb, sr, rb), ?_, h2, h3, fun i hi => ?_, fun k2 hk2 hn2 => ?_, h6, h7⟩ rfl, fun a th fw ft => (c_X6_keep_ok l g a th (nI um) (nI q) f fw fp fi fk fs ft k hk).toE (fw, ft) rfl⟩
    · show RelX (setV V (7 + k) _ 0) f _
      rw [setV_ne (by omega)]; exact h1
    · show RelX (setV V (7 + k) _ _) _ _
      rw [setV_ne (by unfold rg; omega)]; exact h4 i hi
    · show RelX (setV V (7 + k) _ _) _ _
      by_cases e : k2 = k
      · subst e
        rw [setV_eq]
        refine (RelX.cop (T := T + 20) hR (by omega) hac h44).cong (by omega) (fun j hj => ?_)
        rw [cpy_i (by omega) (by omega), show 0 + (512 * k2 + j - 512 * k2) = j by omega]
      · rw [setV_ne (by omega)]
        refine (h5 k2 hk2 (by rw [upd_ne e] at hn2; exact hn2)).cong (by omega) (fun j hj => ?_)
        rw [cpy_o (by omega)]
theorem both_back (l : Launch) (g : GG) (V : Nat → Nat → Row) (pn : Nat) (sa sb sr rb f fp fi fk fs : Row) (um q T : Nat) (hT : T < 700000) (hI : Inv V sa sb sr f fp fi fk fs pn um q T) (x : Int32) : Both l g yX5_back cX5_back 2 yX6_back cX6_back 3 [.int x] (V, pn, sa, sb, sr, rb) f fp fi fk fs um q T := by
  have hI0 := hI
  obtain ⟨h1, h2, h3, h4, h5, h6, h7⟩ := hI.more (Nat.le_add_right T 20)
  cases hb : inB x (nI 0) (nI 1) with
  | false => exact Both.same hI0 (-1) 6 1 (by omega) (by omega) (fun b wa => c_X5_back_bad l g b wa fk sa sb sr rb V (nI pn) (nI um) (nI q) x hb) (fun a th fw ft => c_X6_back_bad l g a th (nI um) (nI q) f fw fp fi fk fs ft x hb)
  | true =>
    obtain ⟨k, -, hk, rfl⟩ := inB_lit (by omega) (by omega) hb
    by_cases hf : fk k = 0
    · exact Both.same hI0 (-2) 6 1 (by omega) (by omega) (fun b wa => c_X5_back_state l g b wa fk sa sb sr rb V (nI pn) (nI um) (nI q) k hk hf) (fun a th fw ft => c_X6_back_state l g a th (nI um) (nI q) f fw fp fi fk fs ft k hk hf)
    · obtain ⟨n, mv, ph, wr, t, ac, hR, ht, hac, h44⟩ := h5 k (by omega) hf
      refine ⟨_, _, fp, fi, fk, fs, 0, q, 6, 1, by omega, by omega, fun b wa => (c_X5_back_ok l g b wa fk sa sb sr rb V (nI pn) (nI um) (nI q) k hk hf _ n mv ph wr t hR).toE ⟨(setV V 0 (cCop (V 0) (V (7 + k)) ph wr), pn, sa, sb, sr, rb), ?_, h2, by omega, fun i hi => absurd hi (by omega), fun k2 hk2 hn2 => ?_, h6, h7⟩ rfl, fun a th fw ft => (c_X6_back_ok l g a th (nI um) (nI q) f fw fp fi fk fs ft k hk hf).toE (fw, ft) rfl⟩
      · show RelX (setV V 0 _ 0) _ _
        rw [setV_eq]; exact RelX.cop hR ht hac h44
      · show RelX (setV V 0 _ _) _ _
        rw [setV_ne (by omega)]; exact h5 k2 hk2 hn2
