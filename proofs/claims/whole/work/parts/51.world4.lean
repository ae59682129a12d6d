set_option maxHeartbeats 4000000 in
set_option maxRecDepth 100000 in
theorem c_X4_stepUpTo (l : Launch) (g : GG) (a : Nat → Nat) (V : Nat → Row) (f : Row) (n mv ph wr t p k : Nat) (hR : Rel V f n mv ph wr t) (ht : t + k < 900000) (hp : p < n) : CtE l g yX4_stepUpTo cX4_stepUpTo 4 (some .int) 4 [.ref (a 0), .int (nI p), .int (nI k)] (wW g a V) (some (.int (nI (stC f p k)))) (fun u : {V2 : Nat → Row // ∃ ph2 wr2, Rel V2 (stF f p k) n mv ph2 wr2 (t + stC f p k)} => wW g a u.1) := by
  refine CtE.start (by decide +kernel) (Nat.le_of_ble_eq_true rfl) (by simp [Value.category]) (Or.inr ⟨.int, _, rfl, rfl, rfl⟩) ?_
  intro p0 e R s m args below meth c A Q K hr h ls hl
  have hl : Lq ls 4 [some (.ref (a 0)), some (.int (nI p)), some (.int (nI k)), none] := hl
  refine r_ic K (nI 0) dX4_stepUpTo_0 k_0 ?_
  refine r_isn K hl 3 [_, _, _, _] dX4_stepUpTo_1 rfl (by decide) rfl (fun ls hl => ?_)
  have loop : ∀ (r dn : Nat) (V1 : Nat → Row) (f1 : Row) (ph1 wr1 : Nat), dn + r = k → Rel V1 f1 n mv ph1 wr1 (t + dn) → stF f1 p r = stF f p k → dn + stC f1 p r = stC f p k → ∀ (H : Heap) (locs : List Loc), Hp g A s H locs (wW g a V1) → ∀ ls, Lq ls 4 [some (.ref (a 0)), some (.int (nI p)), some (.int (nI k)), some (.int (nI dn))] → W p0 l e R s m args below meth c H locs 0 0 Q (F0 m 2 ls []) := by
    intro r
    induction r with
    | zero =>
      intro dn V1 f1 ph1 wr1 hk hR1 hF hC H locs h ls hl
      refine r_iln K hl 3 dX4_stepUpTo_2 rfl rfl ?_
      refine r_iln K hl 2 dX4_stepUpTo_3 rfl rfl ?_
      refine r_cgeN K 26 dX4_stepUpTo_4 (by decide) (by omega) (by omega) (fun c4 => ?_) (fun c => absurd c (by omega))
      refine r_iln K hl 3 dX4_stepUpTo_26 rfl rfl ?_
      exact hr.1 ⟨V1, ph1, wr1, by rw [← hF, ← hC]; exact hR1⟩ _ _ _ _ _ dX4_stepUpTo_27 h (by rw [← hC]; rfl)
    | succ r ih =>
      intro dn V1 f1 ph1 wr1 hk hR1 hF hC H locs h ls hl
      have hp4 : p < 4 := by have := hR1.1.1.2.1; omega
      have h60 := (hR1.2.2.2.2.1 p hp4).1
      refine r_iln K hl 3 dX4_stepUpTo_2 rfl rfl ?_
      refine r_iln K hl 2 dX4_stepUpTo_3 rfl rfl ?_
      refine r_cgeN K 26 dX4_stepUpTo_4 (by decide) (by omega) (by omega) (fun c => absurd c (by omega)) (fun c4 => ?_)
      refine r_aln K hl 0 dX4_stepUpTo_7 rfl rfl ?_
      refine r_iln K hl 1 dX4_stepUpTo_8 rfl rfl ?_
      refine r_callVW K h hl (c_X4_isIdle l g a V1 p hp4) mc_X4_isIdle vm_X4_isIdle mlX4_82 0 rfl rfl rfl rfl _ rfl (by decide) (by decide) rfl rfl (Nat.le_of_ble_eq_true rfl) ⟨Nat.zero_le _, Nat.zero_le _⟩ dX4_stepUpTo_9 (fun H locs h => ?_)
      refine W.eq (g2 := F0 m 12 ls [_]) rfl ?_
      refine r_zneB K 26 dX4_stepUpTo_12 (by decide) (fun c12 => ?_) (fun c12 => ?_)
      · have hid : f1 (32 + 42 * p + 0) = 0 := by rw [← h60]; exact of_decide_eq_true c12
        rw [stF_idle hid] at hF
        rw [stC_idle hid] at hC
        refine r_iln K hl 3 dX4_stepUpTo_26 rfl rfl ?_
        exact hr.1 ⟨V1, ph1, wr1, by rw [← hF, ← hC]; exact hR1⟩ _ _ _ _ _ dX4_stepUpTo_27 h (by rw [← hC]; rfl)
      · have hid : ¬ f1 (32 + 42 * p + 0) = 0 := by rw [← h60]; exact of_decide_eq_false c12
        obtain ⟨V2, ph2, wr2, hR2, hct⟩ := sim hR1 (by omega) hp hid
        rw [stF, if_neg hid] at hF
        rw [stC, if_neg hid] at hC
        refine r_aln K hl 0 dX4_stepUpTo_15 rfl rfl ?_
        refine r_iln K hl 1 dX4_stepUpTo_16 rfl rfl ?_
        refine r_callVW K h hl (hct l g a) mc_X4_stepOnce vm_X4_stepOnce mlX4_86 0 rfl rfl rfl rfl _ rfl (by decide) (by decide) rfl rfl (Nat.le_of_ble_eq_true rfl) ⟨Nat.zero_le _, Nat.zero_le _⟩ dX4_stepUpTo_17 (fun H locs h => ?_)
        refine W.eq (g2 := F0 m 20 ls []) rfl ?_
        refine r_incN K hl (k := 1) [_, _, _, _] dX4_stepUpTo_20 rfl (by decide) rfl (fun ls hl => ?_)
        refine r_go K 2 dX4_stepUpTo_23 (by decide) ?_
        exact ih (dn + 1) V2 (mStep f1 p) ph2 wr2 (by omega) hR2 hF (by omega) H locs h ls hl
  exact loop k 0 V f ph wr (by omega) hR rfl (by omega) _ _ h _ hl

