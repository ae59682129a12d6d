set_option maxHeartbeats 4000000 in
set_option maxRecDepth 100000 in
theorem c_X6_acts (l : Launch) (g : GG) (a : Nat) (f : Row) (p : Nat) (act v : Int32) (hp : p < 4) : Ct l g yX6_acts cX6_acts 5 none 2 [.ref a, .int (nI p), .int act, .int v] [aI g a 512 f] none [aI g a 512 (mActs f p act v)] := by
  refine Ct.start (by decide +kernel) (Nat.le_of_ble_eq_true rfl) (by simp [Value.category]) (Or.inl ⟨rfl, rfl⟩) ?_
  intro p0 e R s m args below meth c A Q K hr h ls hl
  have hl : Lq ls 5 [some (.ref a), some (.int (nI p)), some (.int act), some (.int v), none] := hl
  refine r_iln K hl 1 dX6_acts_0 rfl rfl ?_
  refine r_callS K h hl (c_X6_writerAt l g p) mc_X6_writerAt st_X6_writerAt mlX6_40 [] rfl rfl rfl [_] rfl (by decide) (by decide) rfl rfl (Nat.le_of_ble_eq_true rfl) ⟨Nat.zero_le _, Nat.zero_le _⟩ dX6_acts_1 (fun H locs h => ?_)
  refine W.eq (g2 := F0 m 4 ls [_]) rfl ?_
  refine r_is K hl 4 [_, _, _, _, _] dX6_acts_4 (by decide) rfl (fun ls hl => ?_)
  refine r_aln K hl 0 dX6_acts_6 rfl rfl ?_
  refine r_iln K hl 1 dX6_acts_7 rfl rfl ?_
  refine r_callS K h hl (c_X6_idles l g a f p hp) mc_X6_idles st_X6_idles mlX6_44 [0] rfl rfl rfl [_] rfl (by decide) (by decide) rfl rfl (Nat.le_of_ble_eq_true rfl) ⟨Nat.zero_le _, Nat.zero_le _⟩ dX6_acts_8 (fun H locs h => ?_)
  refine W.eq (g2 := F0 m 11 ls []) rfl ?_
  refine r_aln K hl 0 dX6_acts_11 rfl rfl ?_
  refine r_il K hl 4 dX6_acts_12 rfl ?_
  refine r_ic K (nI 0) dX6_acts_14 k_0 ?_
  refine r_addN K dX6_acts_15 ?_
  refine r_iln K hl 2 dX6_acts_16 rfl rfl ?_
  refine r_ias K h 0 [_] rfl (by omega) (by decide) rfl dX6_acts_17 (fun H locs h => ?_)
  refine r_aln K hl 0 dX6_acts_18 rfl rfl ?_
  refine r_il K hl 4 dX6_acts_19 rfl ?_
  refine r_ic K (nI 1) dX6_acts_21 k_1 ?_
  refine r_addN K dX6_acts_22 ?_
  refine r_iln K hl 3 dX6_acts_23 rfl rfl ?_
  refine r_ias K h 0 [_] rfl (by omega) (by decide) rfl dX6_acts_24 (fun H locs h => ?_)
  refine r_aln K hl 0 dX6_acts_25 rfl rfl ?_
  refine r_il K hl 4 dX6_acts_26 rfl ?_
  refine r_ic K (nI 3) dX6_acts_28 k_3 ?_
  refine r_addN K dX6_acts_29 ?_
  refine r_aln K hl 0 dX6_acts_30 rfl rfl ?_
  refine r_ic K (nI 3) dX6_acts_31 k_3 ?_
  refine r_ial K h 0 rfl (by omega) (by decide) dX6_acts_32 ?_
  refine r_ias K h 0 [_] rfl (by omega) (by decide) rfl dX6_acts_33 (fun H locs h => ?_)
  refine r_aln K hl 0 dX6_acts_34 rfl rfl ?_
  refine r_ic K (nI 4) dX6_acts_35 k_4 ?_
  refine r_dup2 K dX6_acts_36 rfl rfl ?_
  refine r_ial K h 0 rfl (by omega) (by decide) dX6_acts_37 ?_
  refine r_ic K (nI 1) dX6_acts_38 k_1 ?_
  refine r_add K dX6_acts_39 ?_
  refine r_ias K h 0 [_] rfl (by omega) (by decide) rfl dX6_acts_40 (fun H locs h => ?_)
  exact hr.2 _ _ _ _ dX6_acts_41 h rfl

set_option maxHeartbeats 4000000 in
set_option maxRecDepth 100000 in
theorem c_X6_writesNow (l : Launch) (g : GG) (a : Nat) (f : Row) (p wr : Nat) (hp : p < 4) (h6 : f 6 = nI wr) (hwr : wr ≤ 24) : Ct l g yX6_writesNow cX6_writesNow 5 none 2 [.ref a, .int (nI p)] [aI g a 512 f] none [aI g a 512 (mWrite f p)] := by
  refine Ct.start (by decide +kernel) (Nat.le_of_ble_eq_true rfl) (by simp [Value.category]) (Or.inl ⟨rfl, rfl⟩) ?_
  intro p0 e R s m args below meth c A Q K hr h ls hl
  have hl : Lq ls 5 [some (.ref a), some (.int (nI p)), none, none, none] := hl
  refine r_iln K hl 1 dX6_writesNow_0 rfl rfl ?_
  refine r_callS K h hl (c_X6_writerAt l g p) mc_X6_writerAt st_X6_writerAt mlX6_40 [] rfl rfl rfl [_] rfl (by decide) (by decide) rfl rfl (Nat.le_of_ble_eq_true rfl) ⟨Nat.zero_le _, Nat.zero_le _⟩ dX6_writesNow_1 (fun H locs h => ?_)
  refine W.eq (g2 := F0 m 4 ls [_]) rfl ?_
  refine r_isn K hl 2 [_, _, _, _, _] dX6_writesNow_4 rfl (by decide) rfl (fun ls hl => ?_)
  refine r_iln K hl 1 dX6_writesNow_5 rfl rfl ?_
  refine r_callS K h hl (c_X6_cellAt l g p) mc_X6_cellAt st_X6_cellAt mlX6_48 [] rfl rfl rfl [_] rfl (by decide) (by decide) rfl rfl (Nat.le_of_ble_eq_true rfl) ⟨Nat.zero_le _, Nat.zero_le _⟩ dX6_writesNow_6 (fun H locs h => ?_)
  refine W.eq (g2 := F0 m 9 ls [_]) rfl ?_
  refine r_isn K hl 3 [_, _, _, _, _] dX6_writesNow_9 rfl (by decide) rfl (fun ls hl => ?_)
  refine r_aln K hl 0 dX6_writesNow_10 rfl rfl ?_
  refine r_iln K hl 3 dX6_writesNow_11 rfl rfl ?_
  refine r_aln K hl 0 dX6_writesNow_12 rfl rfl ?_
  refine r_iln K hl 2 dX6_writesNow_13 rfl rfl ?_
  refine r_ic K (nI 1) dX6_writesNow_14 k_1 ?_
  refine r_addN K dX6_writesNow_15 ?_
  refine r_ial K h 0 rfl (by omega) (by decide) dX6_writesNow_16 ?_
  refine r_ias K h 0 [_] rfl (by omega) (by decide) rfl dX6_writesNow_17 (fun H locs h => ?_)
  refine r_aln K hl 0 dX6_writesNow_18 rfl rfl ?_
  refine r_iln K hl 3 dX6_writesNow_19 rfl rfl ?_
  refine r_ic K (nI 1) dX6_writesNow_20 k_1 ?_
  refine r_addN K dX6_writesNow_21 ?_
  refine r_dup2 K dX6_writesNow_22 rfl rfl ?_
  refine r_ial K h 0 rfl (by omega) (by decide) dX6_writesNow_23 ?_
  refine r_ic K (nI 1) dX6_writesNow_24 k_1 ?_
  refine r_add K dX6_writesNow_25 ?_
  refine r_ias K h 0 [_] rfl (by omega) (by decide) rfl dX6_writesNow_26 (fun H locs h => ?_)
  refine r_aln K hl 0 dX6_writesNow_27 rfl rfl ?_
  refine r_iln K hl 3 dX6_writesNow_28 rfl rfl ?_
  refine r_ic K (nI 1) dX6_writesNow_29 k_1 ?_
  refine r_addN K dX6_writesNow_30 ?_
  refine r_aln K hl 0 dX6_writesNow_31 rfl rfl ?_
  refine r_ic K (nI 2) dX6_writesNow_32 k_2 ?_
  refine r_ial K h 0 rfl (by omega) (by decide) dX6_writesNow_33 ?_
  generalize hf1 : upd f (8 + 6 * p) (f (32 + 42 * p + 1)) = f1 at h ⊢
  generalize hf2 : upd f1 (8 + 6 * p + 1) (f1 (8 + 6 * p + 1) + nI 1) = f2 at h ⊢
  have J : ∀ v : Int32, v = (if f2 2 = 0 then f2 (8 + 6 * p + 1) else f2 (8 + 6 * p + 1) - f2 (8 + 6 * p + 1) / f2 2 * f2 2) → W p0 l e R s m args below meth c H locs 0 0 Q (F0 m 54 ls [.int v, .int (nI (8 + 6 * p + 1)), .ref a]) := by
    intro v hv
    refine r_ias K h 0 [_] rfl (by omega) (by decide) rfl dX6_writesNow_54 (fun H locs h => ?_)
    refine r_ic K (nI 0) dX6_writesNow_55 k_0 ?_
    refine r_is K hl 4 [_, _, _, _, _] dX6_writesNow_56 (by decide) rfl (fun ls hl => ?_)
    have h3 : upd f2 (8 + 6 * p + 1) v = mWr1 f p := by rw [hv, ← hf2, ← hf1]; rfl
    rw [h3] at h
    have h36 : mWr1 f p 6 = nI wr := by unfold mWr1; simp (disch := omega) only [upd_ne]; exact h6
    have hwr : rWr f = wr := by unfold rWr; rw [h6]; exact nI_clamp (by omega)
    generalize hf3 : mWr1 f p = f3 at h h36
    have loop : ∀ (j k : Nat), k + j = 4 → ∀ (H : Heap) (locs : List Loc), Hp g A s H locs [aI g a 512 (va_cpy f3 f3 (32 + 42 * p + 38) (8 + 6 * p + 2) k)] → ∀ ls, Lq ls 5 [some (.ref a), some (.int (nI p)), some (.int (nI (32 + 42 * p))), some (.int (nI (8 + 6 * p))), some (.int (nI k))] → W p0 l e R s m args below meth c H locs 0 0 Q (F0 m 58 ls []) := by
      intro j
      induction j with
      | zero =>
        intro k hk H locs h ls hl
        refine r_il K hl 4 dX6_writesNow_58 rfl ?_
        refine r_ic K (nI 4) dX6_writesNow_60 k_4 ?_
        refine r_cgeN K 87 dX6_writesNow_61 (by decide) (by omega) (by omega) (fun c61 => ?_) (fun c => absurd c (by omega))
        obtain rfl : k = 4 := by omega
        have h46 : va_cpy f3 f3 (32 + 42 * p + 38) (8 + 6 * p + 2) 4 6 = nI wr := by rw [cpy_o (by omega)]; exact h36
        refine r_aln K hl 0 dX6_writesNow_87 rfl rfl ?_
        refine r_bp K (nI 6) dX6_writesNow_88 kb_6 ?_
        refine r_ialE K h 0 rfl (by omega) (by decide) h46 dX6_writesNow_90 ?_
        refine r_bp K (nI 24) dX6_writesNow_91 kb_24 ?_
        refine r_cgeN K 141 dX6_writesNow_93 (by decide) (by omega) (by omega) (fun c93 => ?_) (fun c93 => ?_)
        · refine r_aln K hl 0 dX6_writesNow_141 rfl rfl ?_
          refine r_iln K hl 1 dX6_writesNow_142 rfl rfl ?_
          refine r_callS K h hl (c_X6_idles l g a _ p hp) mc_X6_idles st_X6_idles mlX6_44 [0] rfl rfl rfl [_] rfl (by decide) (by decide) rfl rfl (Nat.le_of_ble_eq_true rfl) ⟨Nat.zero_le _, Nat.zero_le _⟩ dX6_writesNow_143 (fun H locs h => ?_)
          refine W.eq (g2 := F0 m 146 ls []) rfl ?_
          exact hr.2 _ _ _ _ dX6_writesNow_146 (h.to (by dsimp only [mWrite]; rw [if_neg (by omega), hf3])) rfl
        · refine r_sp K (nI 440) dX6_writesNow_96 ks_440 ?_
          refine r_ic K (nI 3) dX6_writesNow_99 k_3 ?_
          refine r_aln K hl 0 dX6_writesNow_100 rfl rfl ?_
          refine r_bp K (nI 6) dX6_writesNow_101 kb_6 ?_
          refine r_ialE K h 0 rfl (by omega) (by decide) h46 dX6_writesNow_103 ?_
          refine r_mulN K dX6_writesNow_104 ?_
          refine r_addN K dX6_writesNow_105 ?_
          refine r_is K hl 4 [_, _, _, _, _] dX6_writesNow_106 (by decide) rfl (fun ls hl => ?_)
          refine r_aln K hl 0 dX6_writesNow_108 rfl rfl ?_
          refine r_il K hl 4 dX6_writesNow_109 rfl ?_
          refine r_aln K hl 0 dX6_writesNow_111 rfl rfl ?_
          refine r_ic K (nI 3) dX6_writesNow_112 k_3 ?_
          refine r_ial K h 0 rfl (by omega) (by decide) dX6_writesNow_113 ?_
          refine r_ias K h 0 [_] rfl (by omega) (by decide) rfl dX6_writesNow_114 (fun H locs h => ?_)
          refine r_aln K hl 0 dX6_writesNow_115 rfl rfl ?_
          refine r_il K hl 4 dX6_writesNow_116 rfl ?_
          refine r_ic K (nI 1) dX6_writesNow_118 k_1 ?_
          refine r_addN K dX6_writesNow_119 ?_
          refine r_iln K hl 1 dX6_writesNow_120 rfl rfl ?_
          refine r_ias K h 0 [_] rfl (by omega) (by decide) rfl dX6_writesNow_121 (fun H locs h => ?_)
          refine r_aln K hl 0 dX6_writesNow_122 rfl rfl ?_
          refine r_il K hl 4 dX6_writesNow_123 rfl ?_
          refine r_ic K (nI 2) dX6_writesNow_125 k_2 ?_
          refine r_addN K dX6_writesNow_126 ?_
          refine r_aln K hl 0 dX6_writesNow_127 rfl rfl ?_
          refine r_iln K hl 2 dX6_writesNow_128 rfl rfl ?_
          refine r_ic K (nI 1) dX6_writesNow_129 k_1 ?_
          refine r_addN K dX6_writesNow_130 ?_
          refine r_ial K h 0 rfl (by omega) (by decide) dX6_writesNow_131 ?_
          refine r_ias K h 0 [_] rfl (by omega) (by decide) rfl dX6_writesNow_132 (fun H locs h => ?_)
          refine r_aln K hl 0 dX6_writesNow_133 rfl rfl ?_
          refine r_bp K (nI 6) dX6_writesNow_134 kb_6 ?_
          refine r_dup2 K dX6_writesNow_136 rfl rfl ?_
          refine r_ial K h 0 rfl (by omega) (by decide) dX6_writesNow_137 ?_
          refine r_ic K (nI 1) dX6_writesNow_138 k_1 ?_
          refine r_add K dX6_writesNow_139 ?_
          refine r_ias K h 0 [_] rfl (by omega) (by decide) rfl dX6_writesNow_140 (fun H locs h => ?_)
          refine r_aln K hl 0 dX6_writesNow_141 rfl rfl ?_
          refine r_iln K hl 1 dX6_writesNow_142 rfl rfl ?_
          refine r_callS K h hl (c_X6_idles l g a _ p hp) mc_X6_idles st_X6_idles mlX6_44 [0] rfl rfl rfl [_] rfl (by decide) (by decide) rfl rfl (Nat.le_of_ble_eq_true rfl) ⟨Nat.zero_le _, Nat.zero_le _⟩ dX6_writesNow_143 (fun H locs h => ?_)
          refine W.eq (g2 := F0 m 146 ls []) rfl ?_
          exact hr.2 _ _ _ _ dX6_writesNow_146 (h.to (by dsimp only [mWrite]; rw [if_pos (by omega), hf3]; dsimp only [mEv, rWr]; rw [h46, nI_clamp (by omega)])) rfl
      | succ j ih =>
        intro k hk H locs h ls hl
        refine r_il K hl 4 dX6_writesNow_58 rfl ?_
        refine r_ic K (nI 4) dX6_writesNow_60 k_4 ?_
        refine r_cgeN K 87 dX6_writesNow_61 (by decide) (by omega) (by omega) (fun c => absurd c (by omega)) (fun c61 => ?_)
        refine r_aln K hl 0 dX6_writesNow_64 rfl rfl ?_
        refine r_iln K hl 3 dX6_writesNow_65 rfl rfl ?_
        refine r_ic K (nI 2) dX6_writesNow_66 k_2 ?_
        refine r_addN K dX6_writesNow_67 ?_
        refine r_il K hl 4 dX6_writesNow_68 rfl ?_
        refine r_addN K dX6_writesNow_70 ?_
        refine r_aln K hl 0 dX6_writesNow_71 rfl rfl ?_
        refine r_iln K hl 2 dX6_writesNow_72 rfl rfl ?_
        refine r_bp K (nI 38) dX6_writesNow_73 kb_38 ?_
        refine r_addN K dX6_writesNow_75 ?_
        refine r_il K hl 4 dX6_writesNow_76 rfl ?_
        refine r_addN K dX6_writesNow_78 ?_
        refine r_ial K h 0 rfl (by omega) (by decide) dX6_writesNow_79 ?_
        refine r_ias K h 0 [_] rfl (by omega) (by decide) rfl dX6_writesNow_80 (fun H locs h => ?_)
        refine r_incN K hl (k := 1) [_, _, _, _, _] dX6_writesNow_81 rfl (by decide) rfl (fun ls hl => ?_)
        refine r_go K 58 dX6_writesNow_84 (by decide) ?_
        refine ih (k + 1) (by omega) _ _ (h.to ?_) _ hl
        rw [← cpy_s, cpy_o (f := f3) (g := f3) (by omega)]
    exact loop 4 0 rfl _ _ (h.to (by rw [cpy_0])) _ hl
  refine r_zne K 45 dX6_writesNow_34 (by decide) (fun c34 => ?_) (fun c34 => ?_)
  · refine r_aln K hl 0 dX6_writesNow_45 rfl rfl ?_
    refine r_iln K hl 3 dX6_writesNow_46 rfl rfl ?_
    refine r_ic K (nI 1) dX6_writesNow_47 k_1 ?_
    refine r_addN K dX6_writesNow_48 ?_
    refine r_ial K h 0 rfl (by omega) (by decide) dX6_writesNow_49 ?_
    refine r_aln K hl 0 dX6_writesNow_50 rfl rfl ?_
    refine r_ic K (nI 2) dX6_writesNow_51 k_2 ?_
    refine r_ial K h 0 rfl (by omega) (by decide) dX6_writesNow_52 ?_
    refine r_rem K c34 dX6_writesNow_53 ?_
    exact J _ (by rw [if_neg c34])
  · refine r_aln K hl 0 dX6_writesNow_37 rfl rfl ?_
    refine r_iln K hl 3 dX6_writesNow_38 rfl rfl ?_
    refine r_ic K (nI 1) dX6_writesNow_39 k_1 ?_
    refine r_addN K dX6_writesNow_40 ?_
    refine r_ial K h 0 rfl (by omega) (by decide) dX6_writesNow_41 ?_
    refine r_go K 54 dX6_writesNow_42 (by decide) ?_
    exact J _ (by rw [if_pos c34])

theorem lent_ne {q : Nat} (h : q < 1000) : ¬ nI q = -9 := fun e => by
  have := congrArg Int32.toInt e
  rw [nI_toInt (by omega)] at this
  have h2 : (-9 : Int32).toInt = -9 := by decide
  omega

set_option maxHeartbeats 4000000 in
set_option maxRecDepth 100000 in
theorem c_X6_takes (l : Launch) (g : GG) (a : Nat) (f : Row) (p n ph : Nat) (q : Option Nat) (hp : p < 4) (hn : n ≤ 4) (hq : ∀ x, q = some x → x < n) (h0 : f 0 = nI n) (h5 : f 5 = nI ph) (hph : ph ≤ 24) : Ct l g yX6_takes cX6_takes 6 none 1 [.ref a, .int (nI p), .int (lentI q)] [aI g a 512 f] none [aI g a 512 (mTakes f p q)] := by
  refine Ct.start (by decide +kernel) (Nat.le_of_ble_eq_true rfl) (by simp [Value.category]) (Or.inl ⟨rfl, rfl⟩) ?_
  intro p0 e R s m args below meth c A Q K hr h ls hl
  have hl : Lq ls 6 [some (.ref a), some (.int (nI p)), some (.int (lentI q)), none, none, none] := hl
  refine r_iln K hl 1 dX6_takes_0 rfl rfl ?_
  refine r_callS K h hl (c_X6_writerAt l g p) mc_X6_writerAt st_X6_writerAt mlX6_40 [] rfl rfl rfl [_] rfl (by decide) (by decide) rfl rfl (Nat.le_of_ble_eq_true rfl) ⟨Nat.zero_le _, Nat.zero_le _⟩ dX6_takes_1 (fun H locs h => ?_)
  refine W.eq (g2 := F0 m 4 ls [_]) rfl ?_
  refine r_isn K hl 3 [_, _, _, _, _, _] dX6_takes_4 rfl (by decide) rfl (fun ls hl => ?_)
  refine r_ic K (nI 0) dX6_takes_5 k_0 ?_
  refine r_is K hl 4 [_, _, _, _, _, _] dX6_takes_6 (by decide) rfl (fun ls hl => ?_)
  have hrn : rN f = n := by unfold rN; rw [h0]; exact nI_clamp (by omega)
  have hrp : rPh f = ph := by unfold rPh; rw [h5]; exact nI_clamp (by omega)
  have tk_o : ∀ k j, (j < 32 + 42 * p + 38 ∨ 32 + 42 * p + 38 + k ≤ j) → mTk f p q k j = f j := fun k j h => if_neg (by omega)
  have tk_s : ∀ k, upd (mTk f p q k) (32 + 42 * p + 38 + k) (mSrc f p q k) = mTk f p q (k + 1) := fun k => by
    funext j
    unfold upd mTk
    by_cases h : j = 32 + 42 * p + 38 + k
    · subst h; rw [if_pos rfl, if_pos (by omega), show 32 + 42 * p + 38 + k - (32 + 42 * p + 38) = k by omega]
    · rw [if_neg h]
      by_cases h2 : 32 + 42 * p + 38 ≤ j ∧ j < 32 + 42 * p + 38 + k
      · rw [if_pos h2, if_pos (by omega)]
      · rw [if_neg h2, if_neg (by omega)]
  have loop : ∀ (j k : Nat), k + j = n → ∀ (H : Heap) (locs : List Loc), Hp g A s H locs [aI g a 512 (mTk f p q k)] → ∀ ls, Lq ls 6 [some (.ref a), some (.int (nI p)), some (.int (lentI q)), some (.int (nI (32 + 42 * p))), some (.int (nI k)), none] → W p0 l e R s m args below meth c H locs 0 0 Q (F0 m 8 ls []) := by
    intro j
    induction j with
    | zero =>
      intro k hk H locs h ls hl
      obtain rfl : k = n := by omega
      refine r_il K hl 4 dX6_takes_8 rfl ?_
      refine r_aln K hl 0 dX6_takes_10 rfl rfl ?_
      refine r_ic K (nI 0) dX6_takes_11 k_0 ?_
      refine r_ialE K h 0 rfl (by omega) (by decide) ((tk_o _ _ (by omega)).trans h0) dX6_takes_12 ?_
      refine r_cgeN K 68 dX6_takes_13 (by decide) (by omega) (by omega) (fun c13 => ?_) (fun c => absurd c (by omega))
      generalize hf1 : mTk f p q k = f1 at h
      have h15 : f1 5 = nI ph := by rw [← hf1, tk_o _ _ (by omega)]; exact h5
      have hp1 : rPh f1 = ph := by unfold rPh; rw [h15]; exact nI_clamp (by omega)
      refine r_aln K hl 0 dX6_takes_68 rfl rfl ?_
      refine r_ic K (nI 5) dX6_takes_69 k_5 ?_
      refine r_ialE K h 0 rfl (by omega) (by decide) h15 dX6_takes_70 ?_
      refine r_bp K (nI 24) dX6_takes_71 kb_24 ?_
      refine r_cgeN K 192 dX6_takes_73 (by decide) (by omega) (by omega) (fun c73 => ?_) (fun c73 => ?_)
      · refine r_aln K hl 0 dX6_takes_192 rfl rfl ?_
        refine r_iln K hl 3 dX6_takes_193 rfl rfl ?_
        refine r_ic K (nI 5) dX6_takes_194 k_5 ?_
        refine r_addN K dX6_takes_195 ?_
        refine r_ic K (nI 1) dX6_takes_196 k_1 ?_
        refine r_ias K h 0 [_] rfl (by omega) (by decide) rfl dX6_takes_197 (fun H locs h => ?_)
        exact hr.2 _ _ _ _ dX6_takes_198 (h.to (by dsimp only [mTakes]; rw [if_neg (by omega), hrn, hf1])) rfl
      · refine r_sp K (nI 200) dX6_takes_76 ks_200 ?_
        refine r_bp K (nI 10) dX6_takes_79 kb_10 ?_
        refine r_aln K hl 0 dX6_takes_81 rfl rfl ?_
        refine r_ic K (nI 5) dX6_takes_82 k_5 ?_
        refine r_ialE K h 0 rfl (by omega) (by decide) h15 dX6_takes_83 ?_
        refine r_mulN K dX6_takes_84 ?_
        refine r_addN K dX6_takes_85 ?_
        refine r_is K hl 4 [_, _, _, _, _, _] dX6_takes_86 (by decide) rfl (fun ls hl => ?_)
        refine r_aln K hl 0 dX6_takes_88 rfl rfl ?_
        refine r_il K hl 4 dX6_takes_89 rfl ?_
        refine r_iln K hl 1 dX6_takes_91 rfl rfl ?_
        refine r_ias K h 0 [_] rfl (by omega) (by decide) rfl dX6_takes_92 (fun H locs h => ?_)
        refine r_aln K hl 0 dX6_takes_93 rfl rfl ?_
        refine r_il K hl 4 dX6_takes_94 rfl ?_
        refine r_ic K (nI 1) dX6_takes_96 k_1 ?_
        refine r_addN K dX6_takes_97 ?_
        refine r_aln K hl 0 dX6_takes_98 rfl rfl ?_
        refine r_iln K hl 3 dX6_takes_99 rfl rfl ?_
        refine r_ic K (nI 3) dX6_takes_100 k_3 ?_
        refine r_addN K dX6_takes_101 ?_
        refine r_ial K h 0 rfl (by omega) (by decide) dX6_takes_102 ?_
        refine r_ias K h 0 [_] rfl (by omega) (by decide) rfl dX6_takes_103 (fun H locs h => ?_)
        refine r_aln K hl 0 dX6_takes_104 rfl rfl ?_
        refine r_il K hl 4 dX6_takes_105 rfl ?_
        refine r_ic K (nI 2) dX6_takes_107 k_2 ?_
        refine r_addN K dX6_takes_108 ?_
        refine r_aln K hl 0 dX6_takes_109 rfl rfl ?_
        refine r_ic K (nI 3) dX6_takes_110 k_3 ?_
        refine r_ial K h 0 rfl (by omega) (by decide) dX6_takes_111 ?_
        refine r_ias K h 0 [_] rfl (by omega) (by decide) rfl dX6_takes_112 (fun H locs h => ?_)
        refine r_aln K hl 0 dX6_takes_113 rfl rfl ?_
        refine r_il K hl 4 dX6_takes_114 rfl ?_
        refine r_ic K (nI 3) dX6_takes_116 k_3 ?_
        refine r_addN K dX6_takes_117 ?_
        refine r_aln K hl 0 dX6_takes_118 rfl rfl ?_
        refine r_iln K hl 3 dX6_takes_119 rfl rfl ?_
        refine r_ic K (nI 2) dX6_takes_120 k_2 ?_
        refine r_addN K dX6_takes_121 ?_
        refine r_ial K h 0 rfl (by omega) (by decide) dX6_takes_122 ?_
        refine r_ias K h 0 [_] rfl (by omega) (by decide) rfl dX6_takes_123 (fun H locs h => ?_)
        refine r_aln K hl 0 dX6_takes_124 rfl rfl ?_
        refine r_il K hl 4 dX6_takes_125 rfl ?_
        refine r_ic K (nI 4) dX6_takes_127 k_4 ?_
        refine r_addN K dX6_takes_128 ?_
        refine r_iln K hl 2 dX6_takes_129 rfl rfl ?_
        refine r_ias K h 0 [_] rfl (by omega) (by decide) rfl dX6_takes_130 (fun H locs h => ?_)
        refine r_aln K hl 0 dX6_takes_131 rfl rfl ?_
        refine r_il K hl 4 dX6_takes_132 rfl ?_
        refine r_ic K (nI 5) dX6_takes_134 k_5 ?_
        refine r_addN K dX6_takes_135 ?_
        refine r_aln K hl 0 dX6_takes_136 rfl rfl ?_
        refine r_iln K hl 3 dX6_takes_137 rfl rfl ?_
        refine r_ic K (nI 0) dX6_takes_138 k_0 ?_
        refine r_addN K dX6_takes_139 ?_
        refine r_ial K h 0 rfl (by omega) (by decide) dX6_takes_140 ?_
        refine r_ic K (nI 2) dX6_takes_141 k_2 ?_
        generalize hf5 : upd (upd (upd (upd (upd f1 (200 + 10 * ph) (nI p)) (200 + 10 * ph + 1) (upd f1 (200 + 10 * ph) (nI p) (32 + 42 * p + 3))) (200 + 10 * ph + 2) _) (200 + 10 * ph + 3) _) (200 + 10 * ph + 4) (lentI q) = f5 at h ⊢
        have J : ∀ v : Int32, v = (if f5 (32 + 42 * p + 0) = nI 2 then nI 1 else nI 0) → W p0 l e R s m args below meth c H locs 0 0 Q (F0 m 150 ls [.int v, .int (nI (200 + 10 * ph + 5)), .ref a]) := by
          intro v hv
          refine r_ias K h 0 [_] rfl (by omega) (by decide) rfl dX6_takes_150 (fun H locs h => ?_)
          refine r_ic K (nI 0) dX6_takes_151 k_0 ?_
          refine r_is K hl 5 [_, _, _, _, _, _] dX6_takes_152 (by decide) rfl (fun ls hl => ?_)
          generalize hf6 : upd f5 (200 + 10 * ph + 5) v = f6 at h
          have loop2 : ∀ (j i : Nat), i + j = 4 → ∀ (H : Heap) (locs : List Loc), Hp g A s H locs [aI g a 512 (va_cpy f6 f6 (32 + 42 * p + 38) (200 + 10 * ph + 6) i)] → ∀ ls, Lq ls 6 [some (.ref a), some (.int (nI p)), some (.int (lentI q)), some (.int (nI (32 + 42 * p))), some (.int (nI (200 + 10 * ph))), some (.int (nI i))] → W p0 l e R s m args below meth c H locs 0 0 Q (F0 m 154 ls []) := by
            intro j
            induction j with
            | zero =>
              intro i hi H locs h ls hl
              refine r_il K hl 5 dX6_takes_154 rfl ?_
              refine r_ic K (nI 4) dX6_takes_156 k_4 ?_
              refine r_cgeN K 185 dX6_takes_157 (by decide) (by omega) (by omega) (fun c157 => ?_) (fun c => absurd c (by omega))
              obtain rfl : i = 4 := by omega
              refine r_aln K hl 0 dX6_takes_185 rfl rfl ?_
              refine r_ic K (nI 5) dX6_takes_186 k_5 ?_
              refine r_dup2 K dX6_takes_187 rfl rfl ?_
              refine r_ial K h 0 rfl (by omega) (by decide) dX6_takes_188 ?_
              refine r_ic K (nI 1) dX6_takes_189 k_1 ?_
              refine r_add K dX6_takes_190 ?_
              refine r_ias K h 0 [_] rfl (by omega) (by decide) rfl dX6_takes_191 (fun H locs h => ?_)
              refine r_aln K hl 0 dX6_takes_192 rfl rfl ?_
              refine r_iln K hl 3 dX6_takes_193 rfl rfl ?_
              refine r_ic K (nI 5) dX6_takes_194 k_5 ?_
              refine r_addN K dX6_takes_195 ?_
              refine r_ic K (nI 1) dX6_takes_196 k_1 ?_
              refine r_ias K h 0 [_] rfl (by omega) (by decide) rfl dX6_takes_197 (fun H locs h => ?_)
              exact hr.2 _ _ _ _ dX6_takes_198 (h.to (by dsimp only [mTakes]; rw [if_pos (by omega), hrn, hf1]; dsimp only [mPho]; rw [hp1, hf5, ← hv, hf6])) rfl
            | succ j ih =>
              intro i hi H locs h ls hl
              refine r_il K hl 5 dX6_takes_154 rfl ?_
              refine r_ic K (nI 4) dX6_takes_156 k_4 ?_
              refine r_cgeN K 185 dX6_takes_157 (by decide) (by omega) (by omega) (fun c => absurd c (by omega)) (fun c157 => ?_)
              refine r_aln K hl 0 dX6_takes_160 rfl rfl ?_
              refine r_il K hl 4 dX6_takes_161 rfl ?_
              refine r_bp K (nI 6) dX6_takes_163 kb_6 ?_
              refine r_addN K dX6_takes_165 ?_
              refine r_il K hl 5 dX6_takes_166 rfl ?_
              refine r_addN K dX6_takes_168 ?_
              refine r_aln K hl 0 dX6_takes_169 rfl rfl ?_
              refine r_iln K hl 3 dX6_takes_170 rfl rfl ?_
              refine r_bp K (nI 38) dX6_takes_171 kb_38 ?_
              refine r_addN K dX6_takes_173 ?_
              refine r_il K hl 5 dX6_takes_174 rfl ?_
              refine r_addN K dX6_takes_176 ?_
              refine r_ial K h 0 rfl (by omega) (by decide) dX6_takes_177 ?_
              refine r_ias K h 0 [_] rfl (by omega) (by decide) rfl dX6_takes_178 (fun H locs h => ?_)
              refine r_incN K hl (k := 1) [_, _, _, _, _, _] dX6_takes_179 rfl (by decide) rfl (fun ls hl => ?_)
              refine r_go K 154 dX6_takes_182 (by decide) ?_
              refine ih (i + 1) (by omega) _ _ (h.to ?_) _ hl
              rw [← cpy_s, cpy_o (f := f6) (g := f6) (by omega)]
          exact loop2 4 0 rfl _ _ (h.to (by rw [cpy_0])) _ hl
        refine r_cne K 149 dX6_takes_142 (by decide) (fun c142 => ?_) (fun c142 => ?_)
        · refine r_ic K (nI 0) dX6_takes_149 k_0 ?_
          exact J _ (by rw [if_neg c142])
        · refine r_ic K (nI 1) dX6_takes_145 k_1 ?_
          refine r_go K 150 dX6_takes_146 (by decide) ?_
          exact J _ (by rw [if_pos c142])
    | succ j ih =>
      intro k hk H locs h ls hl
      refine r_il K hl 4 dX6_takes_8 rfl ?_
      refine r_aln K hl 0 dX6_takes_10 rfl rfl ?_
      refine r_ic K (nI 0) dX6_takes_11 k_0 ?_
      refine r_ialE K h 0 rfl (by omega) (by decide) ((tk_o _ _ (by omega)).trans h0) dX6_takes_12 ?_
      refine r_cgeN K 68 dX6_takes_13 (by decide) (by omega) (by omega) (fun c => absurd c (by omega)) (fun c13 => ?_)
      refine r_aln K hl 0 dX6_takes_16 rfl rfl ?_
      refine r_iln K hl 3 dX6_takes_17 rfl rfl ?_
      refine r_bp K (nI 38) dX6_takes_18 kb_38 ?_
      refine r_addN K dX6_takes_20 ?_
      refine r_il K hl 4 dX6_takes_21 rfl ?_
      refine r_addN K dX6_takes_23 ?_
      refine r_iln K hl 2 dX6_takes_24 rfl rfl ?_
      refine r_bp K (-9) dX6_takes_25 kb_m9 ?_
      have J : ∀ v : Int32, v = mSrc f p q k → W p0 l e R s m args below meth c H locs 0 0 Q (F0 m 61 ls [.int v, .int (nI (32 + 42 * p + 38 + k)), .ref a]) := by
        intro v hv
        refine r_ias K h 0 [_] rfl (by omega) (by decide) rfl dX6_takes_61 (fun H locs h => ?_)
        refine r_incN K hl (k := 1) [_, _, _, _, _, _] dX6_takes_62 rfl (by decide) rfl (fun ls hl => ?_)
        refine r_go K 8 dX6_takes_65 (by decide) ?_
        exact ih (k + 1) (by omega) _ _ (h.to (by rw [hv, tk_s])) _ hl
      cases q with
      | none =>
        refine r_cne K 45 dX6_takes_27 (by decide) (fun c => absurd rfl c) (fun c27 => ?_)
        refine r_aln K hl 0 dX6_takes_30 rfl rfl ?_
        refine r_iln K hl 3 dX6_takes_31 rfl rfl ?_
        refine r_bp K (nI 14) dX6_takes_32 kb_14 ?_
        refine r_addN K dX6_takes_34 ?_
        refine r_bp K (nI 6) dX6_takes_35 kb_6 ?_
        refine r_il K hl 4 dX6_takes_37 rfl ?_
        refine r_mulN K dX6_takes_39 ?_
        refine r_addN K dX6_takes_40 ?_
        refine r_ial K h 0 rfl (by omega) (by decide) dX6_takes_41 ?_
        refine r_go K 61 dX6_takes_42 (by decide) ?_
        exact J _ (tk_o _ _ (by omega))
      | some q =>
        have hq2 : q < n := hq q rfl
        refine r_cne K 45 dX6_takes_27 (by decide) (fun c27 => ?_) (fun c => absurd c (lent_ne (by omega)))
        have hl : Lq ls 6 [some (.ref a), some (.int (nI p)), some (.int (nI q)), some (.int (nI (32 + 42 * p))), some (.int (nI k)), none] := hl
        refine r_aln K hl 0 dX6_takes_45 rfl rfl ?_
        refine r_iln K hl 3 dX6_takes_46 rfl rfl ?_
        refine r_bp K (nI 14) dX6_takes_47 kb_14 ?_
        refine r_addN K dX6_takes_49 ?_
        refine r_bp K (nI 6) dX6_takes_50 kb_6 ?_
        refine r_iln K hl 2 dX6_takes_52 rfl rfl ?_
        refine r_mulN K dX6_takes_53 ?_
        refine r_addN K dX6_takes_54 ?_
        refine r_ic K (nI 2) dX6_takes_55 k_2 ?_
        refine r_addN K dX6_takes_56 ?_
        refine r_il K hl 4 dX6_takes_57 rfl ?_
        refine r_addN K dX6_takes_59 ?_
        refine r_ial K h 0 rfl (by omega) (by decide) dX6_takes_60 ?_
        exact J _ (tk_o _ _ (by omega))
  exact loop n 0 (by omega) _ _ (h.to (by rw [show mTk f p q 0 = f from funext (fun j => tk_o 0 j (by omega))])) _ hl
