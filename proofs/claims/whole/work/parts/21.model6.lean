set_option maxHeartbeats 4000000 in
set_option maxRecDepth 100000 in
theorem c_X6_writer_bad (l : Launch) (g : GG) (a : Nat → Nat) (th um sm : Int32) (f fw fp fi fk fs ft : Row) (n : Nat) (hn1 : 1 ≤ n) (hn : n ≤ 4) (h0 : f 0 = nI n) (x v : Int32) (hb : (inB x (nI 0) (nI (n - 1)) && inB v (nI 0) (nI 8)) = false) : Ct l g yX6_writer cX6_writer 5 (some .int) 2 [.ref (a 0), .int x, .int v] (mW g a (th) (um) (sm) (f) (fw) (fp) (fi) (fk) (fs) (ft)) (some (.int (-1))) (mW g a (nI 0) (um) (sm) (f) (fw) (fp) (fi) (fk) (fs) (ft)) := by
  refine Ct.start (by decide +kernel) (Nat.le_of_ble_eq_true rfl) (by simp [Value.category]) (Or.inr ⟨.int, _, rfl, rfl, rfl⟩) ?_
  intro p0 e R s m args below meth c A Q K hr h ls hl
  have hl : Lq ls 5 [some (.ref (a 0)), some (.int x), some (.int v), none, none] := hl
  refine r_aln K hl 0 dX6_writer_0 rfl rfl ?_
  refine r_ic K (nI 0) dX6_writer_1 k_0 ?_
  refine r_put K h ffX6_36 pfX6_0 0 [_, _, _, _, _, _, _, _, _, _] [_, _, _, _, _, _, _, _] rfl rfl rfl (Nat.le_of_ble_eq_true rfl) rfl rfl dX6_writer_2 (fun H locs h => ?_)
  refine r_aln K hl 0 dX6_writer_5 rfl rfl ?_
  refine r_iln K hl 1 dX6_writer_6 rfl rfl ?_
  refine r_callV K h hl (c_X6_isWriter l g a _ _ _ f n x hn1 h0) mc_X6_isWriter vm_X6_isWriter mlX6_86 0 rfl rfl rfl [0, 1] rfl rfl rfl [_, _, _, _, _, _, _, _] rfl (by decide) (by decide) rfl rfl (Nat.le_of_ble_eq_true rfl) ⟨Nat.zero_le _, Nat.zero_le _⟩ dX6_writer_7 (fun H locs h => ?_)
  refine W.eq (g2 := F0 m 10 ls [_]) rfl ?_
  refine r_zeqB K 23 dX6_writer_10 (by decide) (fun c10 => ?_) (fun c10 => ?_)
  · refine r_ic K (-1) dX6_writer_23 k_m1 ?_
    exact hr.1 _ _ _ _ _ dX6_writer_24 h rfl
  · refine r_iln K hl 2 dX6_writer_13 rfl rfl ?_
    refine r_ic K (nI 0) dX6_writer_14 k_0 ?_
    refine r_bp K (nI 8) dX6_writer_15 kb_8 ?_
    refine r_callS K h hl (c_X6_in l g v (nI 0) (nI 8)) mc_X6_in st_X6_in mlX6_69 [] rfl rfl rfl [_, _, _, _, _, _, _, _] rfl (by decide) (by decide) rfl rfl (Nat.le_of_ble_eq_true rfl) ⟨Nat.zero_le _, Nat.zero_le _⟩ dX6_writer_17 (fun H locs h => ?_)
    refine W.eq (g2 := F0 m 20 ls [_]) rfl ?_
    refine r_zneB K 25 dX6_writer_20 (by decide) (fun c20 => ?_) (fun c20 => ?_)
    · exact absurd hb (by rw [c10, c20]; decide)
    · refine r_ic K (-1) dX6_writer_23 k_m1 ?_
      exact hr.1 _ _ _ _ _ dX6_writer_24 h rfl

set_option maxHeartbeats 4000000 in
set_option maxRecDepth 100000 in
theorem c_X6_writer_ok (l : Launch) (g : GG) (a : Nat → Nat) (th um sm : Int32) (f fw fp fi fk fs ft : Row) (n mv p k : Nat) (hx : WFx f n mv) (hp : p < n) (hk : k ≤ 8) : Ct l g yX6_writer cX6_writer 5 (some .int) 2 [.ref (a 0), .int (nI p), .int (nI k)] (mW g a (th) (um) (sm) (f) (fw) (fp) (fi) (fk) (fs) (ft)) (some (.int (mWA f n p k))) (mW g a (nI 0) (um) (sm) (f) (fw) (fp) (fi) (fk) (fs) (ft)) := by
  refine Ct.start (by decide +kernel) (Nat.le_of_ble_eq_true rfl) (by simp [Value.category]) (Or.inr ⟨.int, _, rfl, rfl, rfl⟩) ?_
  intro p0 e R s m args below meth c A Q K hr h ls hl
  have hl : Lq ls 5 [some (.ref (a 0)), some (.int (nI p)), some (.int (nI k)), none, none] := hl
  have hx1 := hx
  obtain ⟨ph0, wr0, ⟨⟨hn2, hn, -⟩, h0, -⟩⟩ := hx1
  have hn1 : 1 ≤ n := by omega
  refine r_aln K hl 0 dX6_writer_0 rfl rfl ?_
  refine r_ic K (nI 0) dX6_writer_1 k_0 ?_
  refine r_put K h ffX6_36 pfX6_0 0 [_, _, _, _, _, _, _, _, _, _] [_, _, _, _, _, _, _, _] rfl rfl rfl (Nat.le_of_ble_eq_true rfl) rfl rfl dX6_writer_2 (fun H locs h => ?_)
  refine r_aln K hl 0 dX6_writer_5 rfl rfl ?_
  refine r_iln K hl 1 dX6_writer_6 rfl rfl ?_
  refine r_callV K h hl (c_X6_isWriter l g a _ _ _ f n (nI p) hn1 h0) mc_X6_isWriter vm_X6_isWriter mlX6_86 0 rfl rfl rfl [0, 1] rfl rfl rfl [_, _, _, _, _, _, _, _] rfl (by decide) (by decide) rfl rfl (Nat.le_of_ble_eq_true rfl) ⟨Nat.zero_le _, Nat.zero_le _⟩ dX6_writer_7 (fun H locs h => ?_)
  refine W.eq (g2 := F0 m 10 ls [_]) rfl ?_
  refine r_zeqB K 23 dX6_writer_10 (by decide) (fun c => absurd (((inB_of (Nat.zero_le p) (by omega) (by omega))).symm.trans c) (by decide)) (fun _ => ?_)
  refine r_iln K hl 2 dX6_writer_13 rfl rfl ?_
  refine r_ic K (nI 0) dX6_writer_14 k_0 ?_
  refine r_bp K (nI 8) dX6_writer_15 kb_8 ?_
  refine r_callS K h hl (c_X6_in l g (nI k) (nI 0) (nI 8)) mc_X6_in st_X6_in mlX6_69 [] rfl rfl rfl [_, _, _, _, _, _, _, _] rfl (by decide) (by decide) rfl rfl (Nat.le_of_ble_eq_true rfl) ⟨Nat.zero_le _, Nat.zero_le _⟩ dX6_writer_17 (fun H locs h => ?_)
  refine W.eq (g2 := F0 m 20 ls [_]) rfl ?_
  refine r_zneB K 25 dX6_writer_20 (by decide) (fun _ => ?_) (fun c => absurd (((inB_of (Nat.zero_le k) hk (by omega))).symm.trans c) (by decide))
  refine r_iln K hl 1 dX6_writer_25 rfl rfl ?_
  refine r_callS K h hl (c_X6_writerAt l g p) mc_X6_writerAt st_X6_writerAt mlX6_40 [] rfl rfl rfl [_, _, _, _, _, _, _, _] rfl (by decide) (by decide) rfl rfl (Nat.le_of_ble_eq_true rfl) ⟨Nat.zero_le _, Nat.zero_le _⟩ dX6_writer_26 (fun H locs h => ?_)
  refine W.eq (g2 := F0 m 29 ls [_]) rfl ?_
  refine r_isn K hl 3 [_, _, _, _, _] dX6_writer_29 rfl (by decide) rfl (fun ls hl => ?_)
  refine r_aln K hl 0 dX6_writer_30 rfl rfl ?_
  refine r_iln K hl 1 dX6_writer_31 rfl rfl ?_
  refine r_callV K h hl (c_X6_isIdle l g a _ _ _ f p (by omega)) mc_X6_isIdle vm_X6_isIdle mlX6_79 0 rfl rfl rfl [0, 1] rfl rfl rfl [_, _, _, _, _, _, _, _] rfl (by decide) (by decide) rfl rfl (Nat.le_of_ble_eq_true rfl) ⟨Nat.zero_le _, Nat.zero_le _⟩ dX6_writer_32 (fun H locs h => ?_)
  refine W.eq (g2 := F0 m 35 ls [_]) rfl ?_
  have J : ∀ rb : Bool, rb = rdB f p → W p0 l e R s m args below meth c H locs 0 0 Q (F0 m 54 ls [.int (bI rb)]) := by
    intro rb hrb
    refine r_is K hl 4 [_, _, _, _, _] dX6_writer_54 (by decide) rfl (fun ls hl => ?_)
    refine r_iln K hl 2 dX6_writer_56 rfl rfl ?_
    rcases (by omega : k = 0 ∨ k = 1 ∨ k = 2 ∨ k = 3 ∨ k = 4 ∨ k = 5 ∨ k = 6 ∨ k = 7 ∨ k = 8) with rfl | rfl | rfl | rfl | rfl | rfl | rfl | rfl | rfl
    · refine r_tsI K 51 108 dX6_writer_57 (by decide) (by decide) (by decide) (by decide) ?_
      refine r_aln K hl 0 dX6_writer_108 rfl rfl ?_
      refine r_get K h ffX6_7 0 rfl rfl dX6_writer_109 ?_
      refine r_iln K hl 3 dX6_writer_112 rfl rfl ?_
      refine r_ic K (nI 0) dX6_writer_113 k_0 ?_
      refine r_addN K dX6_writer_114 ?_
      refine r_ial K h 1 rfl (by omega) (by decide) dX6_writer_115 ?_
      exact hr.1 _ _ _ _ _ dX6_writer_116 h rfl
    · refine r_tsI K 60 117 dX6_writer_57 (by decide) (by decide) (by decide) (by decide) ?_
      refine r_aln K hl 0 dX6_writer_117 rfl rfl ?_
      refine r_get K h ffX6_7 0 rfl rfl dX6_writer_118 ?_
      refine r_iln K hl 3 dX6_writer_121 rfl rfl ?_
      refine r_ic K (nI 2) dX6_writer_122 k_2 ?_
      refine r_addN K dX6_writer_123 ?_
      refine r_ial K h 1 rfl (by omega) (by decide) dX6_writer_124 ?_
      exact hr.1 _ _ _ _ _ dX6_writer_125 h rfl
    · refine r_tsI K 69 126 dX6_writer_57 (by decide) (by decide) (by decide) (by decide) ?_
      refine r_il K hl 4 dX6_writer_126 rfl ?_
      refine r_zeqB K 149 dX6_writer_128 (by decide) (fun c128 => ?_) (fun c128 => ?_)
      · refine r_bp K (-9) dX6_writer_149 kb_m9 ?_
        exact hr.1 _ _ _ _ _ dX6_writer_151 h (by rw [mWA, ← hrb, c128]; rfl)
      · have hr1 := hrb
        rw [c128, rdB, eq_comm, Bool.and_eq_true] at hr1
        obtain ⟨st, hs1, hs2, hs3⟩ := hx.st hp (of_decide_eq_true hr1.1)
        refine r_aln K hl 0 dX6_writer_131 rfl rfl ?_
        refine r_get K h ffX6_7 0 rfl rfl dX6_writer_132 ?_
        refine r_iln K hl 3 dX6_writer_135 rfl rfl ?_
        refine r_ic K (nI 2) dX6_writer_136 k_2 ?_
        refine r_addN K dX6_writer_137 ?_
        refine r_ialE K h 1 rfl (by omega) (by decide) hs2 dX6_writer_138 ?_
        refine r_aln K hl 0 dX6_writer_139 rfl rfl ?_
        refine r_get K h ffX6_7 0 rfl rfl dX6_writer_140 ?_
        refine r_ic K (nI 0) dX6_writer_143 k_0 ?_
        refine r_ialE K h 1 rfl (by omega) (by decide) h0 dX6_writer_144 ?_
        refine r_remN K (by omega) (by omega) (by omega) dX6_writer_145 ?_
        refine r_go K 151 dX6_writer_146 (by decide) ?_
        exact hr.1 _ _ _ _ _ dX6_writer_151 h (by rw [mWA, ← hrb, c128, if_pos rfl, hs3])
    · refine r_tsI K 95 152 dX6_writer_57 (by decide) (by decide) (by decide) (by decide) ?_
      refine r_aln K hl 0 dX6_writer_152 rfl rfl ?_
      refine r_get K h ffX6_7 0 rfl rfl dX6_writer_153 ?_
      refine r_iln K hl 3 dX6_writer_156 rfl rfl ?_
      refine r_ic K (nI 4) dX6_writer_157 k_4 ?_
      refine r_addN K dX6_writer_158 ?_
      refine r_ial K h 1 rfl (by omega) (by decide) dX6_writer_159 ?_
      exact hr.1 _ _ _ _ _ dX6_writer_160 h rfl
    · refine r_tsI K 130 187 dX6_writer_57 (by decide) (by decide) (by decide) (by decide) ?_
      refine r_aln K hl 0 dX6_writer_187 rfl rfl ?_
      refine r_get K h ffX6_7 0 rfl rfl dX6_writer_188 ?_
      refine r_iln K hl 3 dX6_writer_191 rfl rfl ?_
      refine r_bp K (nI 6) dX6_writer_192 kb_6 ?_
      refine r_addN K dX6_writer_194 ?_
      refine r_iln K hl 2 dX6_writer_195 rfl rfl ?_
      refine r_addN K dX6_writer_196 ?_
      refine r_ic K (nI 4) dX6_writer_197 k_4 ?_
      refine r_subN K (by omega) dX6_writer_198 ?_
      refine r_ial K h 1 rfl (by omega) (by decide) dX6_writer_199 ?_
      exact hr.1 _ _ _ _ _ dX6_writer_200 h rfl
    · refine r_tsI K 130 187 dX6_writer_57 (by decide) (by decide) (by decide) (by decide) ?_
      refine r_aln K hl 0 dX6_writer_187 rfl rfl ?_
      refine r_get K h ffX6_7 0 rfl rfl dX6_writer_188 ?_
      refine r_iln K hl 3 dX6_writer_191 rfl rfl ?_
      refine r_bp K (nI 6) dX6_writer_192 kb_6 ?_
      refine r_addN K dX6_writer_194 ?_
      refine r_iln K hl 2 dX6_writer_195 rfl rfl ?_
      refine r_addN K dX6_writer_196 ?_
      refine r_ic K (nI 4) dX6_writer_197 k_4 ?_
      refine r_subN K (by omega) dX6_writer_198 ?_
      refine r_ial K h 1 rfl (by omega) (by decide) dX6_writer_199 ?_
      exact hr.1 _ _ _ _ _ dX6_writer_200 h rfl
    · refine r_tsI K 130 187 dX6_writer_57 (by decide) (by decide) (by decide) (by decide) ?_
      refine r_aln K hl 0 dX6_writer_187 rfl rfl ?_
      refine r_get K h ffX6_7 0 rfl rfl dX6_writer_188 ?_
      refine r_iln K hl 3 dX6_writer_191 rfl rfl ?_
      refine r_bp K (nI 6) dX6_writer_192 kb_6 ?_
      refine r_addN K dX6_writer_194 ?_
      refine r_iln K hl 2 dX6_writer_195 rfl rfl ?_
      refine r_addN K dX6_writer_196 ?_
      refine r_ic K (nI 4) dX6_writer_197 k_4 ?_
      refine r_subN K (by omega) dX6_writer_198 ?_
      refine r_ial K h 1 rfl (by omega) (by decide) dX6_writer_199 ?_
      exact hr.1 _ _ _ _ _ dX6_writer_200 h rfl
    · refine r_tsI K 130 187 dX6_writer_57 (by decide) (by decide) (by decide) (by decide) ?_
      refine r_aln K hl 0 dX6_writer_187 rfl rfl ?_
      refine r_get K h ffX6_7 0 rfl rfl dX6_writer_188 ?_
      refine r_iln K hl 3 dX6_writer_191 rfl rfl ?_
      refine r_bp K (nI 6) dX6_writer_192 kb_6 ?_
      refine r_addN K dX6_writer_194 ?_
      refine r_iln K hl 2 dX6_writer_195 rfl rfl ?_
      refine r_addN K dX6_writer_196 ?_
      refine r_ic K (nI 4) dX6_writer_197 k_4 ?_
      refine r_subN K (by omega) dX6_writer_198 ?_
      refine r_ial K h 1 rfl (by omega) (by decide) dX6_writer_199 ?_
      exact hr.1 _ _ _ _ _ dX6_writer_200 h rfl
    · refine r_tsI K 104 161 dX6_writer_57 (by decide) (by decide) (by decide) (by decide) ?_
      refine r_aln K hl 0 dX6_writer_161 rfl rfl ?_
      refine r_get K h ffX6_7 0 rfl rfl dX6_writer_162 ?_
      refine r_iln K hl 3 dX6_writer_165 rfl rfl ?_
      refine r_ic K (nI 0) dX6_writer_166 k_0 ?_
      refine r_addN K dX6_writer_167 ?_
      refine r_ial K h 1 rfl (by omega) (by decide) dX6_writer_168 ?_
      refine r_ic K (nI 2) dX6_writer_169 k_2 ?_
      refine r_cne K 184 dX6_writer_170 (by decide) (fun c170 => ?_) (fun c170 => ?_)
      · refine r_bp K (-9) dX6_writer_184 kb_m9 ?_
        exact hr.1 _ _ _ _ _ dX6_writer_186 h (by rw [mWA, if_neg c170])
      · refine r_aln K hl 0 dX6_writer_173 rfl rfl ?_
        refine r_get K h ffX6_7 0 rfl rfl dX6_writer_174 ?_
        refine r_iln K hl 3 dX6_writer_177 rfl rfl ?_
        refine r_ic K (nI 1) dX6_writer_178 k_1 ?_
        refine r_addN K dX6_writer_179 ?_
        refine r_ial K h 1 rfl (by omega) (by decide) dX6_writer_180 ?_
        refine r_go K 186 dX6_writer_181 (by decide) ?_
        exact hr.1 _ _ _ _ _ dX6_writer_186 h (by rw [mWA, if_pos c170])
  refine r_zneB K 53 dX6_writer_35 (by decide) (fun c35 => ?_) (fun c35 => ?_)
  · refine r_ic K (nI 0) dX6_writer_53 k_0 ?_
    exact J false (by rw [rdB, decide_eq_false (fun q => q (of_decide_eq_true c35))]; rfl)
  · refine r_aln K hl 0 dX6_writer_38 rfl rfl ?_
    refine r_get K h ffX6_7 0 rfl rfl dX6_writer_39 ?_
    refine r_iln K hl 3 dX6_writer_42 rfl rfl ?_
    refine r_ic K (nI 5) dX6_writer_43 k_5 ?_
    refine r_addN K dX6_writer_44 ?_
    refine r_ial K h 1 rfl (by omega) (by decide) dX6_writer_45 ?_
    refine r_zne K 53 dX6_writer_46 (by decide) (fun c46 => ?_) (fun c46 => ?_)
    · refine r_ic K (nI 0) dX6_writer_53 k_0 ?_
      exact J false (by rw [rdB, decide_eq_false c46, Bool.and_false])
    · refine r_ic K (nI 1) dX6_writer_49 k_1 ?_
      refine r_go K 54 dX6_writer_50 (by decide) ?_
      exact J true (by rw [rdB, decide_eq_true c46, decide_eq_true (of_decide_eq_false c35)]; rfl)

set_option maxHeartbeats 4000000 in
set_option maxRecDepth 100000 in
theorem c_X6_read_bad (l : Launch) (g : GG) (a : Nat → Nat) (th um sm : Int32) (f fw fp fi fk fs ft : Row) (n : Nat) (hn1 : 1 ≤ n) (hn : n ≤ 4) (h0 : f 0 = nI n) (x y v : Int32) (hb : (inB x (nI 0) (nI (n - 1)) && (inB y (nI 0) (nI (n - 1)) && inB v (nI 0) (nI 1))) = false) : Ct l g yX6_read cX6_read 6 (some .int) 2 [.ref (a 0), .int x, .int y, .int v] (mW g a (th) (um) (sm) (f) (fw) (fp) (fi) (fk) (fs) (ft)) (some (.int (-1))) (mW g a (nI 0) (um) (sm) (f) (fw) (fp) (fi) (fk) (fs) (ft)) := by
  refine Ct.start (by decide +kernel) (Nat.le_of_ble_eq_true rfl) (by simp [Value.category]) (Or.inr ⟨.int, _, rfl, rfl, rfl⟩) ?_
  intro p0 e R s m args below meth c A Q K hr h ls hl
  have hl : Lq ls 6 [some (.ref (a 0)), some (.int x), some (.int y), some (.int v), none, none] := hl
  refine r_aln K hl 0 dX6_read_0 rfl rfl ?_
  refine r_ic K (nI 0) dX6_read_1 k_0 ?_
  refine r_put K h ffX6_36 pfX6_0 0 [_, _, _, _, _, _, _, _, _, _] [_, _, _, _, _, _, _, _] rfl rfl rfl (Nat.le_of_ble_eq_true rfl) rfl rfl dX6_read_2 (fun H locs h => ?_)
  refine r_aln K hl 0 dX6_read_5 rfl rfl ?_
  refine r_iln K hl 1 dX6_read_6 rfl rfl ?_
  refine r_callV K h hl (c_X6_isWriter l g a _ _ _ f n x hn1 h0) mc_X6_isWriter vm_X6_isWriter mlX6_86 0 rfl rfl rfl [0, 1] rfl rfl rfl [_, _, _, _, _, _, _, _] rfl (by decide) (by decide) rfl rfl (Nat.le_of_ble_eq_true rfl) ⟨Nat.zero_le _, Nat.zero_le _⟩ dX6_read_7 (fun H locs h => ?_)
  refine W.eq (g2 := F0 m 10 ls [_]) rfl ?_
  refine r_zeqB K 30 dX6_read_10 (by decide) (fun c10 => ?_) (fun c10 => ?_)
  · refine r_ic K (-1) dX6_read_30 k_m1 ?_
    exact hr.1 _ _ _ _ _ dX6_read_31 h rfl
  · refine r_aln K hl 0 dX6_read_13 rfl rfl ?_
    refine r_iln K hl 2 dX6_read_14 rfl rfl ?_
    refine r_callV K h hl (c_X6_isCell l g a _ _ _ f n y hn1 h0) mc_X6_isCell vm_X6_isCell mlX6_96 0 rfl rfl rfl [0, 1] rfl rfl rfl [_, _, _, _, _, _, _, _] rfl (by decide) (by decide) rfl rfl (Nat.le_of_ble_eq_true rfl) ⟨Nat.zero_le _, Nat.zero_le _⟩ dX6_read_15 (fun H locs h => ?_)
    refine W.eq (g2 := F0 m 18 ls [_]) rfl ?_
    refine r_zeqB K 30 dX6_read_18 (by decide) (fun c18 => ?_) (fun c18 => ?_)
    · refine r_ic K (-1) dX6_read_30 k_m1 ?_
      exact hr.1 _ _ _ _ _ dX6_read_31 h rfl
    · refine r_iln K hl 3 dX6_read_21 rfl rfl ?_
      refine r_ic K (nI 0) dX6_read_22 k_0 ?_
      refine r_ic K (nI 1) dX6_read_23 k_1 ?_
      refine r_callS K h hl (c_X6_in l g v (nI 0) (nI 1)) mc_X6_in st_X6_in mlX6_69 [] rfl rfl rfl [_, _, _, _, _, _, _, _] rfl (by decide) (by decide) rfl rfl (Nat.le_of_ble_eq_true rfl) ⟨Nat.zero_le _, Nat.zero_le _⟩ dX6_read_24 (fun H locs h => ?_)
      refine W.eq (g2 := F0 m 27 ls [_]) rfl ?_
      refine r_zneB K 32 dX6_read_27 (by decide) (fun c27 => ?_) (fun c27 => ?_)
      · exact absurd hb (by rw [c10, c18, c27]; decide)
      · refine r_ic K (-1) dX6_read_30 k_m1 ?_
        exact hr.1 _ _ _ _ _ dX6_read_31 h rfl

set_option maxHeartbeats 4000000 in
set_option maxRecDepth 100000 in
theorem c_X6_read_ok (l : Launch) (g : GG) (a : Nat → Nat) (th um sm : Int32) (f fw fp fi fk fs ft : Row) (n mv p q k : Nat) (hx : WFx f n mv) (hp : p < n) (hq : q < n) (hk : k ≤ 1) : Ct l g yX6_read cX6_read 6 (some .int) 2 [.ref (a 0), .int (nI p), .int (nI q), .int (nI k)] (mW g a (th) (um) (sm) (f) (fw) (fp) (fi) (fk) (fs) (ft)) (some (.int (mRA f n p q k))) (mW g a (nI 0) (um) (sm) (f) (fw) (fp) (fi) (fk) (fs) (ft)) := by
  refine Ct.start (by decide +kernel) (Nat.le_of_ble_eq_true rfl) (by simp [Value.category]) (Or.inr ⟨.int, _, rfl, rfl, rfl⟩) ?_
  intro p0 e R s m args below meth c A Q K hr h ls hl
  have hl : Lq ls 6 [some (.ref (a 0)), some (.int (nI p)), some (.int (nI q)), some (.int (nI k)), none, none] := hl
  have hx1 := hx
  obtain ⟨ph0, wr0, ⟨⟨hn2, hn, -⟩, h0, -⟩⟩ := hx1
  have hn1 : 1 ≤ n := by omega
  refine r_aln K hl 0 dX6_read_0 rfl rfl ?_
  refine r_ic K (nI 0) dX6_read_1 k_0 ?_
  refine r_put K h ffX6_36 pfX6_0 0 [_, _, _, _, _, _, _, _, _, _] [_, _, _, _, _, _, _, _] rfl rfl rfl (Nat.le_of_ble_eq_true rfl) rfl rfl dX6_read_2 (fun H locs h => ?_)
  refine r_aln K hl 0 dX6_read_5 rfl rfl ?_
  refine r_iln K hl 1 dX6_read_6 rfl rfl ?_
  refine r_callV K h hl (c_X6_isWriter l g a _ _ _ f n (nI p) hn1 h0) mc_X6_isWriter vm_X6_isWriter mlX6_86 0 rfl rfl rfl [0, 1] rfl rfl rfl [_, _, _, _, _, _, _, _] rfl (by decide) (by decide) rfl rfl (Nat.le_of_ble_eq_true rfl) ⟨Nat.zero_le _, Nat.zero_le _⟩ dX6_read_7 (fun H locs h => ?_)
  refine W.eq (g2 := F0 m 10 ls [_]) rfl ?_
  refine r_zeqB K 30 dX6_read_10 (by decide) (fun c => absurd (((inB_of (Nat.zero_le p) (by omega) (by omega))).symm.trans c) (by decide)) (fun _ => ?_)
  refine r_aln K hl 0 dX6_read_13 rfl rfl ?_
  refine r_iln K hl 2 dX6_read_14 rfl rfl ?_
  refine r_callV K h hl (c_X6_isCell l g a _ _ _ f n (nI q) hn1 h0) mc_X6_isCell vm_X6_isCell mlX6_96 0 rfl rfl rfl [0, 1] rfl rfl rfl [_, _, _, _, _, _, _, _] rfl (by decide) (by decide) rfl rfl (Nat.le_of_ble_eq_true rfl) ⟨Nat.zero_le _, Nat.zero_le _⟩ dX6_read_15 (fun H locs h => ?_)
  refine W.eq (g2 := F0 m 18 ls [_]) rfl ?_
  refine r_zeqB K 30 dX6_read_18 (by decide) (fun c => absurd (((inB_of (Nat.zero_le q) (by omega) (by omega))).symm.trans c) (by decide)) (fun _ => ?_)
  refine r_iln K hl 3 dX6_read_21 rfl rfl ?_
  refine r_ic K (nI 0) dX6_read_22 k_0 ?_
  refine r_ic K (nI 1) dX6_read_23 k_1 ?_
  refine r_callS K h hl (c_X6_in l g (nI k) (nI 0) (nI 1)) mc_X6_in st_X6_in mlX6_69 [] rfl rfl rfl [_, _, _, _, _, _, _, _] rfl (by decide) (by decide) rfl rfl (Nat.le_of_ble_eq_true rfl) ⟨Nat.zero_le _, Nat.zero_le _⟩ dX6_read_24 (fun H locs h => ?_)
  refine W.eq (g2 := F0 m 27 ls [_]) rfl ?_
  refine r_zneB K 32 dX6_read_27 (by decide) (fun _ => ?_) (fun c => absurd (((inB_of (Nat.zero_le k) hk (by omega))).symm.trans c) (by decide))
  refine r_iln K hl 1 dX6_read_32 rfl rfl ?_
  refine r_callS K h hl (c_X6_writerAt l g p) mc_X6_writerAt st_X6_writerAt mlX6_40 [] rfl rfl rfl [_, _, _, _, _, _, _, _] rfl (by decide) (by decide) rfl rfl (Nat.le_of_ble_eq_true rfl) ⟨Nat.zero_le _, Nat.zero_le _⟩ dX6_read_33 (fun H locs h => ?_)
  refine W.eq (g2 := F0 m 36 ls [_]) rfl ?_
  refine r_is K hl 4 [_, _, _, _, _, _] dX6_read_36 (by decide) rfl (fun ls hl => ?_)
  refine r_aln K hl 0 dX6_read_38 rfl rfl ?_
  refine r_iln K hl 1 dX6_read_39 rfl rfl ?_
  refine r_callV K h hl (c_X6_isIdle l g a _ _ _ f p (by omega)) mc_X6_isIdle vm_X6_isIdle mlX6_79 0 rfl rfl rfl [0, 1] rfl rfl rfl [_, _, _, _, _, _, _, _] rfl (by decide) (by decide) rfl rfl (Nat.le_of_ble_eq_true rfl) ⟨Nat.zero_le _, Nat.zero_le _⟩ dX6_read_40 (fun H locs h => ?_)
  refine W.eq (g2 := F0 m 43 ls [_]) rfl ?_
  have J : ∀ rb : Bool, (rb = true ↔ rdB f p = true ∧ q < rSt f p % n) → W p0 l e R s m args below meth c H locs 0 0 Q (F0 m 83 ls [.int (bI rb)]) := by
    intro rb hrb
    refine r_is K hl 5 [_, _, _, _, _, _] dX6_read_83 (by decide) rfl (fun ls hl => ?_)
    refine r_il K hl 5 dX6_read_85 rfl ?_
    refine r_zeqB K 110 dX6_read_87 (by decide) (fun c87 => ?_) (fun c87 => ?_)
    · refine r_bp K (-9) dX6_read_110 kb_m9 ?_
      exact hr.1 _ _ _ _ _ dX6_read_112 h (by rw [mRA, if_neg (fun q => absurd (c87.symm.trans (hrb.mpr q)) (by decide))])
    · refine r_aln K hl 0 dX6_read_90 rfl rfl ?_
      refine r_get K h ffX6_7 0 rfl rfl dX6_read_91 ?_
      refine r_il K hl 4 dX6_read_94 rfl ?_
      refine r_bp K (nI 14) dX6_read_96 kb_14 ?_
      refine r_addN K dX6_read_98 ?_
      refine r_bp K (nI 6) dX6_read_99 kb_6 ?_
      refine r_iln K hl 2 dX6_read_101 rfl rfl ?_
      refine r_mulN K dX6_read_102 ?_
      refine r_addN K dX6_read_103 ?_
      refine r_iln K hl 3 dX6_read_104 rfl rfl ?_
      refine r_addN K dX6_read_105 ?_
      refine r_ial K h 1 rfl (by omega) (by decide) dX6_read_106 ?_
      refine r_go K 112 dX6_read_107 (by decide) ?_
      exact hr.1 _ _ _ _ _ dX6_read_112 h (by rw [mRA, if_pos (hrb.mp c87)])
  refine r_zneB K 82 dX6_read_43 (by decide) (fun c43 => ?_) (fun c43 => ?_)
  · refine r_ic K (nI 0) dX6_read_82 k_0 ?_
    exact J false ⟨(fun h => by cases h), fun h => absurd h.1 (by rw [rdB, decide_eq_false (fun q => q (of_decide_eq_true c43)), Bool.false_and]; decide)⟩
  · refine r_aln K hl 0 dX6_read_46 rfl rfl ?_
    refine r_get K h ffX6_7 0 rfl rfl dX6_read_47 ?_
    refine r_il K hl 4 dX6_read_50 rfl ?_
    refine r_ic K (nI 5) dX6_read_52 k_5 ?_
    refine r_addN K dX6_read_53 ?_
    refine r_ial K h 1 rfl (by omega) (by decide) dX6_read_54 ?_
    refine r_zne K 82 dX6_read_55 (by decide) (fun c55 => ?_) (fun c55 => ?_)
    · refine r_ic K (nI 0) dX6_read_82 k_0 ?_
      exact J false ⟨(fun h => by cases h), fun h => absurd h.1 (by rw [rdB, decide_eq_false c55, Bool.and_false]; decide)⟩
    · obtain ⟨st, hs1, hs2, hs3⟩ := hx.st hp (of_decide_eq_false c43)
      have hmod : st % n < n := Nat.mod_lt _ (by omega)
      refine r_aln K hl 0 dX6_read_58 rfl rfl ?_
      refine r_get K h ffX6_7 0 rfl rfl dX6_read_59 ?_
      refine r_il K hl 4 dX6_read_62 rfl ?_
      refine r_ic K (nI 2) dX6_read_64 k_2 ?_
      refine r_addN K dX6_read_65 ?_
      refine r_ialE K h 1 rfl (by omega) (by decide) hs2 dX6_read_66 ?_
      refine r_aln K hl 0 dX6_read_67 rfl rfl ?_
      refine r_get K h ffX6_7 0 rfl rfl dX6_read_68 ?_
      refine r_ic K (nI 0) dX6_read_71 k_0 ?_
      refine r_ialE K h 1 rfl (by omega) (by decide) h0 dX6_read_72 ?_
      refine r_remN K (by omega) (by omega) (by omega) dX6_read_73 ?_
      refine r_iln K hl 2 dX6_read_74 rfl rfl ?_
      refine r_cleN K 82 dX6_read_75 (by decide) (by omega) (by omega) (fun c75 => ?_) (fun c75 => ?_)
      · refine r_ic K (nI 0) dX6_read_82 k_0 ?_
        exact J false ⟨(fun h => by cases h), fun h => absurd h.2 (by rw [hs3]; omega)⟩
      · refine r_ic K (nI 1) dX6_read_78 k_1 ?_
        refine r_go K 83 dX6_read_79 (by decide) ?_
        exact J true ⟨fun _ => ⟨by rw [rdB, decide_eq_true c55, decide_eq_true (of_decide_eq_false c43)]; rfl, by rw [hs3]; omega⟩, fun _ => rfl⟩

set_option maxHeartbeats 4000000 in
set_option maxRecDepth 100000 in
theorem c_X6_valueAt (l : Launch) (g : GG) (a : Nat → Nat) (th um sm : Int32) (f : Row) (q wr : Nat) (t : Int32) (h6 : f 6 = nI wr) (hwr : wr ≤ 24) : Ct l g yX6_valueAt cX6_valueAt 6 (some .int) 0 [.ref (a 0), .int (nI q), .int t] [mOb a th um sm, aI g (a 1) 512 f] (some (.int (vAt f q t wr))) [mOb a th um sm, aI g (a 1) 512 f] := by
  refine Ct.start (by decide +kernel) (Nat.le_of_ble_eq_true rfl) (by simp [Value.category]) (Or.inr ⟨.int, _, rfl, rfl, rfl⟩) ?_
  intro p0 e R s m args below meth c A Q K hr h ls hl
  have hl : Lq ls 6 [some (.ref (a 0)), some (.int (nI q)), some (.int t), none, none, none] := hl
  refine r_ic K (nI 0) dX6_valueAt_0 k_0 ?_
  refine r_isn K hl 3 [_, _, _, _, _, _] dX6_valueAt_1 rfl (by decide) rfl (fun ls hl => ?_)
  refine r_ic K (nI 0) dX6_valueAt_2 k_0 ?_
  refine r_is K hl 4 [_, _, _, _, _, _] dX6_valueAt_3 (by decide) rfl (fun ls hl => ?_)
  have loop : ∀ (j k : Nat) (x : Option Value), k + j = wr → ∀ (H : Heap) (locs : List Loc), Hp g A s H locs [mOb a th um sm, aI g (a 1) 512 f] → ∀ ls, Lq ls 6 [some (.ref (a 0)), some (.int (nI q)), some (.int t), some (.int (vAt f q t k)), some (.int (nI k)), x] → W p0 l e R s m args below meth c H locs 0 0 Q (F0 m 5 ls []) := by
    intro j
    induction j with
    | zero =>
      intro k x hk H locs h ls hl
      obtain rfl : k = wr := by omega
      refine r_il K hl 4 dX6_valueAt_5 rfl ?_
      refine r_aln K hl 0 dX6_valueAt_7 rfl rfl ?_
      refine r_get K h ffX6_7 0 rfl rfl dX6_valueAt_8 ?_
      refine r_bp K (nI 6) dX6_valueAt_11 kb_6 ?_
      refine r_ialE K h 1 rfl (by omega) (by decide) h6 dX6_valueAt_13 ?_
      refine r_cgeN K 71 dX6_valueAt_14 (by decide) (by omega) (by omega) (fun c14 => ?_) (fun c => absurd c (by omega))
      refine r_iln K hl 3 dX6_valueAt_71 rfl rfl ?_
      exact hr.1 _ _ _ _ _ dX6_valueAt_72 h rfl
    | succ j ih =>
      intro k x hk H locs h ls hl
      refine r_il K hl 4 dX6_valueAt_5 rfl ?_
      refine r_aln K hl 0 dX6_valueAt_7 rfl rfl ?_
      refine r_get K h ffX6_7 0 rfl rfl dX6_valueAt_8 ?_
      refine r_bp K (nI 6) dX6_valueAt_11 kb_6 ?_
      refine r_ialE K h 1 rfl (by omega) (by decide) h6 dX6_valueAt_13 ?_
      refine r_cgeN K 71 dX6_valueAt_14 (by decide) (by omega) (by omega) (fun c => absurd c (by omega)) (fun c14 => ?_)
      refine r_sp K (nI 440) dX6_valueAt_17 ks_440 ?_
      refine r_ic K (nI 3) dX6_valueAt_20 k_3 ?_
      refine r_il K hl 4 dX6_valueAt_21 rfl ?_
      refine r_mulN K dX6_valueAt_23 ?_
      refine r_addN K dX6_valueAt_24 ?_
      refine r_is K hl 5 [_, _, _, _, _, _] dX6_valueAt_25 (by decide) rfl (fun ls hl => ?_)
      refine r_aln K hl 0 dX6_valueAt_27 rfl rfl ?_
      refine r_get K h ffX6_7 0 rfl rfl dX6_valueAt_28 ?_
      refine r_il K hl 5 dX6_valueAt_31 rfl ?_
      refine r_ial K h 1 rfl (by omega) (by decide) dX6_valueAt_33 ?_
      refine r_iln K hl 2 dX6_valueAt_34 rfl rfl ?_
      refine r_cgt K 63 dX6_valueAt_35 (by decide) (fun c35 => ?_) (fun c35 => ?_)
      · refine r_iln K hl 3 dX6_valueAt_63 rfl rfl ?_
        refine r_isn K hl 3 [_, _, _, _, _, _] dX6_valueAt_64 rfl (by decide) rfl (fun ls hl => ?_)
        refine r_incN K hl (k := 1) [_, _, _, _, _, _] dX6_valueAt_65 rfl (by decide) rfl (fun ls hl => ?_)
        refine r_go K 5 dX6_valueAt_68 (by decide) ?_
        rw [show vAt f q t k = vAt f q t (k + 1) by rw [vAt, if_neg (fun q => absurd q.1 (Int32.not_le.mpr c35))]] at hl
        exact ih (k + 1) _ (by omega) _ _ h _ hl
      · refine r_aln K hl 0 dX6_valueAt_38 rfl rfl ?_
        refine r_get K h ffX6_7 0 rfl rfl dX6_valueAt_39 ?_
        refine r_il K hl 5 dX6_valueAt_42 rfl ?_
        refine r_ic K (nI 1) dX6_valueAt_44 k_1 ?_
        refine r_addN K dX6_valueAt_45 ?_
        refine r_ial K h 1 rfl (by omega) (by decide) dX6_valueAt_46 ?_
        refine r_iln K hl 1 dX6_valueAt_47 rfl rfl ?_
        refine r_cne K 63 dX6_valueAt_48 (by decide) (fun c48 => ?_) (fun c48 => ?_)
        · refine r_iln K hl 3 dX6_valueAt_63 rfl rfl ?_
          refine r_isn K hl 3 [_, _, _, _, _, _] dX6_valueAt_64 rfl (by decide) rfl (fun ls hl => ?_)
          refine r_incN K hl (k := 1) [_, _, _, _, _, _] dX6_valueAt_65 rfl (by decide) rfl (fun ls hl => ?_)
          refine r_go K 5 dX6_valueAt_68 (by decide) ?_
          rw [show vAt f q t k = vAt f q t (k + 1) by rw [vAt, if_neg (fun q => c48 q.2)]] at hl
          exact ih (k + 1) _ (by omega) _ _ h _ hl
        · refine r_aln K hl 0 dX6_valueAt_51 rfl rfl ?_
          refine r_get K h ffX6_7 0 rfl rfl dX6_valueAt_52 ?_
          refine r_il K hl 5 dX6_valueAt_55 rfl ?_
          refine r_ic K (nI 2) dX6_valueAt_57 k_2 ?_
          refine r_addN K dX6_valueAt_58 ?_
          refine r_ial K h 1 rfl (by omega) (by decide) dX6_valueAt_59 ?_
          refine r_go K 64 dX6_valueAt_60 (by decide) ?_
          refine r_isn K hl 3 [_, _, _, _, _, _] dX6_valueAt_64 rfl (by decide) rfl (fun ls hl => ?_)
          refine r_incN K hl (k := 1) [_, _, _, _, _, _] dX6_valueAt_65 rfl (by decide) rfl (fun ls hl => ?_)
          refine r_go K 5 dX6_valueAt_68 (by decide) ?_
          rw [show f (440 + 3 * k + 2) = vAt f q t (k + 1) by rw [vAt, if_pos ⟨Int32.not_lt.mp c35, c48⟩]] at hl
          exact ih (k + 1) _ (by omega) _ _ h _ hl
  exact loop wr 0 none (by omega) _ _ h _ hl

set_option maxHeartbeats 4000000 in
set_option maxRecDepth 100000 in
theorem c_X6_momentOf (l : Launch) (g : GG) (a : Nat → Nat) (th um sm : Int32) (f : Row) (n i wr bg en : Nat) (hi : i < 24) (hn : n ≤ 4) (h0 : f 0 = nI n) (h6 : f 6 = nI wr) (hwr : wr ≤ 24) (hbg : f (200 + 10 * i + 1) = nI bg) (hen : f (200 + 10 * i + 2) = nI en) (hle : bg ≤ en) (hbd : en < 1000000) : Ct l g yX6_momentOf cX6_momentOf 6 (some .int) 1 [.ref (a 0), .int (nI i)] [mOb a th um sm, aI g (a 1) 512 f] (some (.int (momG f wr n i bg (en + 1 - bg)))) [mOb a th um sm, aI g (a 1) 512 f] := by
  refine Ct.start (by decide +kernel) (Nat.le_of_ble_eq_true rfl) (by simp [Value.category]) (Or.inr ⟨.int, _, rfl, rfl, rfl⟩) ?_
  intro p0 e R s m args below meth c A Q K hr h ls hl
  have hl : Lq ls 6 [some (.ref (a 0)), some (.int (nI i)), none, none, none, none] := hl
  refine r_sp K (nI 200) dX6_momentOf_0 ks_200 ?_
  refine r_bp K (nI 10) dX6_momentOf_3 kb_10 ?_
  refine r_iln K hl 1 dX6_momentOf_5 rfl rfl ?_
  refine r_mulN K dX6_momentOf_6 ?_
  refine r_addN K dX6_momentOf_7 ?_
  refine r_isn K hl 2 [_, _, _, _, _, _] dX6_momentOf_8 rfl (by decide) rfl (fun ls hl => ?_)
  refine r_aln K hl 0 dX6_momentOf_9 rfl rfl ?_
  refine r_get K h ffX6_7 0 rfl rfl dX6_momentOf_10 ?_
  refine r_iln K hl 2 dX6_momentOf_13 rfl rfl ?_
  refine r_ic K (nI 1) dX6_momentOf_14 k_1 ?_
  refine r_addN K dX6_momentOf_15 ?_
  refine r_ialE K h 1 rfl (by omega) (by decide) hbg dX6_momentOf_16 ?_
  refine r_isn K hl 3 [_, _, _, _, _, _] dX6_momentOf_17 rfl (by decide) rfl (fun ls hl => ?_)
  have loop : ∀ (j t : Nat) (x y : Option Value), t + j = en + 1 → momG f wr n i t j = momG f wr n i bg (en + 1 - bg) → ∀ (H : Heap) (locs : List Loc), Hp g A s H locs [mOb a th um sm, aI g (a 1) 512 f] → ∀ ls, Lq ls 6 [some (.ref (a 0)), some (.int (nI i)), some (.int (nI (200 + 10 * i))), some (.int (nI t)), x, y] → W p0 l e R s m args below meth c H locs 0 0 Q (F0 m 18 ls []) := by
    intro j
    induction j with
    | zero =>
      intro t x y hk e1 H locs h ls hl
      refine r_iln K hl 3 dX6_momentOf_18 rfl rfl ?_
      refine r_aln K hl 0 dX6_momentOf_19 rfl rfl ?_
      refine r_get K h ffX6_7 0 rfl rfl dX6_momentOf_20 ?_
      refine r_iln K hl 2 dX6_momentOf_23 rfl rfl ?_
      refine r_ic K (nI 2) dX6_momentOf_24 k_2 ?_
      refine r_addN K dX6_momentOf_25 ?_
      refine r_ialE K h 1 rfl (by omega) (by decide) hen dX6_momentOf_26 ?_
      refine r_cgtN K 100 dX6_momentOf_27 (by decide) (by omega) (by omega) (fun c27 => ?_) (fun c => absurd c (by omega))
      refine r_bp K (-9) dX6_momentOf_100 kb_m9 ?_
      exact hr.1 _ _ _ _ _ dX6_momentOf_102 h (by rw [← e1]; rfl)
    | succ j ih =>
      intro t x y hk e1 H locs h ls hl
      refine r_iln K hl 3 dX6_momentOf_18 rfl rfl ?_
      refine r_aln K hl 0 dX6_momentOf_19 rfl rfl ?_
      refine r_get K h ffX6_7 0 rfl rfl dX6_momentOf_20 ?_
      refine r_iln K hl 2 dX6_momentOf_23 rfl rfl ?_
      refine r_ic K (nI 2) dX6_momentOf_24 k_2 ?_
      refine r_addN K dX6_momentOf_25 ?_
      refine r_ialE K h 1 rfl (by omega) (by decide) hen dX6_momentOf_26 ?_
      refine r_cgtN K 100 dX6_momentOf_27 (by decide) (by omega) (by omega) (fun c => absurd c (by omega)) (fun c27 => ?_)
      refine r_ic K (nI 1) dX6_momentOf_30 k_1 ?_
      refine r_is K hl 4 [_, _, _, _, _, _] dX6_momentOf_31 (by decide) rfl (fun ls hl => ?_)
      refine r_ic K (nI 0) dX6_momentOf_33 k_0 ?_
      refine r_is K hl 5 [_, _, _, _, _, _] dX6_momentOf_34 (by decide) rfl (fun ls hl => ?_)
      have J : ∀ (ls : Array Slot) (y' : Option Value) (H : Heap) (locs : List Loc), Hp g A s H locs [mOb a th um sm, aI g (a 1) 512 f] → Lq ls 6 [some (.ref (a 0)), some (.int (nI i)), some (.int (nI (200 + 10 * i))), some (.int (nI t)), some (.int (bI (okK f wr i t n))), y'] → W p0 l e R s m args below meth c H locs 0 0 Q (F0 m 87 ls []) := by
        intro ls y' H locs h hl
        refine r_il K hl 4 dX6_momentOf_87 rfl ?_
        refine r_zeqB K 94 dX6_momentOf_89 (by decide) (fun c89 => ?_) (fun c89 => ?_)
        · refine r_incN K hl (k := 1) [_, _, _, _, _, _] dX6_momentOf_94 rfl (by decide) rfl (fun ls hl => ?_)
          refine r_go K 18 dX6_momentOf_97 (by decide) ?_
          exact ih (t + 1) _ _ (by omega) (by rw [← e1, momG, if_neg (by rw [c89]; decide)]) _ _ h _ hl
        · refine r_iln K hl 3 dX6_momentOf_92 rfl rfl ?_
          exact hr.1 _ _ _ _ _ dX6_momentOf_93 h (by rw [← e1, momG, if_pos c89])
      have loop2 : ∀ (j2 k2 : Nat), k2 + j2 = n → ∀ (H : Heap) (locs : List Loc), Hp g A s H locs [mOb a th um sm, aI g (a 1) 512 f] → ∀ ls, Lq ls 6 [some (.ref (a 0)), some (.int (nI i)), some (.int (nI (200 + 10 * i))), some (.int (nI t)), some (.int (bI (okK f wr i t k2))), some (.int (nI k2))] → W p0 l e R s m args below meth c H locs 0 0 Q (F0 m 36 ls []) := by
        intro j2
        induction j2 with
        | zero =>
          intro k2 hk2 H locs h ls hl
          obtain rfl : k2 = n := by omega
          refine r_il K hl 5 dX6_momentOf_36 rfl ?_
          refine r_aln K hl 0 dX6_momentOf_38 rfl rfl ?_
          refine r_get K h ffX6_7 0 rfl rfl dX6_momentOf_39 ?_
          refine r_ic K (nI 0) dX6_momentOf_42 k_0 ?_
          refine r_ialE K h 1 rfl (by omega) (by decide) h0 dX6_momentOf_43 ?_
          refine r_cgeN K 87 dX6_momentOf_44 (by decide) (by omega) (by omega) (fun c44 => ?_) (fun c => absurd c (by omega))
          exact J _ _ _ _ h hl
        | succ j2 ih2 =>
          intro k2 hk2 H locs h ls hl
          refine r_il K hl 5 dX6_momentOf_36 rfl ?_
          refine r_aln K hl 0 dX6_momentOf_38 rfl rfl ?_
          refine r_get K h ffX6_7 0 rfl rfl dX6_momentOf_39 ?_
          refine r_ic K (nI 0) dX6_momentOf_42 k_0 ?_
          refine r_ialE K h 1 rfl (by omega) (by decide) h0 dX6_momentOf_43 ?_
          refine r_cgeN K 87 dX6_momentOf_44 (by decide) (by omega) (by omega) (fun c => absurd c (by omega)) (fun c44 => ?_)
          refine r_il K hl 4 dX6_momentOf_47 rfl ?_
          refine r_zeqB K 87 dX6_momentOf_49 (by decide) (fun c49 => ?_) (fun c49 => ?_)
          · rw [show okK f wr i t k2 = okK f wr i t n by rw [c49, ← okK_no (n - k2) k2 c49, show k2 + (n - k2) = n by omega]] at hl
            exact J _ _ _ _ h hl
          · refine r_aln K hl 0 dX6_momentOf_52 rfl rfl ?_
            refine r_il K hl 5 dX6_momentOf_53 rfl ?_
            refine r_iln K hl 3 dX6_momentOf_55 rfl rfl ?_
            refine r_callV K h hl (c_X6_valueAt l g a _ _ _ f k2 wr (nI t) h6 hwr) mc_X6_valueAt vm_X6_valueAt mlX6_99 0 rfl rfl rfl [0, 1] rfl rfl rfl [_, _] rfl (by decide) (by decide) rfl rfl (Nat.le_of_ble_eq_true rfl) ⟨Nat.zero_le _, Nat.zero_le _⟩ dX6_momentOf_56 (fun H locs h => ?_)
            refine W.eq (g2 := F0 m 59 ls [_]) rfl ?_
            refine r_aln K hl 0 dX6_momentOf_59 rfl rfl ?_
            refine r_get K h ffX6_7 0 rfl rfl dX6_momentOf_60 ?_
            refine r_iln K hl 2 dX6_momentOf_63 rfl rfl ?_
            refine r_bp K (nI 6) dX6_momentOf_64 kb_6 ?_
            refine r_addN K dX6_momentOf_66 ?_
            refine r_il K hl 5 dX6_momentOf_67 rfl ?_
            refine r_addN K dX6_momentOf_69 ?_
            refine r_ial K h 1 rfl (by omega) (by decide) dX6_momentOf_70 ?_
            refine r_cne K 78 dX6_momentOf_71 (by decide) (fun c71 => ?_) (fun c71 => ?_)
            · refine r_ic K (nI 0) dX6_momentOf_78 k_0 ?_
              refine r_is K hl 4 [_, _, _, _, _, _] dX6_momentOf_79 (by decide) rfl (fun ls hl => ?_)
              refine r_incN K hl (k := 1) [_, _, _, _, _, _] dX6_momentOf_81 rfl (by decide) rfl (fun ls hl => ?_)
              refine r_go K 36 dX6_momentOf_84 (by decide) ?_
              exact ih2 (k2 + 1) (by omega) _ _ h _ (by rw [okK, decide_eq_false c71, Bool.and_false]; exact hl)
            · refine r_ic K (nI 1) dX6_momentOf_74 k_1 ?_
              refine r_go K 79 dX6_momentOf_75 (by decide) ?_
              refine r_is K hl 4 [_, _, _, _, _, _] dX6_momentOf_79 (by decide) rfl (fun ls hl => ?_)
              refine r_incN K hl (k := 1) [_, _, _, _, _, _] dX6_momentOf_81 rfl (by decide) rfl (fun ls hl => ?_)
              refine r_go K 36 dX6_momentOf_84 (by decide) ?_
              exact ih2 (k2 + 1) (by omega) _ _ h _ (by rw [okK, decide_eq_true c71, c49]; exact hl)
      exact loop2 n 0 (by omega) _ _ h _ hl
  exact loop (en + 1 - bg) bg none none (by omega) rfl _ _ h _ hl
