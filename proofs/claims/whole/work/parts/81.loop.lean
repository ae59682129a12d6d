/-! the law's loop over the script -/
theorem and_31 (x : Int32) : ∃ k, k < 32 ∧ x &&& nI 31 = nI k := by
  have h : (x &&& nI 31).toBitVec.toNat ≤ 31 := by
    show (x.toBitVec &&& (nI 31).toBitVec).toNat ≤ 31
    rw [BitVec.toNat_and]
    exact Nat.and_le_right
  refine ⟨(x &&& nI 31).toBitVec.toNat, by omega, ?_⟩
  apply Int32.toBitVec_inj.mp
  show _ = BitVec.ofNat 32 _
  apply BitVec.eq_of_toNat_eq
  rw [BitVec.toNat_ofNat]
  exact (Nat.mod_eq_of_lt (by omega)).symm
theorem len_4 {L i : Nat} (hL : L ≤ 2048) (hi : i ≤ 2048) (h : ¬ Int32.ofNat L - nI 4 < nI i) : i + 4 ≤ L := by
  rcases Nat.lt_or_ge L 4 with h4 | h4
  · exfalso
    apply h
    rw [Int32.lt_iff_toInt_lt, nI_toInt (by omega)]
    rcases (by omega : L = 0 ∨ L = 1 ∨ L = 2 ∨ L = 3) with rfl | rfl | rfl | rfl
    · have : (Int32.ofNat 0 - nI 4).toInt = -4 := by decide
      omega
    · have : (Int32.ofNat 1 - nI 4).toInt = -3 := by decide
      omega
    · have : (Int32.ofNat 2 - nI 4).toInt = -2 := by decide
      omega
    · have : (Int32.ofNat 3 - nI 4).toInt = -1 := by decide
      omega
  · have e : Int32.ofNat L - nI 4 = nI (L - 4) := pk_sub h4
    rw [e] at h
    have : i ≤ L - 4 := Nat.not_lt.mp (fun q => h (nI_lt q (by omega)))
    omega

set_option maxHeartbeats 4000000 in
set_option maxRecDepth 100000 in
theorem law_loop {p0 : Program} {l : Launch} {e : Env} {s : State} {m : MethodId} {below : List Frame} {meth : Method} {c : Code} {Q : State → Prop} {g : GG} {A : Nat → Prop} {b0 L : Nat} {xs : Nat → Int32} (K : Cx p0 l room_1 s m #[Value.ref b0] meth c g A code 4 RL ret 10) (hX : va_X b0 L xs s s.heap) (hbl : b0 < s.heap.size) (hbA : ¬ A b0) (hL : L ≤ 2048) {b a : Nat → Nat} {wa : Nat → Nat → Nat} (hend : ∀ (H : Heap) (locs : List Loc) (ls : Array Slot) (ws : va_W), Hp g A s H locs ws → W p0 l e room_1 s m #[Value.ref b0] below meth c H locs 421 10004 Q (F0 m 684 ls [])) : ∀ (n i T : Nat) (z : SX) (th : Int32) (um q : Nat) (f fw fp fi fk fs ft : Row) (H : Heap) (locs : List Loc) (ls : Array Slot), i + 4 * n = 2048 → T + 20 * n ≤ 10240 → InvZ z f fp fi fk fs um q T → Hp g A s H locs (lwP g b a wa z th um q f fw fp fi fk fs ft) → Lq ls 4 [some (.ref b0), some (.ref (b 0)), some (.ref (a 0)), some (.int (nI i))] → W p0 l e room_1 s m #[Value.ref b0] below meth c H locs 421 10004 Q (F0 m 18 ls [])
  | 0, i, T, z, th, um, q, f, fw, fp, fi, fk, fs, ft, H, locs, ls, hn, hT, hI, h, hl => by
    refine r_iln K hl 3 dL_law_18 rfl rfl ?_
    refine r_aln K hl 0 dL_law_19 rfl rfl ?_
    refine va_slen K.1.1 K.1.2.1 hX hbl hbA h.2.2 dL_law_20 ?_
    refine r_ic K (nI 4) dL_law_21 k_4 ?_
    refine r_sub K dL_law_22 ?_
    refine r_cgt K 684 dL_law_23 (by decide) (fun _ => hend H locs ls _ h) (fun hc => ?_)
    have := len_4 hL (by omega) hc
    omega
  | n + 1, i, T, z, th, um, q, f, fw, fp, fi, fk, fs, ft, H, locs, ls, hn, hT, hI, h, hl => by
    have ih := law_loop K hX hbl hbA hL (b := b) (a := a) (wa := wa) hend n
    have nx : ∀ (T2 : Nat) (z : SX) (th : Int32) (um q : Nat) (f fw fp fi fk fs ft : Row) (H : Heap) (locs : List Loc) (ls : Array Slot), T2 ≤ T + 20 → InvZ z f fp fi fk fs um q T2 → Hp g A s H locs (lwP g b a wa z th um q f fw fp fi fk fs ft) → Lq ls 4 [some (.ref b0), some (.ref (b 0)), some (.ref (a 0)), some (.int (nI i))] → W p0 l e room_1 s m #[Value.ref b0] below meth c H locs 421 10004 Q (F0 m 678 ls []) := by
      intro T2 z th um q f fw fp fi fk fs ft H locs ls hT2 hI h hl
      refine r_incN K hl (k := 4) [some (.ref b0), some (.ref (b 0)), some (.ref (a 0)), some (.int (nI (i + 4)))] dL_law_678 rfl (by decide) rfl (fun ls hl => ?_)
      refine r_go K 18 dL_law_681 (by decide) ?_
      exact ih (i + 4) T2 z th um q f fw fp fi fk fs ft H locs ls (by omega) (by omega) hI h hl
    refine r_iln K hl 3 dL_law_18 rfl rfl ?_
    refine r_aln K hl 0 dL_law_19 rfl rfl ?_
    refine va_slen K.1.1 K.1.2.1 hX hbl hbA h.2.2 dL_law_20 ?_
    refine r_ic K (nI 4) dL_law_21 k_4 ?_
    refine r_sub K dL_law_22 ?_
    refine r_cgt K 684 dL_law_23 (by decide) (fun _ => hend H locs ls _ h) (fun hc => ?_)
    have hi : i + 4 ≤ L := len_4 hL (by omega) hc
    refine r_aln K hl 0 dL_law_26 rfl rfl ?_
    refine r_iln K hl 3 dL_law_27 rfl rfl ?_
    refine r_scr K h hX hbl hbA (by omega) (by omega) dL_law_28 ?_
    refine r_bp K (nI 31) dL_law_29 kb_31 ?_
    refine r_and K dL_law_31 ?_
    obtain ⟨k, hk, ek⟩ := and_31 (xs i)
    rw [ek]
    have kk : ∀ (z : SX) (um q : Nat) (f fw fp fi fk fs ft : Row) (H : Heap) (locs : List Loc) (ls : Array Slot), InvZ z f fp fi fk fs um q (T + 20) → Hp g A s H locs (lwP g b a wa z (nI 0) um q f fw fp fi fk fs ft) → Lq ls 4 [some (.ref b0), some (.ref (b 0)), some (.ref (a 0)), some (.int (nI i))] → W p0 l e room_1 s m #[Value.ref b0] below meth c H locs 421 10004 Q (F0 m 678 ls []) := fun z um q f fw fp fi fk fs ft H locs ls hI h hl => nx (T + 20) z (nI 0) um q f fw fp fi fk fs ft H locs ls (Nat.le_refl _) hI h hl
    rcases Nat.lt_or_ge k 20 with h20 | h20
    · rcases (by omega : k = 0 ∨ k = 1 ∨ k = 2 ∨ k = 3 ∨ k = 4 ∨ k = 5 ∨ k = 6 ∨ k = 7 ∨ k = 8 ∨ k = 9 ∨ k = 10 ∨ k = 11 ∨ k = 12 ∨ k = 13 ∨ k = 14 ∨ k = 15 ∨ k = 16 ∨ k = 17 ∨ k = 18 ∨ k = 19) with rfl | rfl | rfl | rfl | rfl | rfl | rfl | rfl | rfl | rfl | rfl | rfl | rfl | rfl | rfl | rfl | rfl | rfl | rfl | rfl
      · exact r_tsI K 96 128 dL_law_32 (by decide) (by decide) rfl (by decide) (law_begins K hX hbl hbA hL hI (by omega) hi h hl kk)
      · exact r_tsI K 139 171 dL_law_32 (by decide) (by decide) rfl (by decide) (law_scans K hX hbl hbA hL hI (by omega) hi h hl kk)
      · exact r_tsI K 162 194 dL_law_32 (by decide) (by decide) rfl (by decide) (law_writes K hX hbl hbA hL hI (by omega) hi h hl kk)
      · exact r_tsI K 195 227 dL_law_32 (by decide) (by decide) rfl (by decide) (law_steps K hX hbl hbA hL hI (by omega) hi h hl kk)
      · exact r_tsI K 228 260 dL_law_32 (by decide) (by decide) rfl (by decide) (law_undo K hX hbl hbA hL hI (by omega) hi h hl kk)
      · exact r_tsI K 241 273 dL_law_32 (by decide) (by decide) rfl (by decide) (law_cell K hX hbl hbA hL hI (by omega) hi h hl kk)
      · exact r_tsI K 274 306 dL_law_32 (by decide) (by decide) rfl (by decide) (law_writer K hX hbl hbA hL hI (by omega) hi h hl kk)
      · exact r_tsI K 307 339 dL_law_32 (by decide) (by decide) rfl (by decide) (law_read K hX hbl hbA hL hI (by omega) hi h hl kk)
      · exact r_tsI K 350 382 dL_law_32 (by decide) (by decide) rfl (by decide) (law_photo K hX hbl hbA hL hI (by omega) hi h hl kk)
      · exact r_tsI K 383 415 dL_law_32 (by decide) (by decide) rfl (by decide) (law_lone K hX hbl hbA hL hI (by omega) hi h hl kk)
      · exact r_tsI K 406 438 dL_law_32 (by decide) (by decide) rfl (by decide) (law_byTurns K hX hbl hbA hL hI (by omega) hi h hl kk)
      · exact r_tsI K 419 451 dL_law_32 (by decide) (by decide) rfl (by decide) (law_reads K hX hbl hbA hL hI (by omega) hi h hl kk)
      · exact r_tsI K 452 484 dL_law_32 (by decide) (by decide) rfl (by decide) (law_trial K hX hbl hbA hL hI (by omega) hi h hl kk)
      · exact r_tsI K 495 527 dL_law_32 (by decide) (by decide) rfl (by decide) (law_sees K hX hbl hbA hL hI (by omega) hi h hl kk)
      · exact r_tsI K 538 570 dL_law_32 (by decide) (by decide) rfl (by decide) (law_forget K hX hbl hbA hL hI (by omega) hi h hl kk)
      · exact r_tsI K 551 583 dL_law_32 (by decide) (by decide) rfl (by decide) (law_which K hX hbl hbA hL hI (by omega) hi h hl kk)
      · exact r_tsI K 564 596 dL_law_32 (by decide) (by decide) rfl (by decide) (law_ask K hX hbl hbA hL hI (by omega) hi h hl kk)
      · exact r_tsI K 577 609 dL_law_32 (by decide) (by decide) rfl (by decide) (law_keep K hX hbl hbA hL hI (by omega) hi h hl kk)
      · exact r_tsI K 600 632 dL_law_32 (by decide) (by decide) rfl (by decide) (law_back K hX hbl hbA hL hI (by omega) hi h hl kk)
      · exact r_tsI K 623 655 dL_law_32 (by decide) (by decide) rfl (by decide) (law_count K hX hbl hbA hL hI (by omega) hi h hl kk)
    · exact r_tsO K 678 dL_law_32 (Or.inr (by rw [nI_toInt (by omega)]; omega)) (by decide) (nx T z th um q f fw fp fi fk fs ft H locs ls (by omega) hI h hl)
