set_option maxHeartbeats 4000000 in
set_option maxRecDepth 100000 in
theorem c_X6_photo_bad (l : Launch) (g : GG) (a : Nat → Nat) (th um sm : Int32) (f fw fp fi fk fs ft : Row) (ph : Nat) (h5 : f 5 = nI ph) (x v : Int32) (hb : (inB x (nI 0) (nI ph - nI 1) && inB v (nI 0) (nI 10)) = false) : Ct l g yX6_photo cX6_photo 3 (some .int) 1 [.ref (a 0), .int x, .int v] (mW g a (th) (um) (sm) (f) (fw) (fp) (fi) (fk) (fs) (ft)) (some (.int (-1))) (mW g a (nI 0) (um) (sm) (f) (fw) (fp) (fi) (fk) (fs) (ft)) := by
  refine Ct.start (by decide +kernel) (Nat.le_of_ble_eq_true rfl) (by simp [Value.category]) (Or.inr ⟨.int, _, rfl, rfl, rfl⟩) ?_
  intro p0 e R s m args below meth c A Q K hr h ls hl
  have hl : Lq ls 3 [some (.ref (a 0)), some (.int x), some (.int v)] := hl
  refine r_aln K hl 0 dX6_photo_0 rfl rfl ?_
  refine r_ic K (nI 0) dX6_photo_1 k_0 ?_
  refine r_put K h ffX6_36 pfX6_0 0 [_, _, _, _, _, _, _, _, _, _] [_, _, _, _, _, _, _, _] rfl rfl rfl (Nat.le_of_ble_eq_true rfl) rfl rfl dX6_photo_2 (fun H locs h => ?_)
  refine r_iln K hl 1 dX6_photo_5 rfl rfl ?_
  refine r_ic K (nI 0) dX6_photo_6 k_0 ?_
  refine r_aln K hl 0 dX6_photo_7 rfl rfl ?_
  refine r_get K h ffX6_7 0 rfl rfl dX6_photo_8 ?_
  refine r_ic K (nI 5) dX6_photo_11 k_5 ?_
  refine r_ialE K h 1 rfl (by omega) (by decide) h5 dX6_photo_12 ?_
  refine r_ic K (nI 1) dX6_photo_13 k_1 ?_
  refine r_sub K dX6_photo_14 ?_
  refine r_callS K h hl (c_X6_in l g x (nI 0) (nI ph - nI 1)) mc_X6_in st_X6_in mlX6_69 [] rfl rfl rfl [_, _, _, _, _, _, _, _] rfl (by decide) (by decide) rfl rfl (Nat.le_of_ble_eq_true rfl) ⟨Nat.zero_le _, Nat.zero_le _⟩ dX6_photo_15 (fun H locs h => ?_)
  refine W.eq (g2 := F0 m 18 ls [_]) rfl ?_
  refine r_zeqB K 31 dX6_photo_18 (by decide) (fun c18 => ?_) (fun c18 => ?_)
  · refine r_ic K (-1) dX6_photo_31 k_m1 ?_
    exact hr.1 _ _ _ _ _ dX6_photo_32 h rfl
  · refine r_iln K hl 2 dX6_photo_21 rfl rfl ?_
    refine r_ic K (nI 0) dX6_photo_22 k_0 ?_
    refine r_bp K (nI 10) dX6_photo_23 kb_10 ?_
    refine r_callS K h hl (c_X6_in l g v (nI 0) (nI 10)) mc_X6_in st_X6_in mlX6_69 [] rfl rfl rfl [_, _, _, _, _, _, _, _] rfl (by decide) (by decide) rfl rfl (Nat.le_of_ble_eq_true rfl) ⟨Nat.zero_le _, Nat.zero_le _⟩ dX6_photo_25 (fun H locs h => ?_)
    refine W.eq (g2 := F0 m 28 ls [_]) rfl ?_
    refine r_zneB K 33 dX6_photo_28 (by decide) (fun c28 => ?_) (fun c28 => ?_)
    · exact absurd hb (by rw [c18, c28]; decide)
    · refine r_ic K (-1) dX6_photo_31 k_m1 ?_
      exact hr.1 _ _ _ _ _ dX6_photo_32 h rfl

set_option maxHeartbeats 4000000 in
set_option maxRecDepth 100000 in
theorem c_X6_photo_ok (l : Launch) (g : GG) (a : Nat → Nat) (th um sm : Int32) (f fw fp fi fk fs ft : Row) (ph i k : Nat) (h5 : f 5 = nI ph) (hph : ph ≤ 24) (hi : i < ph) (hk : k < 10) : Ct l g yX6_photo cX6_photo 3 (some .int) 1 [.ref (a 0), .int (nI i), .int (nI k)] (mW g a (th) (um) (sm) (f) (fw) (fp) (fi) (fk) (fs) (ft)) (some (.int (f (200 + 10 * i + k)))) (mW g a (nI 0) (um) (sm) (f) (fw) (fp) (fi) (fk) (fs) (ft)) := by
  refine Ct.start (by decide +kernel) (Nat.le_of_ble_eq_true rfl) (by simp [Value.category]) (Or.inr ⟨.int, _, rfl, rfl, rfl⟩) ?_
  intro p0 e R s m args below meth c A Q K hr h ls hl
  have hl : Lq ls 3 [some (.ref (a 0)), some (.int (nI i)), some (.int (nI k))] := hl
  refine r_aln K hl 0 dX6_photo_0 rfl rfl ?_
  refine r_ic K (nI 0) dX6_photo_1 k_0 ?_
  refine r_put K h ffX6_36 pfX6_0 0 [_, _, _, _, _, _, _, _, _, _] [_, _, _, _, _, _, _, _] rfl rfl rfl (Nat.le_of_ble_eq_true rfl) rfl rfl dX6_photo_2 (fun H locs h => ?_)
  refine r_iln K hl 1 dX6_photo_5 rfl rfl ?_
  refine r_ic K (nI 0) dX6_photo_6 k_0 ?_
  refine r_aln K hl 0 dX6_photo_7 rfl rfl ?_
  refine r_get K h ffX6_7 0 rfl rfl dX6_photo_8 ?_
  refine r_ic K (nI 5) dX6_photo_11 k_5 ?_
  refine r_ialE K h 1 rfl (by omega) (by decide) h5 dX6_photo_12 ?_
  refine r_ic K (nI 1) dX6_photo_13 k_1 ?_
  refine r_sub K dX6_photo_14 ?_
  refine r_callS K h hl (c_X6_in l g (nI i) (nI 0) (nI ph - nI 1)) mc_X6_in st_X6_in mlX6_69 [] rfl rfl rfl [_, _, _, _, _, _, _, _] rfl (by decide) (by decide) rfl rfl (Nat.le_of_ble_eq_true rfl) ⟨Nat.zero_le _, Nat.zero_le _⟩ dX6_photo_15 (fun H locs h => ?_)
  refine W.eq (g2 := F0 m 18 ls [_]) rfl ?_
  refine r_zeqB K 31 dX6_photo_18 (by decide) (fun c => absurd (((show inB (nI i) (nI 0) (nI ph - nI 1) = true by rw [pk_sub (by omega)]; exact inB_of (Nat.zero_le i) (by omega) (by omega))).symm.trans c) (by decide)) (fun _ => ?_)
  refine r_iln K hl 2 dX6_photo_21 rfl rfl ?_
  refine r_ic K (nI 0) dX6_photo_22 k_0 ?_
  refine r_bp K (nI 10) dX6_photo_23 kb_10 ?_
  refine r_callS K h hl (c_X6_in l g (nI k) (nI 0) (nI 10)) mc_X6_in st_X6_in mlX6_69 [] rfl rfl rfl [_, _, _, _, _, _, _, _] rfl (by decide) (by decide) rfl rfl (Nat.le_of_ble_eq_true rfl) ⟨Nat.zero_le _, Nat.zero_le _⟩ dX6_photo_25 (fun H locs h => ?_)
  refine W.eq (g2 := F0 m 28 ls [_]) rfl ?_
  refine r_zneB K 33 dX6_photo_28 (by decide) (fun _ => ?_) (fun c => absurd (((inB_of (Nat.zero_le k) (by omega) (by omega))).symm.trans c) (by decide))
  refine r_iln K hl 2 dX6_photo_33 rfl rfl ?_
  refine r_bp K (nI 10) dX6_photo_34 kb_10 ?_
  refine r_cneN K 47 dX6_photo_36 (by decide) (by omega) (by omega) (fun c36 => ?_) (fun c => absurd c (by omega))
  refine r_aln K hl 0 dX6_photo_47 rfl rfl ?_
  refine r_get K h ffX6_7 0 rfl rfl dX6_photo_48 ?_
  refine r_sp K (nI 200) dX6_photo_51 ks_200 ?_
  refine r_bp K (nI 10) dX6_photo_54 kb_10 ?_
  refine r_iln K hl 1 dX6_photo_56 rfl rfl ?_
  refine r_mulN K dX6_photo_57 ?_
  refine r_addN K dX6_photo_58 ?_
  refine r_iln K hl 2 dX6_photo_59 rfl rfl ?_
  refine r_addN K dX6_photo_60 ?_
  refine r_ial K h 1 rfl (by omega) (by decide) dX6_photo_61 ?_
  exact hr.1 _ _ _ _ _ dX6_photo_62 h rfl

set_option maxHeartbeats 4000000 in
set_option maxRecDepth 100000 in
theorem c_X6_photo_mom (l : Launch) (g : GG) (a : Nat → Nat) (th um sm : Int32) (f fw fp fi fk fs ft : Row) (n ph i wr bg en : Nat) (h5 : f 5 = nI ph) (hph : ph ≤ 24) (hi : i < ph) (hn : n ≤ 4) (h0 : f 0 = nI n) (h6 : f 6 = nI wr) (hwr : wr ≤ 24) (hbg : f (200 + 10 * i + 1) = nI bg) (hen : f (200 + 10 * i + 2) = nI en) (hle : bg ≤ en) (hbd : en < 1000000) : Ct l g yX6_photo cX6_photo 3 (some .int) 2 [.ref (a 0), .int (nI i), .int (nI 10)] (mW g a (th) (um) (sm) (f) (fw) (fp) (fi) (fk) (fs) (ft)) (some (.int (mMom f i))) (mW g a (nI 0) (um) (sm) (f) (fw) (fp) (fi) (fk) (fs) (ft)) := by
  refine Ct.start (by decide +kernel) (Nat.le_of_ble_eq_true rfl) (by simp [Value.category]) (Or.inr ⟨.int, _, rfl, rfl, rfl⟩) ?_
  intro p0 e R s m args below meth c A Q K hr h ls hl
  have hl : Lq ls 3 [some (.ref (a 0)), some (.int (nI i)), some (.int (nI 10))] := hl
  refine r_aln K hl 0 dX6_photo_0 rfl rfl ?_
  refine r_ic K (nI 0) dX6_photo_1 k_0 ?_
  refine r_put K h ffX6_36 pfX6_0 0 [_, _, _, _, _, _, _, _, _, _] [_, _, _, _, _, _, _, _] rfl rfl rfl (Nat.le_of_ble_eq_true rfl) rfl rfl dX6_photo_2 (fun H locs h => ?_)
  refine r_iln K hl 1 dX6_photo_5 rfl rfl ?_
  refine r_ic K (nI 0) dX6_photo_6 k_0 ?_
  refine r_aln K hl 0 dX6_photo_7 rfl rfl ?_
  refine r_get K h ffX6_7 0 rfl rfl dX6_photo_8 ?_
  refine r_ic K (nI 5) dX6_photo_11 k_5 ?_
  refine r_ialE K h 1 rfl (by omega) (by decide) h5 dX6_photo_12 ?_
  refine r_ic K (nI 1) dX6_photo_13 k_1 ?_
  refine r_sub K dX6_photo_14 ?_
  refine r_callS K h hl (c_X6_in l g (nI i) (nI 0) (nI ph - nI 1)) mc_X6_in st_X6_in mlX6_69 [] rfl rfl rfl [_, _, _, _, _, _, _, _] rfl (by decide) (by decide) rfl rfl (Nat.le_of_ble_eq_true rfl) ⟨Nat.zero_le _, Nat.zero_le _⟩ dX6_photo_15 (fun H locs h => ?_)
  refine W.eq (g2 := F0 m 18 ls [_]) rfl ?_
  refine r_zeqB K 31 dX6_photo_18 (by decide) (fun c => absurd (((show inB (nI i) (nI 0) (nI ph - nI 1) = true by rw [pk_sub (by omega)]; exact inB_of (Nat.zero_le i) (by omega) (by omega))).symm.trans c) (by decide)) (fun _ => ?_)
  refine r_iln K hl 2 dX6_photo_21 rfl rfl ?_
  refine r_ic K (nI 0) dX6_photo_22 k_0 ?_
  refine r_bp K (nI 10) dX6_photo_23 kb_10 ?_
  refine r_callS K h hl (c_X6_in l g (nI 10) (nI 0) (nI 10)) mc_X6_in st_X6_in mlX6_69 [] rfl rfl rfl [_, _, _, _, _, _, _, _] rfl (by decide) (by decide) rfl rfl (Nat.le_of_ble_eq_true rfl) ⟨Nat.zero_le _, Nat.zero_le _⟩ dX6_photo_25 (fun H locs h => ?_)
  refine W.eq (g2 := F0 m 28 ls [_]) rfl ?_
  refine r_zneB K 33 dX6_photo_28 (by decide) (fun _ => ?_) (fun c => absurd (((inB_of (Nat.zero_le 10) (by omega) (by omega))).symm.trans c) (by decide))
  refine r_iln K hl 2 dX6_photo_33 rfl rfl ?_
  refine r_bp K (nI 10) dX6_photo_34 kb_10 ?_
  refine r_cneN K 47 dX6_photo_36 (by decide) (by omega) (by omega) (fun c => absurd rfl c) (fun c36 => ?_)
  refine r_aln K hl 0 dX6_photo_39 rfl rfl ?_
  refine r_iln K hl 1 dX6_photo_40 rfl rfl ?_
  refine r_callV K h hl (c_X6_momentOf l g a _ _ _ f n i wr bg en (by omega) hn h0 h6 hwr hbg hen hle hbd) mc_X6_momentOf vm_X6_momentOf mlX6_103 0 rfl rfl rfl [0, 1] rfl rfl rfl [_, _, _, _, _, _, _, _] rfl (by decide) (by decide) rfl rfl (Nat.le_of_ble_eq_true rfl) ⟨Nat.zero_le _, Nat.zero_le _⟩ dX6_photo_41 (fun H locs h => ?_)
  refine W.eq (g2 := F0 m 44 ls [_]) rfl ?_
  refine r_go K 62 dX6_photo_44 (by decide) ?_
  exact hr.1 _ _ _ _ _ dX6_photo_62 h (by rw [mMom, rWr_of h6 hwr, rN_of h0 hn, hbg, hen, nI_clamp (by omega), nI_clamp (by omega)])

set_option maxHeartbeats 4000000 in
set_option maxRecDepth 100000 in
theorem c_X6_asNow (l : Launch) (g : GG) (a : Nat → Nat) (th um sm : Int32) (f fw : Row) : Ct l g yX6_asNow cX6_asNow 2 none 0 [.ref (a 0)] [mOb a th um sm, aI g (a 1) 512 f, aI g (a 2) 512 (fw)] none [mOb a th um sm, aI g (a 1) 512 f, aI g (a 2) 512 (f)] := by
  refine Ct.start (by decide +kernel) (Nat.le_of_ble_eq_true rfl) (by simp [Value.category]) (Or.inl ⟨rfl, rfl⟩) ?_
  intro p0 e R s m args below meth c A Q K hr h ls hl
  have hl : Lq ls 2 [some (.ref (a 0)), none] := hl
  refine r_ic K (nI 0) dX6_asNow_0 k_0 ?_
  refine r_isn K hl 1 [_, _] dX6_asNow_1 rfl (by decide) rfl (fun ls hl => ?_)
  have loop : ∀ (j k : Nat), k + j = 512 → ∀ (H : Heap) (locs : List Loc), Hp g A s H locs [mOb a th um sm, aI g (a 1) 512 f, aI g (a 2) 512 (va_cpy f fw 0 0 k)] → ∀ ls, Lq ls 2 [some (.ref (a 0)), some (.int (nI k))] → W p0 l e R s m args below meth c H locs 0 0 Q (F0 m 2 ls []) := by
    intro j
    induction j with
    | zero =>
      intro k hk H locs h ls hl
      obtain rfl : k = 512 := by omega
      refine r_iln K hl 1 dX6_asNow_2 rfl rfl ?_
      refine r_sp K (nI 512) dX6_asNow_3 ks_512 ?_
      refine r_cgeN K 27 dX6_asNow_6 (by decide) (by omega) (by omega) (fun c6 => ?_) (fun c => absurd c (by omega))
      have h := h.arr 2 f rfl (fun j hj => by rw [cpy_i (by omega) (by omega), Nat.zero_add]; rfl)
      exact hr.2 _ _ _ _ dX6_asNow_27 (h.to rfl) rfl
    | succ j ih =>
      intro k hk H locs h ls hl
      refine r_iln K hl 1 dX6_asNow_2 rfl rfl ?_
      refine r_sp K (nI 512) dX6_asNow_3 ks_512 ?_
      refine r_cgeN K 27 dX6_asNow_6 (by decide) (by omega) (by omega) (fun c => absurd c (by omega)) (fun c6 => ?_)
      refine r_aln K hl 0 dX6_asNow_9 rfl rfl ?_
      refine r_get K h ffX6_13 0 rfl rfl dX6_asNow_10 ?_
      refine r_iln K hl 1 dX6_asNow_13 rfl rfl ?_
      refine r_aln K hl 0 dX6_asNow_14 rfl rfl ?_
      refine r_get K h ffX6_7 0 rfl rfl dX6_asNow_15 ?_
      refine r_iln K hl 1 dX6_asNow_18 rfl rfl ?_
      refine r_ial K h 1 rfl (by omega) (by decide) dX6_asNow_19 ?_
      refine r_ias K h 2 [_, _, _] rfl (by omega) (by decide) rfl dX6_asNow_20 (fun H locs h => ?_)
      refine r_incN K hl (k := 1) [_, _] dX6_asNow_21 rfl (by decide) rfl (fun ls hl => ?_)
      refine r_go K 2 dX6_asNow_24 (by decide) ?_
      refine ih (k + 1) (by omega) _ _ (h.to ?_) _ hl
      rw [← cpy_s, Nat.zero_add]
  exact loop 512 0 rfl _ _ (h.to (by rw [cpy_0])) _ hl

set_option maxHeartbeats 4000000 in
set_option maxRecDepth 100000 in
theorem c_X6_lone_bad (l : Launch) (g : GG) (a : Nat → Nat) (th um sm : Int32) (f fw fp fi fk fs ft : Row) (n : Nat) (hn1 : 1 ≤ n) (hn : n ≤ 4) (h0 : f 0 = nI n) (x : Int32) (hb : inB x (nI 0) (nI (n - 1)) = false) : Ct l g yX6_lone cX6_lone 3 (some .int) 2 [.ref (a 0), .int x] (mW g a (th) (um) (sm) (f) (fw) (fp) (fi) (fk) (fs) (ft)) (some (.int (-1))) (mW g a (nI 0) (um) (sm) (f) (fw) (fp) (fi) (fk) (fs) (ft)) := by
  refine Ct.start (by decide +kernel) (Nat.le_of_ble_eq_true rfl) (by simp [Value.category]) (Or.inr ⟨.int, _, rfl, rfl, rfl⟩) ?_
  intro p0 e R s m args below meth c A Q K hr h ls hl
  have hl : Lq ls 3 [some (.ref (a 0)), some (.int x), none] := hl
  refine r_aln K hl 0 dX6_lone_0 rfl rfl ?_
  refine r_ic K (nI 0) dX6_lone_1 k_0 ?_
  refine r_put K h ffX6_36 pfX6_0 0 [_, _, _, _, _, _, _, _, _, _] [_, _, _, _, _, _, _, _] rfl rfl rfl (Nat.le_of_ble_eq_true rfl) rfl rfl dX6_lone_2 (fun H locs h => ?_)
  refine r_aln K hl 0 dX6_lone_5 rfl rfl ?_
  refine r_iln K hl 1 dX6_lone_6 rfl rfl ?_
  refine r_callV K h hl (c_X6_isWriter l g a _ _ _ f n x hn1 h0) mc_X6_isWriter vm_X6_isWriter mlX6_86 0 rfl rfl rfl [0, 1] rfl rfl rfl [_, _, _, _, _, _, _, _] rfl (by decide) (by decide) rfl rfl (Nat.le_of_ble_eq_true rfl) ⟨Nat.zero_le _, Nat.zero_le _⟩ dX6_lone_7 (fun H locs h => ?_)
  refine W.eq (g2 := F0 m 10 ls [_]) rfl ?_
  refine r_zneB K 15 dX6_lone_10 (by decide) (fun c => absurd ((hb).symm.trans c) (by decide)) (fun _ => ?_)
  refine r_ic K (-1) dX6_lone_13 k_m1 ?_
  exact hr.1 _ _ _ _ _ dX6_lone_14 h rfl

set_option maxHeartbeats 4000000 in
set_option maxRecDepth 100000 in
theorem c_X6_lone_ok (l : Launch) (g : GG) (a : Nat → Nat) (th um sm : Int32) (f fw fp fi fk fs ft : Row) (n mv p : Nat) (hx : WFx f n mv) (hp : p < n) : Ct l g yX6_lone cX6_lone 3 (some .int) 4 [.ref (a 0), .int (nI p)] (mW g a (th) (um) (sm) (f) (fw) (fp) (fi) (fk) (fs) (ft)) (some (.int (nI (stC f p 1000)))) (mW g a (nI 0) (um) (sm) (f) (stF f p 1000) (fp) (fi) (fk) (fs) (ft)) := by
  refine Ct.start (by decide +kernel) (Nat.le_of_ble_eq_true rfl) (by simp [Value.category]) (Or.inr ⟨.int, _, rfl, rfl, rfl⟩) ?_
  intro p0 e R s m args below meth c A Q K hr h ls hl
  have hl : Lq ls 3 [some (.ref (a 0)), some (.int (nI p)), none] := hl
  have hx1 := hx
  obtain ⟨ph0, wr0, ⟨⟨hn2, hn, -⟩, h0, -⟩⟩ := hx1
  have hn1 : 1 ≤ n := by omega
  refine r_aln K hl 0 dX6_lone_0 rfl rfl ?_
  refine r_ic K (nI 0) dX6_lone_1 k_0 ?_
  refine r_put K h ffX6_36 pfX6_0 0 [_, _, _, _, _, _, _, _, _, _] [_, _, _, _, _, _, _, _] rfl rfl rfl (Nat.le_of_ble_eq_true rfl) rfl rfl dX6_lone_2 (fun H locs h => ?_)
  refine r_aln K hl 0 dX6_lone_5 rfl rfl ?_
  refine r_iln K hl 1 dX6_lone_6 rfl rfl ?_
  refine r_callV K h hl (c_X6_isWriter l g a _ _ _ f n (nI p) hn1 h0) mc_X6_isWriter vm_X6_isWriter mlX6_86 0 rfl rfl rfl [0, 1] rfl rfl rfl [_, _, _, _, _, _, _, _] rfl (by decide) (by decide) rfl rfl (Nat.le_of_ble_eq_true rfl) ⟨Nat.zero_le _, Nat.zero_le _⟩ dX6_lone_7 (fun H locs h => ?_)
  refine W.eq (g2 := F0 m 10 ls [_]) rfl ?_
  refine r_zneB K 15 dX6_lone_10 (by decide) (fun _ => ?_) (fun c => absurd (((inB_of (Nat.zero_le p) (by omega) (by omega))).symm.trans c) (by decide))
  refine r_aln K hl 0 dX6_lone_15 rfl rfl ?_
  refine r_callV K h hl (c_X6_asNow l g a _ um sm f fw) mc_X6_asNow vm_X6_asNow mlX6_106 0 rfl rfl rfl [0, 1, 2] rfl rfl rfl [_, _, _, _, _, _, _, _] rfl (by decide) (by decide) rfl rfl (Nat.le_of_ble_eq_true rfl) ⟨Nat.zero_le _, Nat.zero_le _⟩ dX6_lone_16 (fun H locs h => ?_)
  refine W.eq (g2 := F0 m 19 ls []) rfl ?_
  refine r_ic K (nI 0) dX6_lone_19 k_0 ?_
  refine r_isn K hl 2 [_, _, _] dX6_lone_20 rfl (by decide) rfl (fun ls hl => ?_)
  have loop : ∀ (j i : Nat) (f' : Row), i + j = 1000 → WFx f' n mv → MB f' p j → stF f' p j = stF f p 1000 → i + stC f' p j = stC f p 1000 → ∀ (H : Heap) (locs : List Loc), Hp g A s H locs (mW g a (nI 0) (um) (sm) (f) (f') (fp) (fi) (fk) (fs) (ft)) → ∀ ls, Lq ls 3 [some (.ref (a 0)), some (.int (nI p)), some (.int (nI i))] → W p0 l e R s m args below meth c H locs 0 0 Q (F0 m 21 ls []) := by
    intro j
    induction j with
    | zero =>
      intro i f' hk hx2 hmb e1 e2 H locs h ls hl
      have hid := hmb.pos hx2 hp
      refine r_aln K hl 0 dX6_lone_21 rfl rfl ?_
      refine r_get K h ffX6_13 0 rfl rfl dX6_lone_22 ?_
      refine r_iln K hl 1 dX6_lone_25 rfl rfl ?_
      refine r_callS K h hl (c_X6_writerAt l g p) mc_X6_writerAt st_X6_writerAt mlX6_40 [] rfl rfl rfl [_, _, _, _, _, _, _, _] rfl (by decide) (by decide) rfl rfl (Nat.le_of_ble_eq_true rfl) ⟨Nat.zero_le _, Nat.zero_le _⟩ dX6_lone_26 (fun H locs h => ?_)
      refine W.eq (g2 := F0 m 29 ls [_, _]) rfl ?_
      refine r_ic K (nI 0) dX6_lone_29 k_0 ?_
      refine r_addN K dX6_lone_30 ?_
      refine r_ial K h 2 rfl (by omega) (by decide) dX6_lone_31 ?_
      refine r_zeq K 49 dX6_lone_32 (by decide) (fun c32 => ?_) (fun c => absurd c (fun q => q hid))
      refine r_iln K hl 2 dX6_lone_49 rfl rfl ?_
      exact hr.1 _ _ _ _ _ dX6_lone_50 (h.to (by rw [← e1, stF_idle hid])) (by rw [← e2, stC_idle hid]; rfl)
    | succ j ih =>
      intro i f' hk hx2 hmb e1 e2 H locs h ls hl
      refine r_aln K hl 0 dX6_lone_21 rfl rfl ?_
      refine r_get K h ffX6_13 0 rfl rfl dX6_lone_22 ?_
      refine r_iln K hl 1 dX6_lone_25 rfl rfl ?_
      refine r_callS K h hl (c_X6_writerAt l g p) mc_X6_writerAt st_X6_writerAt mlX6_40 [] rfl rfl rfl [_, _, _, _, _, _, _, _] rfl (by decide) (by decide) rfl rfl (Nat.le_of_ble_eq_true rfl) ⟨Nat.zero_le _, Nat.zero_le _⟩ dX6_lone_26 (fun H locs h => ?_)
      refine W.eq (g2 := F0 m 29 ls [_, _]) rfl ?_
      refine r_ic K (nI 0) dX6_lone_29 k_0 ?_
      refine r_addN K dX6_lone_30 ?_
      refine r_ial K h 2 rfl (by omega) (by decide) dX6_lone_31 ?_
      refine r_zeq K 49 dX6_lone_32 (by decide) (fun c32 => ?_) (fun c32 => ?_)
      · refine r_iln K hl 2 dX6_lone_49 rfl rfl ?_
        exact hr.1 _ _ _ _ _ dX6_lone_50 (h.to (by rw [← e1, stF_idle c32])) (by rw [← e2, stC_idle c32]; rfl)
      · have ha' := c32
        obtain ⟨ph, wr, hw⟩ := id hx2
        obtain ⟨kd, st, wh, hs, mm, hb⟩ := (hw.2.2.2.2.2 p (by omega)).act ha'
        have h60 := hb.st60 hn2 hn hw.1.2.2.2.1
        have hst := hb.2.1
        have g0 := hw.2.1
        have g5 := hw.2.2.2.1
        have g6 := hw.2.2.2.2.1
        have g7 := hw.1.2.2.2.2.1
        have g8 := hw.1.2.2.2.2.2
        refine r_aln K hl 0 dX6_lone_35 rfl rfl ?_
        refine r_get K h ffX6_13 0 rfl rfl dX6_lone_36 ?_
        refine r_iln K hl 1 dX6_lone_39 rfl rfl ?_
        refine r_callS K h hl (c_X6_step l g (a 2) f' p n ph wr st (by omega) hn2 hn g0 g5 g7 g6 g8 hst (by omega)) mc_X6_step st_X6_step mlX6_93 [2] rfl rfl rfl [_, _, _, _, _, _, _, _] rfl (by decide) (by decide) rfl rfl (Nat.le_of_ble_eq_true rfl) ⟨Nat.zero_le _, Nat.zero_le _⟩ dX6_lone_40 (fun H locs h => ?_)
        refine W.eq (g2 := F0 m 43 ls []) rfl ?_
        refine r_incN K hl (k := 1) [_, _, _] dX6_lone_43 rfl (by decide) rfl (fun ls hl => ?_)
        refine r_go K 21 dX6_lone_46 (by decide) ?_
        exact ih (i + 1) _ (by omega) (wfx_step hx2 hp ha') (hmb.step hx2 hp ha') (by rw [← e1, stF, if_neg ha']) (by rw [← e2, stC, if_neg ha']; omega) _ _ h _ hl
  exact loop 1000 0 f rfl hx (MB.of (by omega)) rfl (by omega) _ _ h _ hl

set_option maxHeartbeats 4000000 in
set_option maxRecDepth 100000 in
theorem c_X6_byTurns_ok (l : Launch) (g : GG) (a : Nat → Nat) (th um sm : Int32) (f fw fp fi fk fs ft : Row) (n mv : Nat) (hx : WFx f n mv) : Ct l g yX6_byTurns cX6_byTurns 4 (some .int) 4 [.ref (a 0)] (mW g a (th) (um) (sm) (f) (fw) (fp) (fi) (fk) (fs) (ft)) (some (.int (nI (btC f n 1000)))) (mW g a (nI 0) (um) (sm) (f) (btF f n 1000) (fp) (fi) (fk) (fs) (ft)) := by
  refine Ct.start (by decide +kernel) (Nat.le_of_ble_eq_true rfl) (by simp [Value.category]) (Or.inr ⟨.int, _, rfl, rfl, rfl⟩) ?_
  intro p0 e R s m args below meth c A Q K hr h ls hl
  have hl : Lq ls 4 [some (.ref (a 0)), none, none, none] := hl
  have hx1 := hx
  obtain ⟨ph0, wr0, ⟨⟨hn2, hn, -⟩, h0, -⟩⟩ := hx1
  have hn1 : 1 ≤ n := by omega
  refine r_aln K hl 0 dX6_byTurns_0 rfl rfl ?_
  refine r_ic K (nI 0) dX6_byTurns_1 k_0 ?_
  refine r_put K h ffX6_36 pfX6_0 0 [_, _, _, _, _, _, _, _, _, _] [_, _, _, _, _, _, _, _] rfl rfl rfl (Nat.le_of_ble_eq_true rfl) rfl rfl dX6_byTurns_2 (fun H locs h => ?_)
  refine r_aln K hl 0 dX6_byTurns_5 rfl rfl ?_
  refine r_callV K h hl (c_X6_asNow l g a _ um sm f fw) mc_X6_asNow vm_X6_asNow mlX6_106 0 rfl rfl rfl [0, 1, 2] rfl rfl rfl [_, _, _, _, _, _, _, _] rfl (by decide) (by decide) rfl rfl (Nat.le_of_ble_eq_true rfl) ⟨Nat.zero_le _, Nat.zero_le _⟩ dX6_byTurns_6 (fun H locs h => ?_)
  refine W.eq (g2 := F0 m 9 ls []) rfl ?_
  refine r_ic K (nI 0) dX6_byTurns_9 k_0 ?_
  refine r_isn K hl 1 [_, _, _, _] dX6_byTurns_10 rfl (by decide) rfl (fun ls hl => ?_)
  refine r_ic K (nI 1) dX6_byTurns_11 k_1 ?_
  refine r_isn K hl 2 [_, _, _, _] dX6_byTurns_12 rfl (by decide) rfl (fun ls hl => ?_)
  have EX : ∀ (f' : Row) (i : Nat) (x : Option Value), f' = btF f n 1000 → i = btC f n 1000 → ∀ (H : Heap) (locs : List Loc), Hp g A s H locs (mW g a (nI 0) (um) (sm) (f) (f') (fp) (fi) (fk) (fs) (ft)) → ∀ ls, Lq ls 4 [some (.ref (a 0)), some (.int (nI i)), some (.int (bI false)), x] → W p0 l e R s m args below meth c H locs 0 0 Q (F0 m 13 ls []) := by
    intro f' i x e1 e2 H locs h ls hl
    refine r_iln K hl 2 dX6_byTurns_13 rfl rfl ?_
    refine r_zeqB K 67 dX6_byTurns_14 (by decide) (fun _ => ?_) (fun c => absurd (((rfl : false = false)).symm.trans c) (by decide))
    refine r_iln K hl 1 dX6_byTurns_67 rfl rfl ?_
    exact hr.1 _ _ _ _ _ dX6_byTurns_68 (h.to (by rw [e1])) (by rw [e2])
  have loop : ∀ (j i : Nat) (x : Option Value) (f' : Row), WFx f' n mv → (∀ p, p < n → MB f' p j) → btF f' n (j + 1) = btF f n 1000 → i + btC f' n (j + 1) = btC f n 1000 → ∀ (H : Heap) (locs : List Loc), Hp g A s H locs (mW g a (nI 0) (um) (sm) (f) (f') (fp) (fi) (fk) (fs) (ft)) → ∀ ls, Lq ls 4 [some (.ref (a 0)), some (.int (nI i)), some (.int (bI true)), x] → W p0 l e R s m args below meth c H locs 0 0 Q (F0 m 13 ls []) := by
    intro j
    induction j with
    | zero =>
      intro i x f' hx2 hmb e1 e2 H locs h ls hl
      refine r_iln K hl 2 dX6_byTurns_13 rfl rfl ?_
      refine r_zeqB K 67 dX6_byTurns_14 (by decide) (fun c => absurd (((rfl : true = true)).symm.trans c) (by decide)) (fun _ => ?_)
      refine r_ic K (nI 0) dX6_byTurns_17 k_0 ?_
      refine r_isn K hl 2 [_, _, _, _] dX6_byTurns_18 rfl (by decide) rfl (fun ls hl => ?_)
      refine r_ic K (nI 0) dX6_byTurns_19 k_0 ?_
      refine r_isn K hl 3 [_, _, _, _] dX6_byTurns_20 rfl (by decide) rfl (fun ls hl => ?_)
      have loop2 : ∀ (j2 k2 : Nat), k2 + j2 = n → ∀ (H : Heap) (locs : List Loc), Hp g A s H locs (mW g a (nI 0) (um) (sm) (f) (rnF f' k2) (fp) (fi) (fk) (fs) (ft)) → ∀ ls, Lq ls 4 [some (.ref (a 0)), some (.int (nI (i + rnC f' k2))), some (.int (bI (anyA f' k2))), some (.int (nI k2))] → W p0 l e R s m args below meth c H locs 0 0 Q (F0 m 21 ls []) := by
        intro j2
        induction j2 with
        | zero =>
          intro k2 hk2 H locs h ls hl
          obtain rfl : k2 = n := by omega
          refine r_iln K hl 3 dX6_byTurns_21 rfl rfl ?_
          refine r_aln K hl 0 dX6_byTurns_22 rfl rfl ?_
          refine r_get K h ffX6_7 0 rfl rfl dX6_byTurns_23 ?_
          refine r_ic K (nI 0) dX6_byTurns_26 k_0 ?_
          refine r_ialE K h 1 rfl (by omega) (by decide) h0 dX6_byTurns_27 ?_
          refine r_cgeN K 64 dX6_byTurns_28 (by decide) (by omega) (by omega) (fun c28 => ?_) (fun c => absurd c (by omega))
          refine r_go K 13 dX6_byTurns_64 (by decide) ?_
          cases hany : anyA f' k2 with
          | false =>
            obtain ⟨r1, r2⟩ := rn_idle k2 (anyA_no k2 hany)
            rw [hany, r2] at hl
            rw [r1] at h
            exact EX f' (i + 0) _ (by rw [← e1, btF, if_neg (by rw [hany]; decide)]) (by rw [← e2, btC, if_neg (by rw [hany]; decide)]) _ _ h _ hl
          | true => exact absurd hany (by rw [anyA_none k2 (fun p hp => (hmb p hp).pos hx2 hp)]; decide)
        | succ j2 ih2 =>
          intro k2 hk2 H locs h ls hl
          refine r_iln K hl 3 dX6_byTurns_21 rfl rfl ?_
          refine r_aln K hl 0 dX6_byTurns_22 rfl rfl ?_
          refine r_get K h ffX6_7 0 rfl rfl dX6_byTurns_23 ?_
          refine r_ic K (nI 0) dX6_byTurns_26 k_0 ?_
          refine r_ialE K h 1 rfl (by omega) (by decide) h0 dX6_byTurns_27 ?_
          refine r_cgeN K 64 dX6_byTurns_28 (by decide) (by omega) (by omega) (fun c => absurd c (by omega)) (fun c28 => ?_)
          refine r_aln K hl 0 dX6_byTurns_31 rfl rfl ?_
          refine r_get K h ffX6_13 0 rfl rfl dX6_byTurns_32 ?_
          refine r_iln K hl 3 dX6_byTurns_35 rfl rfl ?_
          refine r_callS K h hl (c_X6_writerAt l g k2) mc_X6_writerAt st_X6_writerAt mlX6_40 [] rfl rfl rfl [_, _, _, _, _, _, _, _] rfl (by decide) (by decide) rfl rfl (Nat.le_of_ble_eq_true rfl) ⟨Nat.zero_le _, Nat.zero_le _⟩ dX6_byTurns_36 (fun H locs h => ?_)
          refine W.eq (g2 := F0 m 39 ls [_, _]) rfl ?_
          refine r_ic K (nI 0) dX6_byTurns_39 k_0 ?_
          refine r_addN K dX6_byTurns_40 ?_
          refine r_ial K h 2 rfl (by omega) (by decide) dX6_byTurns_41 ?_
          have hlate := rn_late hx2 hn k2 (by omega) k2 (Nat.le_refl _) (by omega) 0 (by omega)
          refine r_zeq K 58 dX6_byTurns_42 (by decide) (fun c42 => ?_) (fun c42 => ?_)
          · refine r_incN K hl (k := 1) [_, _, _, _] dX6_byTurns_58 rfl (by decide) rfl (fun ls hl => ?_)
            refine r_go K 21 dX6_byTurns_61 (by decide) ?_
            exact ih2 (k2 + 1) (by omega) _ _ (h.to (by rw [rnF, if_pos c42])) _ (by rw [rnC, if_pos c42, anyA, decide_eq_false (fun q => q (hlate.symm.trans c42)), Bool.or_false]; exact hl)
          · have ha' := c42
            have hx3 := rn_wf hx2 k2 (by omega)
            obtain ⟨ph, wr, hw⟩ := id hx3
            obtain ⟨kd, st, wh, hs, mm, hb⟩ := (hw.2.2.2.2.2 k2 (by omega)).act ha'
            have h60 := hb.st60 hn2 hn hw.1.2.2.2.1
            have hst := hb.2.1
            have g0 := hw.2.1
            have g5 := hw.2.2.2.1
            have g6 := hw.2.2.2.2.1
            have g7 := hw.1.2.2.2.2.1
            have g8 := hw.1.2.2.2.2.2
            refine r_aln K hl 0 dX6_byTurns_45 rfl rfl ?_
            refine r_get K h ffX6_13 0 rfl rfl dX6_byTurns_46 ?_
            refine r_iln K hl 3 dX6_byTurns_49 rfl rfl ?_
            refine r_callS K h hl (c_X6_step l g (a 2) (rnF f' k2) k2 n ph wr st (by omega) hn2 hn g0 g5 g7 g6 g8 hst (by omega)) mc_X6_step st_X6_step mlX6_93 [2] rfl rfl rfl [_, _, _, _, _, _, _, _] rfl (by decide) (by decide) rfl rfl (Nat.le_of_ble_eq_true rfl) ⟨Nat.zero_le _, Nat.zero_le _⟩ dX6_byTurns_50 (fun H locs h => ?_)
            refine W.eq (g2 := F0 m 53 ls []) rfl ?_
            refine r_incN K hl (k := 1) [_, _, _, _] dX6_byTurns_53 rfl (by decide) rfl (fun ls hl => ?_)
            refine r_ic K (nI 1) dX6_byTurns_56 k_1 ?_
            refine r_isn K hl 2 [_, _, _, _] dX6_byTurns_57 rfl (by decide) rfl (fun ls hl => ?_)
            refine r_incN K hl (k := 1) [_, _, _, _] dX6_byTurns_58 rfl (by decide) rfl (fun ls hl => ?_)
            refine r_go K 21 dX6_byTurns_61 (by decide) ?_
            exact ih2 (k2 + 1) (by omega) _ _ (h.to (by rw [rnF, if_neg c42])) _ (by rw [rnC, if_neg c42, anyA, decide_eq_true (show ¬ f' (32 + 42 * k2 + 0) = 0 from fun q => c42 (hlate.trans q)), Bool.or_true]; exact hl)
      exact loop2 n 0 (by omega) _ _ h _ hl
    | succ j ih =>
      intro i x f' hx2 hmb e1 e2 H locs h ls hl
      refine r_iln K hl 2 dX6_byTurns_13 rfl rfl ?_
      refine r_zeqB K 67 dX6_byTurns_14 (by decide) (fun c => absurd (((rfl : true = true)).symm.trans c) (by decide)) (fun _ => ?_)
      refine r_ic K (nI 0) dX6_byTurns_17 k_0 ?_
      refine r_isn K hl 2 [_, _, _, _] dX6_byTurns_18 rfl (by decide) rfl (fun ls hl => ?_)
      refine r_ic K (nI 0) dX6_byTurns_19 k_0 ?_
      refine r_isn K hl 3 [_, _, _, _] dX6_byTurns_20 rfl (by decide) rfl (fun ls hl => ?_)
      have loop2 : ∀ (j2 k2 : Nat), k2 + j2 = n → ∀ (H : Heap) (locs : List Loc), Hp g A s H locs (mW g a (nI 0) (um) (sm) (f) (rnF f' k2) (fp) (fi) (fk) (fs) (ft)) → ∀ ls, Lq ls 4 [some (.ref (a 0)), some (.int (nI (i + rnC f' k2))), some (.int (bI (anyA f' k2))), some (.int (nI k2))] → W p0 l e R s m args below meth c H locs 0 0 Q (F0 m 21 ls []) := by
        intro j2
        induction j2 with
        | zero =>
          intro k2 hk2 H locs h ls hl
          obtain rfl : k2 = n := by omega
          refine r_iln K hl 3 dX6_byTurns_21 rfl rfl ?_
          refine r_aln K hl 0 dX6_byTurns_22 rfl rfl ?_
          refine r_get K h ffX6_7 0 rfl rfl dX6_byTurns_23 ?_
          refine r_ic K (nI 0) dX6_byTurns_26 k_0 ?_
          refine r_ialE K h 1 rfl (by omega) (by decide) h0 dX6_byTurns_27 ?_
          refine r_cgeN K 64 dX6_byTurns_28 (by decide) (by omega) (by omega) (fun c28 => ?_) (fun c => absurd c (by omega))
          refine r_go K 13 dX6_byTurns_64 (by decide) ?_
          cases hany : anyA f' k2 with
          | false =>
            obtain ⟨r1, r2⟩ := rn_idle k2 (anyA_no k2 hany)
            rw [hany, r2] at hl
            rw [r1] at h
            exact EX f' (i + 0) _ (by rw [← e1, btF, if_neg (by rw [hany]; decide)]) (by rw [← e2, btC, if_neg (by rw [hany]; decide)]) _ _ h _ hl
          | true =>
            rw [hany] at hl
            exact ih _ _ (rnF f' k2) (rn_wf hx2 k2 (Nat.le_refl _)) (fun p hp => (rn_MB hx2 hn hmb k2 (Nat.le_refl _)).1 p hp) (by rw [← e1, btF.eq_2 f', if_pos hany]) (by rw [← e2, btC.eq_2 f', if_pos hany]; omega) _ _ h _ hl
        | succ j2 ih2 =>
          intro k2 hk2 H locs h ls hl
          refine r_iln K hl 3 dX6_byTurns_21 rfl rfl ?_
          refine r_aln K hl 0 dX6_byTurns_22 rfl rfl ?_
          refine r_get K h ffX6_7 0 rfl rfl dX6_byTurns_23 ?_
          refine r_ic K (nI 0) dX6_byTurns_26 k_0 ?_
          refine r_ialE K h 1 rfl (by omega) (by decide) h0 dX6_byTurns_27 ?_
          refine r_cgeN K 64 dX6_byTurns_28 (by decide) (by omega) (by omega) (fun c => absurd c (by omega)) (fun c28 => ?_)
          refine r_aln K hl 0 dX6_byTurns_31 rfl rfl ?_
          refine r_get K h ffX6_13 0 rfl rfl dX6_byTurns_32 ?_
          refine r_iln K hl 3 dX6_byTurns_35 rfl rfl ?_
          refine r_callS K h hl (c_X6_writerAt l g k2) mc_X6_writerAt st_X6_writerAt mlX6_40 [] rfl rfl rfl [_, _, _, _, _, _, _, _] rfl (by decide) (by decide) rfl rfl (Nat.le_of_ble_eq_true rfl) ⟨Nat.zero_le _, Nat.zero_le _⟩ dX6_byTurns_36 (fun H locs h => ?_)
          refine W.eq (g2 := F0 m 39 ls [_, _]) rfl ?_
          refine r_ic K (nI 0) dX6_byTurns_39 k_0 ?_
          refine r_addN K dX6_byTurns_40 ?_
          refine r_ial K h 2 rfl (by omega) (by decide) dX6_byTurns_41 ?_
          have hlate := rn_late hx2 hn k2 (by omega) k2 (Nat.le_refl _) (by omega) 0 (by omega)
          refine r_zeq K 58 dX6_byTurns_42 (by decide) (fun c42 => ?_) (fun c42 => ?_)
          · refine r_incN K hl (k := 1) [_, _, _, _] dX6_byTurns_58 rfl (by decide) rfl (fun ls hl => ?_)
            refine r_go K 21 dX6_byTurns_61 (by decide) ?_
            exact ih2 (k2 + 1) (by omega) _ _ (h.to (by rw [rnF, if_pos c42])) _ (by rw [rnC, if_pos c42, anyA, decide_eq_false (fun q => q (hlate.symm.trans c42)), Bool.or_false]; exact hl)
          · have ha' := c42
            have hx3 := rn_wf hx2 k2 (by omega)
            obtain ⟨ph, wr, hw⟩ := id hx3
            obtain ⟨kd, st, wh, hs, mm, hb⟩ := (hw.2.2.2.2.2 k2 (by omega)).act ha'
            have h60 := hb.st60 hn2 hn hw.1.2.2.2.1
            have hst := hb.2.1
            have g0 := hw.2.1
            have g5 := hw.2.2.2.1
            have g6 := hw.2.2.2.2.1
            have g7 := hw.1.2.2.2.2.1
            have g8 := hw.1.2.2.2.2.2
            refine r_aln K hl 0 dX6_byTurns_45 rfl rfl ?_
            refine r_get K h ffX6_13 0 rfl rfl dX6_byTurns_46 ?_
            refine r_iln K hl 3 dX6_byTurns_49 rfl rfl ?_
            refine r_callS K h hl (c_X6_step l g (a 2) (rnF f' k2) k2 n ph wr st (by omega) hn2 hn g0 g5 g7 g6 g8 hst (by omega)) mc_X6_step st_X6_step mlX6_93 [2] rfl rfl rfl [_, _, _, _, _, _, _, _] rfl (by decide) (by decide) rfl rfl (Nat.le_of_ble_eq_true rfl) ⟨Nat.zero_le _, Nat.zero_le _⟩ dX6_byTurns_50 (fun H locs h => ?_)
            refine W.eq (g2 := F0 m 53 ls []) rfl ?_
            refine r_incN K hl (k := 1) [_, _, _, _] dX6_byTurns_53 rfl (by decide) rfl (fun ls hl => ?_)
            refine r_ic K (nI 1) dX6_byTurns_56 k_1 ?_
            refine r_isn K hl 2 [_, _, _, _] dX6_byTurns_57 rfl (by decide) rfl (fun ls hl => ?_)
            refine r_incN K hl (k := 1) [_, _, _, _] dX6_byTurns_58 rfl (by decide) rfl (fun ls hl => ?_)
            refine r_go K 21 dX6_byTurns_61 (by decide) ?_
            exact ih2 (k2 + 1) (by omega) _ _ (h.to (by rw [rnF, if_neg c42])) _ (by rw [rnC, if_neg c42, anyA, decide_eq_true (show ¬ f' (32 + 42 * k2 + 0) = 0 from fun q => c42 (hlate.trans q)), Bool.or_true]; exact hl)
      exact loop2 n 0 (by omega) _ _ h _ hl
  exact loop 999 0 none f hx (fun p _ => MB.of (by omega)) rfl (Nat.zero_add _) _ _ h _ hl

set_option maxHeartbeats 4000000 in
set_option maxRecDepth 100000 in
theorem c_X6_reads_bad (l : Launch) (g : GG) (a : Nat → Nat) (th um sm : Int32) (f fw fp fi fk fs ft : Row) (x v : Int32) (hb : (inB x (nI 0) (nI 99) && inB v (nI 0) (nI 2)) = false) : Ct l g yX6_reads cX6_reads 8 (some .int) 1 [.ref (a 0), .int x, .int v] (mW g a (th) (um) (sm) (f) (fw) (fp) (fi) (fk) (fs) (ft)) (some (.int (-1))) (mW g a (nI 0) (um) (sm) (f) (fw) (fp) (fi) (fk) (fs) (ft)) := by
  refine Ct.start (by decide +kernel) (Nat.le_of_ble_eq_true rfl) (by simp [Value.category]) (Or.inr ⟨.int, _, rfl, rfl, rfl⟩) ?_
  intro p0 e R s m args below meth c A Q K hr h ls hl
  have hl : Lq ls 8 [some (.ref (a 0)), some (.int x), some (.int v), none, none, none, none, none] := hl
  refine r_aln K hl 0 dX6_reads_0 rfl rfl ?_
  refine r_ic K (nI 0) dX6_reads_1 k_0 ?_
  refine r_put K h ffX6_36 pfX6_0 0 [_, _, _, _, _, _, _, _, _, _] [_, _, _, _, _, _, _, _] rfl rfl rfl (Nat.le_of_ble_eq_true rfl) rfl rfl dX6_reads_2 (fun H locs h => ?_)
  refine r_iln K hl 1 dX6_reads_5 rfl rfl ?_
  refine r_ic K (nI 0) dX6_reads_6 k_0 ?_
  refine r_bp K (nI 99) dX6_reads_7 kb_99 ?_
  refine r_callS K h hl (c_X6_in l g x (nI 0) (nI 99)) mc_X6_in st_X6_in mlX6_69 [] rfl rfl rfl [_, _, _, _, _, _, _, _] rfl (by decide) (by decide) rfl rfl (Nat.le_of_ble_eq_true rfl) ⟨Nat.zero_le _, Nat.zero_le _⟩ dX6_reads_9 (fun H locs h => ?_)
  refine W.eq (g2 := F0 m 12 ls [_]) rfl ?_
  refine r_zeqB K 24 dX6_reads_12 (by decide) (fun c12 => ?_) (fun c12 => ?_)
  · refine r_ic K (-1) dX6_reads_24 k_m1 ?_
    exact hr.1 _ _ _ _ _ dX6_reads_25 h rfl
  · refine r_iln K hl 2 dX6_reads_15 rfl rfl ?_
    refine r_ic K (nI 0) dX6_reads_16 k_0 ?_
    refine r_ic K (nI 2) dX6_reads_17 k_2 ?_
    refine r_callS K h hl (c_X6_in l g v (nI 0) (nI 2)) mc_X6_in st_X6_in mlX6_69 [] rfl rfl rfl [_, _, _, _, _, _, _, _] rfl (by decide) (by decide) rfl rfl (Nat.le_of_ble_eq_true rfl) ⟨Nat.zero_le _, Nat.zero_le _⟩ dX6_reads_18 (fun H locs h => ?_)
    refine W.eq (g2 := F0 m 21 ls [_]) rfl ?_
    refine r_zneB K 26 dX6_reads_21 (by decide) (fun c21 => ?_) (fun c21 => ?_)
    · exact absurd hb (by rw [c12, c21]; decide)
    · refine r_ic K (-1) dX6_reads_24 k_m1 ?_
      exact hr.1 _ _ _ _ _ dX6_reads_25 h rfl

set_option maxHeartbeats 4000000 in
set_option maxRecDepth 100000 in
theorem c_X6_reads_ok (l : Launch) (g : GG) (a : Nat → Nat) (th um sm : Int32) (f fw fp fi fk fs ft : Row) (ph k : Nat) (x : Int32) (h5 : f 5 = nI ph) (hph : ph ≤ 24) (hx0 : inB x (nI 0) (nI 99) = true) (hk : k ≤ 2) : Ct l g yX6_reads cX6_reads 8 (some .int) 1 [.ref (a 0), .int x, .int (nI k)] (mW g a (th) (um) (sm) (f) (fw) (fp) (fi) (fk) (fs) (ft)) (some (.int (mRds f x ph k))) (mW g a (nI 0) (um) (sm) (f) (fw) (fp) (fi) (fk) (fs) (ft)) := by
  refine Ct.start (by decide +kernel) (Nat.le_of_ble_eq_true rfl) (by simp [Value.category]) (Or.inr ⟨.int, _, rfl, rfl, rfl⟩) ?_
  intro p0 e R s m args below meth c A Q K hr h ls hl
  have hl : Lq ls 8 [some (.ref (a 0)), some (.int x), some (.int (nI k)), none, none, none, none, none] := hl
  refine r_aln K hl 0 dX6_reads_0 rfl rfl ?_
  refine r_ic K (nI 0) dX6_reads_1 k_0 ?_
  refine r_put K h ffX6_36 pfX6_0 0 [_, _, _, _, _, _, _, _, _, _] [_, _, _, _, _, _, _, _] rfl rfl rfl (Nat.le_of_ble_eq_true rfl) rfl rfl dX6_reads_2 (fun H locs h => ?_)
  refine r_iln K hl 1 dX6_reads_5 rfl rfl ?_
  refine r_ic K (nI 0) dX6_reads_6 k_0 ?_
  refine r_bp K (nI 99) dX6_reads_7 kb_99 ?_
  refine r_callS K h hl (c_X6_in l g x (nI 0) (nI 99)) mc_X6_in st_X6_in mlX6_69 [] rfl rfl rfl [_, _, _, _, _, _, _, _] rfl (by decide) (by decide) rfl rfl (Nat.le_of_ble_eq_true rfl) ⟨Nat.zero_le _, Nat.zero_le _⟩ dX6_reads_9 (fun H locs h => ?_)
  refine W.eq (g2 := F0 m 12 ls [_]) rfl ?_
  refine r_zeqB K 24 dX6_reads_12 (by decide) (fun c => absurd ((hx0).symm.trans c) (by decide)) (fun _ => ?_)
  refine r_iln K hl 2 dX6_reads_15 rfl rfl ?_
  refine r_ic K (nI 0) dX6_reads_16 k_0 ?_
  refine r_ic K (nI 2) dX6_reads_17 k_2 ?_
  refine r_callS K h hl (c_X6_in l g (nI k) (nI 0) (nI 2)) mc_X6_in st_X6_in mlX6_69 [] rfl rfl rfl [_, _, _, _, _, _, _, _] rfl (by decide) (by decide) rfl rfl (Nat.le_of_ble_eq_true rfl) ⟨Nat.zero_le _, Nat.zero_le _⟩ dX6_reads_18 (fun H locs h => ?_)
  refine W.eq (g2 := F0 m 21 ls [_]) rfl ?_
  refine r_zneB K 26 dX6_reads_21 (by decide) (fun _ => ?_) (fun c => absurd (((inB_of (Nat.zero_le k) hk (by omega))).symm.trans c) (by decide))
  refine r_ic K (nI 0) dX6_reads_26 k_0 ?_
  refine r_isn K hl 3 [_, _, _, _, _, _, _, _] dX6_reads_27 rfl (by decide) rfl (fun ls hl => ?_)
  refine r_bp K (-9) dX6_reads_28 kb_m9 ?_
  refine r_is K hl 4 [_, _, _, _, _, _, _, _] dX6_reads_30 (by decide) rfl (fun ls hl => ?_)
  refine r_bp K (-9) dX6_reads_32 kb_m9 ?_
  refine r_is K hl 5 [_, _, _, _, _, _, _, _] dX6_reads_34 (by decide) rfl (fun ls hl => ?_)
  refine r_ic K (nI 0) dX6_reads_36 k_0 ?_
  refine r_is K hl 6 [_, _, _, _, _, _, _, _] dX6_reads_37 (by decide) rfl (fun ls hl => ?_)
  have loop : ∀ (j i : Nat) (z : Option Value), i + j = ph → ∀ (H : Heap) (locs : List Loc), Hp g A s H locs (mW g a (nI 0) (um) (sm) (f) (fw) (fp) (fi) (fk) (fs) (ft)) → ∀ ls, Lq ls 8 [some (.ref (a 0)), some (.int x), some (.int (nI k)), some (.int (nI (rdT f x i))), some (.int (rdA f x i)), some (.int (rdZ f x i)), some (.int (nI i)), z] → W p0 l e R s m args below meth c H locs 0 0 Q (F0 m 39 ls []) := by
    intro j
    induction j with
    | zero =>
      intro i z hk H locs h ls hl
      obtain rfl : i = ph := by omega
      refine r_il K hl 6 dX6_reads_39 rfl ?_
      refine r_aln K hl 0 dX6_reads_41 rfl rfl ?_
      refine r_get K h ffX6_7 0 rfl rfl dX6_reads_42 ?_
      refine r_ic K (nI 5) dX6_reads_45 k_5 ?_
      refine r_ialE K h 1 rfl (by omega) (by decide) h5 dX6_reads_46 ?_
      refine r_cgeN K 139 dX6_reads_47 (by decide) (by omega) (by omega) (fun c47 => ?_) (fun c => absurd c (by omega))
      refine r_iln K hl 2 dX6_reads_139 rfl rfl ?_
      rcases (by omega : k = 0 ∨ k = 1 ∨ k = 2) with rfl | rfl | rfl
      · refine r_zne K 147 dX6_reads_140 (by decide) (fun c => absurd rfl c) (fun c140 => ?_)
        refine r_iln K hl 3 dX6_reads_143 rfl rfl ?_
        refine r_go K 159 dX6_reads_144 (by decide) ?_
        exact hr.1 _ _ _ _ _ dX6_reads_159 h rfl
      · refine r_zne K 147 dX6_reads_140 (by decide) (fun c140 => ?_) (fun c => absurd c (by decide))
        refine r_iln K hl 2 dX6_reads_147 rfl rfl ?_
        refine r_ic K (nI 1) dX6_reads_148 k_1 ?_
        refine r_cneN K 157 dX6_reads_149 (by decide) (by omega) (by omega) (fun c => absurd rfl c) (fun c149 => ?_)
        refine r_il K hl 4 dX6_reads_152 rfl ?_
        refine r_go K 159 dX6_reads_154 (by decide) ?_
        exact hr.1 _ _ _ _ _ dX6_reads_159 h rfl
      · refine r_zne K 147 dX6_reads_140 (by decide) (fun c140 => ?_) (fun c => absurd c (by decide))
        refine r_iln K hl 2 dX6_reads_147 rfl rfl ?_
        refine r_ic K (nI 1) dX6_reads_148 k_1 ?_
        refine r_cneN K 157 dX6_reads_149 (by decide) (by omega) (by omega) (fun c149 => ?_) (fun c => absurd c (by decide))
        refine r_il K hl 5 dX6_reads_157 rfl ?_
        exact hr.1 _ _ _ _ _ dX6_reads_159 h rfl
    | succ j ih =>
      intro i z hk H locs h ls hl
      refine r_il K hl 6 dX6_reads_39 rfl ?_
      refine r_aln K hl 0 dX6_reads_41 rfl rfl ?_
      refine r_get K h ffX6_7 0 rfl rfl dX6_reads_42 ?_
      refine r_ic K (nI 5) dX6_reads_45 k_5 ?_
      refine r_ialE K h 1 rfl (by omega) (by decide) h5 dX6_reads_46 ?_
      refine r_cgeN K 139 dX6_reads_47 (by decide) (by omega) (by omega) (fun c => absurd c (by omega)) (fun c47 => ?_)
      refine r_aln K hl 0 dX6_reads_50 rfl rfl ?_
      refine r_get K h ffX6_7 0 rfl rfl dX6_reads_51 ?_
      refine r_sp K (nI 200) dX6_reads_54 ks_200 ?_
      refine r_bp K (nI 10) dX6_reads_57 kb_10 ?_
      refine r_il K hl 6 dX6_reads_59 rfl ?_
      refine r_mulN K dX6_reads_61 ?_
      refine r_addN K dX6_reads_62 ?_
      refine r_ic K (nI 3) dX6_reads_63 k_3 ?_
      refine r_addN K dX6_reads_64 ?_
      refine r_ial K h 1 rfl (by omega) (by decide) dX6_reads_65 ?_
      refine r_is K hl 7 [_, _, _, _, _, _, _, _] dX6_reads_66 (by decide) rfl (fun ls hl => ?_)
      refine r_iln K hl 3 dX6_reads_68 rfl rfl ?_
      refine r_il K hl 7 dX6_reads_69 rfl ?_
      refine r_iln K hl 1 dX6_reads_71 rfl rfl ?_
      generalize hr0 : f (200 + 10 * i + 3) = r at hl ⊢
      have J3 : ∀ ls, Lq ls 8 [some (.ref (a 0)), some (.int x), some (.int (nI k)), some (.int (nI (rdT f x (i + 1)))), some (.int (rdA f x (i + 1))), some (.int (rdZ f x i)), some (.int (nI i)), some (.int r)] → ∀ v : Int32, v = rdZ f x (i + 1) → W p0 l e R s m args below meth c H locs 0 0 Q (F0 m 131 ls [.int v]) := by
        intro ls hl v hv
        refine r_is K hl 5 [_, _, _, _, _, _, _, _] dX6_reads_131 (by decide) rfl (fun ls hl => ?_)
        refine r_incN K hl (k := 1) [_, _, _, _, _, _, _, _] dX6_reads_133 rfl (by decide) rfl (fun ls hl => ?_)
        refine r_go K 39 dX6_reads_136 (by decide) ?_
        exact ih (i + 1) _ (by omega) _ _ h _ (by rw [← hv]; exact hl)
      have J2 : ∀ ls, Lq ls 8 [some (.ref (a 0)), some (.int x), some (.int (nI k)), some (.int (nI (rdT f x (i + 1)))), some (.int (rdA f x i)), some (.int (rdZ f x i)), some (.int (nI i)), some (.int r)] → ∀ v : Int32, v = rdA f x (i + 1) → W p0 l e R s m args below meth c H locs 0 0 Q (F0 m 109 ls [.int v]) := by
        intro ls hl v hv
        refine r_is K hl 4 [_, _, _, _, _, _, _, _] dX6_reads_109 (by decide) rfl (fun ls hl => ?_)
        rw [hv] at hl
        refine r_il K hl 7 dX6_reads_111 rfl ?_
        refine r_iln K hl 1 dX6_reads_113 rfl rfl ?_
        refine r_cge K 129 dX6_reads_114 (by decide) (fun c114 => ?_) (fun c114 => ?_)
        · refine r_il K hl 5 dX6_reads_129 rfl ?_
          exact J3 _ hl _ (by rw [rdZ, hr0, if_neg (fun q => absurd q.1 (Int32.not_lt.mpr c114))])
        · refine r_il K hl 7 dX6_reads_117 rfl ?_
          refine r_il K hl 5 dX6_reads_119 rfl ?_
          refine r_cle K 129 dX6_reads_121 (by decide) (fun c121 => ?_) (fun c121 => ?_)
          · refine r_il K hl 5 dX6_reads_129 rfl ?_
            exact J3 _ hl _ (by rw [rdZ, hr0, if_neg (fun q => absurd q.2 (Int32.not_lt.mpr c121))])
          · refine r_il K hl 7 dX6_reads_124 rfl ?_
            refine r_go K 131 dX6_reads_126 (by decide) ?_
            exact J3 _ hl _ (by rw [rdZ, hr0, if_pos ⟨Int32.not_le.mp c114, Int32.not_le.mp c121⟩])
      have J1 : ∀ v : Nat, v = (if r = x then 1 else 0) → W p0 l e R s m args below meth c H locs 0 0 Q (F0 m 80 ls [.int (nI v), .int (nI (rdT f x i))]) := by
        intro v hv
        refine r_addN K dX6_reads_80 ?_
        refine r_isn K hl 3 [_, _, _, _, _, _, _, _] dX6_reads_81 rfl (by decide) rfl (fun ls hl => ?_)
        rw [hv, show rdT f x i + (if r = x then 1 else 0) = rdT f x (i + 1) by rw [rdT, hr0]] at hl
        refine r_il K hl 7 dX6_reads_82 rfl ?_
        refine r_iln K hl 1 dX6_reads_84 rfl rfl ?_
        refine r_cle K 107 dX6_reads_85 (by decide) (fun c85 => ?_) (fun c85 => ?_)
        · refine r_il K hl 4 dX6_reads_107 rfl ?_
          exact J2 _ hl _ (by rw [rdA, hr0, if_neg (fun q => absurd q.1 (Int32.not_lt.mpr c85))])
        · refine r_il K hl 4 dX6_reads_88 rfl ?_
          refine r_bp K (-9) dX6_reads_90 kb_m9 ?_
          refine r_ceq K 102 dX6_reads_92 (by decide) (fun c92 => ?_) (fun c92 => ?_)
          · refine r_il K hl 7 dX6_reads_102 rfl ?_
            refine r_go K 109 dX6_reads_104 (by decide) ?_
            exact J2 _ hl _ (by rw [rdA, hr0, if_pos ⟨Int32.not_le.mp c85, Or.inl c92⟩])
          · refine r_il K hl 7 dX6_reads_95 rfl ?_
            refine r_il K hl 4 dX6_reads_97 rfl ?_
            refine r_cge K 107 dX6_reads_99 (by decide) (fun c99 => ?_) (fun c99 => ?_)
            · refine r_il K hl 4 dX6_reads_107 rfl ?_
              exact J2 _ hl _ (by rw [rdA, hr0, if_neg (fun q => q.2.elim c92 (fun q => absurd q (Int32.not_lt.mpr c99)))])
            · refine r_il K hl 7 dX6_reads_102 rfl ?_
              refine r_go K 109 dX6_reads_104 (by decide) ?_
              exact J2 _ hl _ (by rw [rdA, hr0, if_pos ⟨Int32.not_le.mp c85, Or.inr (Int32.not_le.mp c99)⟩])
      refine r_cne K 79 dX6_reads_72 (by decide) (fun c72 => ?_) (fun c72 => ?_)
      · refine r_ic K (nI 0) dX6_reads_79 k_0 ?_
        exact J1 0 (by rw [if_neg c72])
      · refine r_ic K (nI 1) dX6_reads_75 k_1 ?_
        refine r_go K 80 dX6_reads_76 (by decide) ?_
        exact J1 1 (by rw [if_pos c72])
  exact loop ph 0 none (by omega) _ _ h _ hl
