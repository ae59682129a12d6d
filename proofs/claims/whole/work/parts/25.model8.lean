set_option maxHeartbeats 4000000 in
set_option maxRecDepth 100000 in
theorem c_X6_trialOf (l : Launch) (g : GG) (a : Nat → Nat) (th um sm : Int32) (f fw : Row) (n mv ka kb : Nat) (hn2 : 2 ≤ n) (hn : n ≤ 4) (h0 : f 0 = nI n) (hm1 : 1 ≤ mv) (hm : mv ≤ 4) (ha1 : 1 ≤ ka) (ha : ka ≤ 4) (hb1 : 1 ≤ kb) (hb : kb ≤ 4) : Ct l g yX6_trialOf cX6_trialOf 7 (some .int) 4 [.ref (a 0), .int (nI mv), .int (nI ka), .int (nI kb)] [mOb a th um sm, aI g (a 1) 512 f, aI g (a 2) 512 (fw)] (some (.int (nI (trN n mv (f 2) ka kb)))) [mOb a th um sm, aI g (a 1) 512 f, aI g (a 2) 512 (trF ka kb 1000 (tr0 n mv (f 2)))] := by
  refine Ct.start (by decide +kernel) (Nat.le_of_ble_eq_true rfl) (by simp [Value.category]) (Or.inr ⟨.int, _, rfl, rfl, rfl⟩) ?_
  intro p0 e R s m args below meth c A Q K hr h ls hl
  have hl : Lq ls 7 [some (.ref (a 0)), some (.int (nI mv)), some (.int (nI ka)), some (.int (nI kb)), none, none, none] := hl
  have hx0 := tw_0 (w := f 2) hn2 hn hm1 hm
  refine r_aln K hl 0 dX6_trialOf_0 rfl rfl ?_
  refine r_get K h ffX6_13 0 rfl rfl dX6_trialOf_1 ?_
  refine r_aln K hl 0 dX6_trialOf_4 rfl rfl ?_
  refine r_get K h ffX6_7 0 rfl rfl dX6_trialOf_5 ?_
  refine r_ic K (nI 0) dX6_trialOf_8 k_0 ?_
  refine r_ialE K h 1 rfl (by omega) (by decide) h0 dX6_trialOf_9 ?_
  refine r_iln K hl 1 dX6_trialOf_10 rfl rfl ?_
  refine r_aln K hl 0 dX6_trialOf_11 rfl rfl ?_
  refine r_get K h ffX6_7 0 rfl rfl dX6_trialOf_12 ?_
  refine r_ic K (nI 2) dX6_trialOf_15 k_2 ?_
  refine r_ial K h 1 rfl (by omega) (by decide) dX6_trialOf_16 ?_
  refine r_callS K h hl (c_X6_bares l g (a 2) fw (nI n) (nI mv) (f 2)) mc_X6_bares st_X6_bares mlX6_32 [2] rfl rfl rfl [_, _, _] rfl (by decide) (by decide) rfl rfl (Nat.le_of_ble_eq_true rfl) ⟨Nat.zero_le _, Nat.zero_le _⟩ dX6_trialOf_17 (fun H locs h => ?_)
  refine W.eq (g2 := F0 m 20 ls []) rfl ?_
  refine r_aln K hl 0 dX6_trialOf_20 rfl rfl ?_
  refine r_get K h ffX6_13 0 rfl rfl dX6_trialOf_21 ?_
  refine r_ic K (nI 0) dX6_trialOf_24 k_0 ?_
  refine r_ic K (nI 1) dX6_trialOf_25 k_1 ?_
  refine r_ic K (nI 0) dX6_trialOf_26 k_0 ?_
  refine r_callS K h hl (c_X6_acts l g (a 2) _ 0 (nI 1) (nI 0) (by omega)) mc_X6_acts st_X6_acts mlX6_83 [2] rfl rfl rfl [_, _, _] rfl (by decide) (by decide) rfl rfl (Nat.le_of_ble_eq_true rfl) ⟨Nat.zero_le _, Nat.zero_le _⟩ dX6_trialOf_27 (fun H locs h => ?_)
  refine W.eq (g2 := F0 m 30 ls []) rfl ?_
  refine r_aln K hl 0 dX6_trialOf_30 rfl rfl ?_
  refine r_get K h ffX6_13 0 rfl rfl dX6_trialOf_31 ?_
  refine r_ic K (nI 1) dX6_trialOf_34 k_1 ?_
  refine r_ic K (nI 2) dX6_trialOf_35 k_2 ?_
  refine r_ic K (nI 1) dX6_trialOf_36 k_1 ?_
  refine r_callS K h hl (c_X6_acts l g (a 2) _ 1 (nI 2) (nI 1) (by omega)) mc_X6_acts st_X6_acts mlX6_83 [2] rfl rfl rfl [_, _, _] rfl (by decide) (by decide) rfl rfl (Nat.le_of_ble_eq_true rfl) ⟨Nat.zero_le _, Nat.zero_le _⟩ dX6_trialOf_37 (fun H locs h => ?_)
  refine W.eq (g2 := F0 m 40 ls []) rfl ?_
  refine r_ic K (nI 1) dX6_trialOf_40 k_1 ?_
  refine r_is K hl 4 [_, _, _, _, _, _, _] dX6_trialOf_41 (by decide) rfl (fun ls hl => ?_)
  refine r_ic K (nI 0) dX6_trialOf_43 k_0 ?_
  refine r_is K hl 5 [_, _, _, _, _, _, _] dX6_trialOf_44 (by decide) rfl (fun ls hl => ?_)
  have h := h.to (show _ = [mOb a th um sm, aI g (a 1) 512 f, aI g (a 2) 512 ((tr0 n mv (f 2)).1)] from rfl)
  have loop : ∀ (j i : Nat) (x : Row × Nat) (z : Option Value), TWf x.1 n mv → MB x.1 0 j → trF ka kb j x = trF ka kb 1000 (tr0 n mv (f 2)) → i + trC ka kb j x = trN n mv (f 2) ka kb → ∀ (H : Heap) (locs : List Loc), Hp g A s H locs [mOb a th um sm, aI g (a 1) 512 f, aI g (a 2) 512 (x.1)] → ∀ ls, Lq ls 7 [some (.ref (a 0)), some (.int (nI mv)), some (.int (nI ka)), some (.int (nI kb)), some (.int (nI x.2)), some (.int (nI (i))), z] → W p0 l e R s m args below meth c H locs 0 0 Q (F0 m 46 ls []) := by
    intro j
    induction j with
    | zero =>
      intro i x z hx hmb e1 e2 H locs h ls hl
      have hid := hmb.pos hx.1 (by omega)
      refine r_aln K hl 0 dX6_trialOf_46 rfl rfl ?_
      refine r_get K h ffX6_13 0 rfl rfl dX6_trialOf_47 ?_
      refine r_ic K (nI 0) dX6_trialOf_50 k_0 ?_
      refine r_callS K h hl (c_X6_writerAt l g 0) mc_X6_writerAt st_X6_writerAt mlX6_40 [] rfl rfl rfl [_, _, _] rfl (by decide) (by decide) rfl rfl (Nat.le_of_ble_eq_true rfl) ⟨Nat.zero_le _, Nat.zero_le _⟩ dX6_trialOf_51 (fun H locs h => ?_)
      refine W.eq (g2 := F0 m 54 ls [_, _]) rfl ?_
      refine r_ic K (nI 0) dX6_trialOf_54 k_0 ?_
      refine r_addN K dX6_trialOf_55 ?_
      refine r_ial K h 2 rfl (by omega) (by decide) dX6_trialOf_56 ?_
      refine r_zeq K 154 dX6_trialOf_57 (by decide) (fun c57 => ?_) (fun c => absurd c (fun q => q hid))
      refine r_il K hl 5 dX6_trialOf_154 rfl ?_
      exact hr.1 _ _ _ _ _ dX6_trialOf_156 (h.to (by rw [← e1]; rfl)) (by rw [← e2]; rfl)
    | succ j ih =>
      intro i x z hx hmb e1 e2 H locs h ls hl
      refine r_aln K hl 0 dX6_trialOf_46 rfl rfl ?_
      refine r_get K h ffX6_13 0 rfl rfl dX6_trialOf_47 ?_
      refine r_ic K (nI 0) dX6_trialOf_50 k_0 ?_
      refine r_callS K h hl (c_X6_writerAt l g 0) mc_X6_writerAt st_X6_writerAt mlX6_40 [] rfl rfl rfl [_, _, _] rfl (by decide) (by decide) rfl rfl (Nat.le_of_ble_eq_true rfl) ⟨Nat.zero_le _, Nat.zero_le _⟩ dX6_trialOf_51 (fun H locs h => ?_)
      refine W.eq (g2 := F0 m 54 ls [_, _]) rfl ?_
      refine r_ic K (nI 0) dX6_trialOf_54 k_0 ?_
      refine r_addN K dX6_trialOf_55 ?_
      refine r_ial K h 2 rfl (by omega) (by decide) dX6_trialOf_56 ?_
      refine r_zeq K 154 dX6_trialOf_57 (by decide) (fun c57 => ?_) (fun c57 => ?_)
      · refine r_il K hl 5 dX6_trialOf_154 rfl ?_
        exact hr.1 _ _ _ _ _ dX6_trialOf_156 (h.to (by rw [← e1, trF, if_pos c57])) (by rw [← e2, trC, if_pos c57]; rfl)
      · refine r_ic K (nI 0) dX6_trialOf_60 k_0 ?_
        refine r_is K hl 6 [_, _, _, _, _, _, _] dX6_trialOf_61 (by decide) rfl (fun ls hl => ?_)
        have J : ∀ (z : Option Value) (H : Heap) (locs : List Loc), Hp g A s H locs [mOb a th um sm, aI g (a 1) 512 f, aI g (a 2) 512 (stF x.1 0 ka)] → ∀ ls, Lq ls 7 [some (.ref (a 0)), some (.int (nI mv)), some (.int (nI ka)), some (.int (nI kb)), some (.int (nI x.2)), some (.int (nI (i + stC x.1 0 ka))), z] → W p0 l e R s m args below meth c H locs 0 0 Q (F0 m 100 ls []) := by
          intro z H locs h ls hl
          refine r_ic K (nI 0) dX6_trialOf_100 k_0 ?_
          refine r_is K hl 6 [_, _, _, _, _, _, _] dX6_trialOf_101 (by decide) rfl (fun ls hl => ?_)
          have loop3 : ∀ (j3 k3 : Nat), k3 + j3 = kb → ∀ (H : Heap) (locs : List Loc), Hp g A s H locs [mOb a th um sm, aI g (a 1) 512 f, aI g (a 2) 512 ((tbK (stF x.1 0 ka, x.2) k3).1)] → ∀ ls, Lq ls 7 [some (.ref (a 0)), some (.int (nI mv)), some (.int (nI ka)), some (.int (nI kb)), some (.int (nI (tbK (stF x.1 0 ka, x.2) k3).2)), some (.int (nI (i + stC x.1 0 ka))), some (.int (nI k3))] → W p0 l e R s m args below meth c H locs 0 0 Q (F0 m 103 ls []) := by
            intro j3
            induction j3 with
            | zero =>
              intro k3 hk3 H locs h ls hl
              obtain rfl : k3 = kb := by omega
              refine r_il K hl 6 dX6_trialOf_103 rfl ?_
              refine r_iln K hl 3 dX6_trialOf_105 rfl rfl ?_
              refine r_cgeN K 151 dX6_trialOf_106 (by decide) (by omega) (by omega) (fun c106 => ?_) (fun c => absurd c (by omega))
              refine r_go K 46 dX6_trialOf_151 (by decide) ?_
              obtain ⟨q1, q2⟩ := tw_trR (b := k3) hn2 ha1 hx hmb
              exact ih _ (trR x ka k3) _ q1 q2 (by rw [← e1, trF, if_neg c57]) (by rw [← e2, trC, if_neg c57]; omega) _ _ h _ hl
            | succ j3 ih3 =>
              intro k3 hk3 H locs h ls hl
              refine r_il K hl 6 dX6_trialOf_103 rfl ?_
              refine r_iln K hl 3 dX6_trialOf_105 rfl rfl ?_
              refine r_cgeN K 151 dX6_trialOf_106 (by decide) (by omega) (by omega) (fun c => absurd c (by omega)) (fun c106 => ?_)
              have hx3 := tw_tbK hn2 (tw_stF (a := ka) hn2 hx) (x := (stF x.1 0 ka, x.2)) k3
              have ha' := hx3.2
              obtain ⟨ph, wr, hw⟩ := hx3.1
              obtain ⟨kd, st, wh, hs, mm, hb⟩ := (hw.2.2.2.2.2 1 (by omega)).act ha'
              have h60 := hb.st60 hn2 hn hw.1.2.2.2.1
              have hst := hb.2.1
              have g0 := hw.2.1
              have g5 := hw.2.2.2.1
              have g6 := hw.2.2.2.2.1
              have g7 := hw.1.2.2.2.2.1
              have g8 := hw.1.2.2.2.2.2
              refine r_aln K hl 0 dX6_trialOf_109 rfl rfl ?_
              refine r_get K h ffX6_13 0 rfl rfl dX6_trialOf_110 ?_
              refine r_ic K (nI 1) dX6_trialOf_113 k_1 ?_
              refine r_callS K h hl (c_X6_step l g (a 2) _ 1 n ph wr st (by omega) hn2 hn g0 g5 g7 g6 g8 hst (by omega)) mc_X6_step st_X6_step mlX6_93 [2] rfl rfl rfl [_, _, _] rfl (by decide) (by decide) rfl rfl (Nat.le_of_ble_eq_true rfl) ⟨Nat.zero_le _, Nat.zero_le _⟩ dX6_trialOf_114 (fun H locs h => ?_)
              refine W.eq (g2 := F0 m 117 ls []) rfl ?_
              refine r_aln K hl 0 dX6_trialOf_117 rfl rfl ?_
              refine r_get K h ffX6_13 0 rfl rfl dX6_trialOf_118 ?_
              refine r_ic K (nI 1) dX6_trialOf_121 k_1 ?_
              refine r_callS K h hl (c_X6_writerAt l g 1) mc_X6_writerAt st_X6_writerAt mlX6_40 [] rfl rfl rfl [_, _, _] rfl (by decide) (by decide) rfl rfl (Nat.le_of_ble_eq_true rfl) ⟨Nat.zero_le _, Nat.zero_le _⟩ dX6_trialOf_122 (fun H locs h => ?_)
              refine W.eq (g2 := F0 m 125 ls [_, _]) rfl ?_
              refine r_ic K (nI 0) dX6_trialOf_125 k_0 ?_
              refine r_addN K dX6_trialOf_126 ?_
              refine r_ial K h 2 rfl (by omega) (by decide) dX6_trialOf_127 ?_
              refine r_zne K 145 dX6_trialOf_128 (by decide) (fun c128 => ?_) (fun c128 => ?_)
              · refine r_incN K hl (k := 1) [_, _, _, _, _, _, _] dX6_trialOf_145 rfl (by decide) rfl (fun ls hl => ?_)
                refine r_go K 103 dX6_trialOf_148 (by decide) ?_
                have et : tbK (stF x.1 0 ka, x.2) (k3 + 1) = (mStep (tbK (stF x.1 0 ka, x.2) k3).1 1, (tbK (stF x.1 0 ka, x.2) k3).2) := by rw [tbK, tb1, if_neg c128]
                exact ih3 (k3 + 1) (by omega) _ _ (h.to (by rw [et])) _ (by rw [et]; exact hl)
              · refine r_incN K hl (k := 1) [_, _, _, _, _, _, _] dX6_trialOf_131 rfl (by decide) rfl (fun ls hl => ?_)
                refine r_aln K hl 0 dX6_trialOf_134 rfl rfl ?_
                refine r_get K h ffX6_13 0 rfl rfl dX6_trialOf_135 ?_
                refine r_ic K (nI 1) dX6_trialOf_138 k_1 ?_
                refine r_ic K (nI 2) dX6_trialOf_139 k_2 ?_
                refine r_il K hl 4 dX6_trialOf_140 rfl ?_
                refine r_callS K h hl (c_X6_acts l g (a 2) _ 1 (nI 2) (nI (_ + 1)) (by omega)) mc_X6_acts st_X6_acts mlX6_83 [2] rfl rfl rfl [_, _, _] rfl (by decide) (by decide) rfl rfl (Nat.le_of_ble_eq_true rfl) ⟨Nat.zero_le _, Nat.zero_le _⟩ dX6_trialOf_142 (fun H locs h => ?_)
                refine W.eq (g2 := F0 m 145 ls []) rfl ?_
                refine r_incN K hl (k := 1) [_, _, _, _, _, _, _] dX6_trialOf_145 rfl (by decide) rfl (fun ls hl => ?_)
                refine r_go K 103 dX6_trialOf_148 (by decide) ?_
                have et : tbK (stF x.1 0 ka, x.2) (k3 + 1) = (mActs (mStep (tbK (stF x.1 0 ka, x.2) k3).1 1) 1 (nI 2) (nI ((tbK (stF x.1 0 ka, x.2) k3).2 + 1)), (tbK (stF x.1 0 ka, x.2) k3).2 + 1) := by rw [tbK, tb1, if_pos c128]
                exact ih3 (k3 + 1) (by omega) _ _ (h.to (by rw [et])) _ (by rw [et]; exact hl)
          exact loop3 kb 0 (by omega) _ _ h _ hl
        have loop2 : ∀ (j2 k2 : Nat) (y : Row) (c1 : Nat), k2 + j2 = ka → WFx y n mv → stF y 0 j2 = stF x.1 0 ka → c1 + stC y 0 j2 = i + stC x.1 0 ka → ∀ (H : Heap) (locs : List Loc), Hp g A s H locs [mOb a th um sm, aI g (a 1) 512 f, aI g (a 2) 512 (y)] → ∀ ls, Lq ls 7 [some (.ref (a 0)), some (.int (nI mv)), some (.int (nI ka)), some (.int (nI kb)), some (.int (nI x.2)), some (.int (nI (c1))), some (.int (nI k2))] → W p0 l e R s m args below meth c H locs 0 0 Q (F0 m 63 ls []) := by
          intro j2
          induction j2 with
          | zero =>
            intro k2 y c1 hk2 hx2 e3 e4 H locs h ls hl
            refine r_il K hl 6 dX6_trialOf_63 rfl ?_
            refine r_iln K hl 2 dX6_trialOf_65 rfl rfl ?_
            refine r_cgeN K 100 dX6_trialOf_66 (by decide) (by omega) (by omega) (fun c66 => ?_) (fun c => absurd c (by omega))
            rw [stF] at e3
            rw [stC, Nat.add_zero] at e4
            rw [e3] at h
            rw [e4] at hl
            exact J _ _ _ h _ hl
          | succ j2 ih2 =>
            intro k2 y c1 hk2 hx2 e3 e4 H locs h ls hl
            refine r_il K hl 6 dX6_trialOf_63 rfl ?_
            refine r_iln K hl 2 dX6_trialOf_65 rfl rfl ?_
            refine r_cgeN K 100 dX6_trialOf_66 (by decide) (by omega) (by omega) (fun c => absurd c (by omega)) (fun c66 => ?_)
            refine r_aln K hl 0 dX6_trialOf_69 rfl rfl ?_
            refine r_get K h ffX6_13 0 rfl rfl dX6_trialOf_70 ?_
            refine r_ic K (nI 0) dX6_trialOf_73 k_0 ?_
            refine r_callS K h hl (c_X6_writerAt l g 0) mc_X6_writerAt st_X6_writerAt mlX6_40 [] rfl rfl rfl [_, _, _] rfl (by decide) (by decide) rfl rfl (Nat.le_of_ble_eq_true rfl) ⟨Nat.zero_le _, Nat.zero_le _⟩ dX6_trialOf_74 (fun H locs h => ?_)
            refine W.eq (g2 := F0 m 77 ls [_, _]) rfl ?_
            refine r_ic K (nI 0) dX6_trialOf_77 k_0 ?_
            refine r_addN K dX6_trialOf_78 ?_
            refine r_ial K h 2 rfl (by omega) (by decide) dX6_trialOf_79 ?_
            refine r_zeq K 100 dX6_trialOf_80 (by decide) (fun c80 => ?_) (fun c80 => ?_)
            · rw [stF, if_pos c80] at e3
              rw [stC, if_pos c80, Nat.add_zero] at e4
              rw [e3] at h
              rw [e4] at hl
              exact J _ _ _ h _ hl
            · have ha' := c80
              obtain ⟨ph, wr, hw⟩ := id hx2
              obtain ⟨kd, st, wh, hs, mm, hb⟩ := (hw.2.2.2.2.2 0 (by omega)).act ha'
              have h60 := hb.st60 hn2 hn hw.1.2.2.2.1
              have hst := hb.2.1
              have g0 := hw.2.1
              have g5 := hw.2.2.2.1
              have g6 := hw.2.2.2.2.1
              have g7 := hw.1.2.2.2.2.1
              have g8 := hw.1.2.2.2.2.2
              refine r_aln K hl 0 dX6_trialOf_83 rfl rfl ?_
              refine r_get K h ffX6_13 0 rfl rfl dX6_trialOf_84 ?_
              refine r_ic K (nI 0) dX6_trialOf_87 k_0 ?_
              refine r_callS K h hl (c_X6_step l g (a 2) y 0 n ph wr st (by omega) hn2 hn g0 g5 g7 g6 g8 hst (by omega)) mc_X6_step st_X6_step mlX6_93 [2] rfl rfl rfl [_, _, _] rfl (by decide) (by decide) rfl rfl (Nat.le_of_ble_eq_true rfl) ⟨Nat.zero_le _, Nat.zero_le _⟩ dX6_trialOf_88 (fun H locs h => ?_)
              refine W.eq (g2 := F0 m 91 ls []) rfl ?_
              refine r_incN K hl (k := 1) [_, _, _, _, _, _, _] dX6_trialOf_91 rfl (by decide) rfl (fun ls hl => ?_)
              refine r_incN K hl (k := 1) [_, _, _, _, _, _, _] dX6_trialOf_94 rfl (by decide) rfl (fun ls hl => ?_)
              refine r_go K 63 dX6_trialOf_97 (by decide) ?_
              exact ih2 (k2 + 1) _ _ (by omega) (wfx_step hx2 (by omega) ha') (by rw [← e3, stF, if_neg ha']) (by rw [← e4, stC, if_neg ha']; omega) _ _ h _ hl
        exact loop2 ka 0 x.1 i (by omega) hx.1 rfl rfl _ _ h _ hl
  exact loop 1000 0 (tr0 n mv (f 2)) none hx0 (MB.of (by omega)) rfl (Nat.zero_add _) _ _ h _ hl

set_option maxHeartbeats 4000000 in
set_option maxRecDepth 100000 in
theorem c_X6_isTrial (l : Launch) (g : GG) (x y : Int32) : Ct l g yX6_isTrial cX6_isTrial 2 (some .boolean) 1 [.int x, .int y] [] (some (.int (bI (inB x (nI 1) (nI 4) && inB y (nI 1) (nI 4))))) [] := by
  refine Ct.start (by decide +kernel) (Nat.le_of_ble_eq_true rfl) (by simp [Value.category]) (Or.inr ⟨.boolean, _, rfl, rfl, narB _⟩) ?_
  intro p0 e R s m args below meth c A Q K hr h ls hl
  have hl : Lq ls 2 [some (.int x), some (.int y)] := hl
  refine r_iln K hl 0 dX6_isTrial_0 rfl rfl ?_
  refine r_ic K (nI 1) dX6_isTrial_1 k_1 ?_
  refine r_ic K (nI 4) dX6_isTrial_2 k_4 ?_
  refine r_callS K h hl (c_X6_in l g x (nI 1) (nI 4)) mc_X6_in st_X6_in mlX6_69 [] rfl rfl rfl [] rfl (by decide) (by decide) rfl rfl (Nat.le_of_ble_eq_true rfl) ⟨Nat.zero_le _, Nat.zero_le _⟩ dX6_isTrial_3 (fun H locs h => ?_)
  refine W.eq (g2 := F0 m 6 ls [_]) rfl ?_
  refine r_zeqB K 22 dX6_isTrial_6 (by decide) (fun c6 => ?_) (fun c6 => ?_)
  · refine r_ic K (nI 0) dX6_isTrial_22 k_0 ?_
    exact hr.1 _ _ _ _ _ dX6_isTrial_23 h (by rw [c6, Bool.false_and]; rfl)
  · refine r_iln K hl 1 dX6_isTrial_9 rfl rfl ?_
    refine r_ic K (nI 1) dX6_isTrial_10 k_1 ?_
    refine r_ic K (nI 4) dX6_isTrial_11 k_4 ?_
    refine r_callS K h hl (c_X6_in l g y (nI 1) (nI 4)) mc_X6_in st_X6_in mlX6_69 [] rfl rfl rfl [] rfl (by decide) (by decide) rfl rfl (Nat.le_of_ble_eq_true rfl) ⟨Nat.zero_le _, Nat.zero_le _⟩ dX6_isTrial_12 (fun H locs h => ?_)
    refine W.eq (g2 := F0 m 15 ls [_]) rfl ?_
    refine r_zeqB K 22 dX6_isTrial_15 (by decide) (fun c15 => ?_) (fun c15 => ?_)
    · refine r_ic K (nI 0) dX6_isTrial_22 k_0 ?_
      exact hr.1 _ _ _ _ _ dX6_isTrial_23 h (by rw [c6, c15]; rfl)
    · refine r_ic K (nI 1) dX6_isTrial_18 k_1 ?_
      refine r_go K 23 dX6_isTrial_19 (by decide) ?_
      exact hr.1 _ _ _ _ _ dX6_isTrial_23 h (by rw [c6, c15]; rfl)

set_option maxHeartbeats 4000000 in
set_option maxRecDepth 100000 in
theorem c_X6_trial_bad (l : Launch) (g : GG) (a : Nat → Nat) (th um sm : Int32) (f fw fp fi fk fs ft : Row) (x y z : Int32) (hb : (inB x (nI 1) (nI 4) && (inB y (nI 1) (nI 4) && inB z (nI 1) (nI 4))) = false) : Ct l g yX6_trial cX6_trial 4 (some .int) 2 [.ref (a 0), .int x, .int y, .int z] (mW g a (th) (um) (sm) (f) (fw) (fp) (fi) (fk) (fs) (ft)) (some (.int (-1))) (mW g a (nI 0) (um) (sm) (f) (fw) (fp) (fi) (fk) (fs) (ft)) := by
  refine Ct.start (by decide +kernel) (Nat.le_of_ble_eq_true rfl) (by simp [Value.category]) (Or.inr ⟨.int, _, rfl, rfl, rfl⟩) ?_
  intro p0 e R s m args below meth c A Q K hr h ls hl
  have hl : Lq ls 4 [some (.ref (a 0)), some (.int x), some (.int y), some (.int z)] := hl
  refine r_aln K hl 0 dX6_trial_0 rfl rfl ?_
  refine r_ic K (nI 0) dX6_trial_1 k_0 ?_
  refine r_put K h ffX6_36 pfX6_0 0 [_, _, _, _, _, _, _, _, _, _] [_, _, _, _, _, _, _, _] rfl rfl rfl (Nat.le_of_ble_eq_true rfl) rfl rfl dX6_trial_2 (fun H locs h => ?_)
  refine r_iln K hl 1 dX6_trial_5 rfl rfl ?_
  refine r_ic K (nI 1) dX6_trial_6 k_1 ?_
  refine r_ic K (nI 4) dX6_trial_7 k_4 ?_
  refine r_callS K h hl (c_X6_in l g x (nI 1) (nI 4)) mc_X6_in st_X6_in mlX6_69 [] rfl rfl rfl [_, _, _, _, _, _, _, _] rfl (by decide) (by decide) rfl rfl (Nat.le_of_ble_eq_true rfl) ⟨Nat.zero_le _, Nat.zero_le _⟩ dX6_trial_8 (fun H locs h => ?_)
  refine W.eq (g2 := F0 m 11 ls [_]) rfl ?_
  refine r_zeqB K 32 dX6_trial_11 (by decide) (fun c11 => ?_) (fun c11 => ?_)
  · refine r_ic K (-1) dX6_trial_32 k_m1 ?_
    exact hr.1 _ _ _ _ _ dX6_trial_33 h rfl
  · refine r_iln K hl 2 dX6_trial_14 rfl rfl ?_
    refine r_iln K hl 3 dX6_trial_15 rfl rfl ?_
    refine r_callS K h hl (c_X6_isTrial l g y z) mc_X6_isTrial st_X6_isTrial mlX6_109 [] rfl rfl rfl [_, _, _, _, _, _, _, _] rfl (by decide) (by decide) rfl rfl (Nat.le_of_ble_eq_true rfl) ⟨Nat.zero_le _, Nat.zero_le _⟩ dX6_trial_16 (fun H locs h => ?_)
    refine W.eq (g2 := F0 m 19 ls [_]) rfl ?_
    refine r_zeqB K 32 dX6_trial_19 (by decide) (fun c19 => ?_) (fun c19 => ?_)
    · refine r_ic K (-1) dX6_trial_32 k_m1 ?_
      exact hr.1 _ _ _ _ _ dX6_trial_33 h rfl
    · exact absurd hb (by rw [c11, c19]; decide)

set_option maxHeartbeats 4000000 in
set_option maxRecDepth 100000 in
theorem c_X6_trial_ok (l : Launch) (g : GG) (a : Nat → Nat) (th um sm : Int32) (f fw fp fi fk fs ft : Row) (n mv ka kb : Nat) (hn2 : 2 ≤ n) (hn : n ≤ 4) (h0 : f 0 = nI n) (hm1 : 1 ≤ mv) (hm : mv ≤ 4) (ha1 : 1 ≤ ka) (ha : ka ≤ 4) (hb1 : 1 ≤ kb) (hb : kb ≤ 4) : Ct l g yX6_trial cX6_trial 4 (some .int) 5 [.ref (a 0), .int (nI mv), .int (nI ka), .int (nI kb)] (mW g a (th) (um) (sm) (f) (fw) (fp) (fi) (fk) (fs) (ft)) (some (.int (nI (trN n mv (f 2) ka kb)))) (mW g a (nI 0) (um) (sm) (f) (trF ka kb 1000 (tr0 n mv (f 2))) (fp) (fi) (fk) (fs) (ft)) := by
  refine Ct.start (by decide +kernel) (Nat.le_of_ble_eq_true rfl) (by simp [Value.category]) (Or.inr ⟨.int, _, rfl, rfl, rfl⟩) ?_
  intro p0 e R s m args below meth c A Q K hr h ls hl
  have hl : Lq ls 4 [some (.ref (a 0)), some (.int (nI mv)), some (.int (nI ka)), some (.int (nI kb))] := hl
  refine r_aln K hl 0 dX6_trial_0 rfl rfl ?_
  refine r_ic K (nI 0) dX6_trial_1 k_0 ?_
  refine r_put K h ffX6_36 pfX6_0 0 [_, _, _, _, _, _, _, _, _, _] [_, _, _, _, _, _, _, _] rfl rfl rfl (Nat.le_of_ble_eq_true rfl) rfl rfl dX6_trial_2 (fun H locs h => ?_)
  refine r_iln K hl 1 dX6_trial_5 rfl rfl ?_
  refine r_ic K (nI 1) dX6_trial_6 k_1 ?_
  refine r_ic K (nI 4) dX6_trial_7 k_4 ?_
  refine r_callS K h hl (c_X6_in l g (nI mv) (nI 1) (nI 4)) mc_X6_in st_X6_in mlX6_69 [] rfl rfl rfl [_, _, _, _, _, _, _, _] rfl (by decide) (by decide) rfl rfl (Nat.le_of_ble_eq_true rfl) ⟨Nat.zero_le _, Nat.zero_le _⟩ dX6_trial_8 (fun H locs h => ?_)
  refine W.eq (g2 := F0 m 11 ls [_]) rfl ?_
  refine r_zeqB K 32 dX6_trial_11 (by decide) (fun c => absurd (((inB_of hm1 hm (by omega))).symm.trans c) (by decide)) (fun _ => ?_)
  refine r_iln K hl 2 dX6_trial_14 rfl rfl ?_
  refine r_iln K hl 3 dX6_trial_15 rfl rfl ?_
  refine r_callS K h hl (c_X6_isTrial l g (nI ka) (nI kb)) mc_X6_isTrial st_X6_isTrial mlX6_109 [] rfl rfl rfl [_, _, _, _, _, _, _, _] rfl (by decide) (by decide) rfl rfl (Nat.le_of_ble_eq_true rfl) ⟨Nat.zero_le _, Nat.zero_le _⟩ dX6_trial_16 (fun H locs h => ?_)
  refine W.eq (g2 := F0 m 19 ls [_]) rfl ?_
  refine r_zeqB K 32 dX6_trial_19 (by decide) (fun c => absurd (((show (inB (nI ka) (nI 1) (nI 4) && inB (nI kb) (nI 1) (nI 4)) = true by rw [inB_of ha1 ha (by omega), inB_of hb1 hb (by omega)]; rfl)).symm.trans c) (by decide)) (fun _ => ?_)
  refine r_aln K hl 0 dX6_trial_22 rfl rfl ?_
  refine r_iln K hl 1 dX6_trial_23 rfl rfl ?_
  refine r_iln K hl 2 dX6_trial_24 rfl rfl ?_
  refine r_iln K hl 3 dX6_trial_25 rfl rfl ?_
  refine r_callV K h hl (c_X6_trialOf l g a _ um sm f fw n mv ka kb hn2 hn h0 hm1 hm ha1 ha hb1 hb) mc_X6_trialOf vm_X6_trialOf mlX6_113 0 rfl rfl rfl [0, 1, 2] rfl rfl rfl [_, _, _, _, _, _, _, _] rfl (by decide) (by decide) rfl rfl (Nat.le_of_ble_eq_true rfl) ⟨Nat.zero_le _, Nat.zero_le _⟩ dX6_trial_26 (fun H locs h => ?_)
  refine W.eq (g2 := F0 m 29 ls [_]) rfl ?_
  refine r_go K 33 dX6_trial_29 (by decide) ?_
  exact hr.1 _ _ _ _ _ dX6_trial_33 h rfl

set_option maxHeartbeats 4000000 in
set_option maxRecDepth 100000 in
theorem c_X6_sees_bad (l : Launch) (g : GG) (a : Nat → Nat) (th um sm : Int32) (f fw fp fi fk fs ft : Row) (x y z : Int32) (hb : ((inB x (nI 1) (nI 4) && inB y (nI 1) (nI 4)) && inB z (nI 0) (nI 99)) = false) : Ct l g yX6_sees cX6_sees 4 (some .int) 2 [.ref (a 0), .int x, .int y, .int z] (mW g a (th) (um) (sm) (f) (fw) (fp) (fi) (fk) (fs) (ft)) (some (.int (-1))) (mW g a (nI 0) (um) (sm) (f) (fw) (fp) (fi) (fk) (fs) (ft)) := by
  refine Ct.start (by decide +kernel) (Nat.le_of_ble_eq_true rfl) (by simp [Value.category]) (Or.inr ⟨.int, _, rfl, rfl, rfl⟩) ?_
  intro p0 e R s m args below meth c A Q K hr h ls hl
  have hl : Lq ls 4 [some (.ref (a 0)), some (.int x), some (.int y), some (.int z)] := hl
  refine r_aln K hl 0 dX6_sees_0 rfl rfl ?_
  refine r_ic K (nI 0) dX6_sees_1 k_0 ?_
  refine r_put K h ffX6_36 pfX6_0 0 [_, _, _, _, _, _, _, _, _, _] [_, _, _, _, _, _, _, _] rfl rfl rfl (Nat.le_of_ble_eq_true rfl) rfl rfl dX6_sees_2 (fun H locs h => ?_)
  refine r_iln K hl 1 dX6_sees_5 rfl rfl ?_
  refine r_iln K hl 2 dX6_sees_6 rfl rfl ?_
  refine r_callS K h hl (c_X6_isTrial l g x y) mc_X6_isTrial st_X6_isTrial mlX6_109 [] rfl rfl rfl [_, _, _, _, _, _, _, _] rfl (by decide) (by decide) rfl rfl (Nat.le_of_ble_eq_true rfl) ⟨Nat.zero_le _, Nat.zero_le _⟩ dX6_sees_7 (fun H locs h => ?_)
  refine W.eq (g2 := F0 m 10 ls [_]) rfl ?_
  refine r_zeqB K 23 dX6_sees_10 (by decide) (fun c10 => ?_) (fun c10 => ?_)
  · refine r_ic K (-1) dX6_sees_23 k_m1 ?_
    exact hr.1 _ _ _ _ _ dX6_sees_24 h rfl
  · refine r_iln K hl 3 dX6_sees_13 rfl rfl ?_
    refine r_ic K (nI 0) dX6_sees_14 k_0 ?_
    refine r_bp K (nI 99) dX6_sees_15 kb_99 ?_
    refine r_callS K h hl (c_X6_in l g z (nI 0) (nI 99)) mc_X6_in st_X6_in mlX6_69 [] rfl rfl rfl [_, _, _, _, _, _, _, _] rfl (by decide) (by decide) rfl rfl (Nat.le_of_ble_eq_true rfl) ⟨Nat.zero_le _, Nat.zero_le _⟩ dX6_sees_17 (fun H locs h => ?_)
    refine W.eq (g2 := F0 m 20 ls [_]) rfl ?_
    refine r_zneB K 25 dX6_sees_20 (by decide) (fun c20 => ?_) (fun c20 => ?_)
    · exact absurd hb (by rw [c10, c20]; decide)
    · refine r_ic K (-1) dX6_sees_23 k_m1 ?_
      exact hr.1 _ _ _ _ _ dX6_sees_24 h rfl

set_option maxHeartbeats 4000000 in
set_option maxRecDepth 100000 in
theorem c_X6_sees_full (l : Launch) (g : GG) (a : Nat → Nat) (th um : Int32) (f fw fp fi fk fs ft : Row) (x y z : Int32) (hb : ((inB x (nI 1) (nI 4) && inB y (nI 1) (nI 4)) && inB z (nI 0) (nI 99)) = true) : Ct l g yX6_sees cX6_sees 4 (some .int) 2 [.ref (a 0), .int x, .int y, .int z] (mW g a (th) (um) (nI 6) (f) (fw) (fp) (fi) (fk) (fs) (ft)) (some (.int (-3))) (mW g a (nI 0) (um) (nI 6) (f) (fw) (fp) (fi) (fk) (fs) (ft)) := by
  refine Ct.start (by decide +kernel) (Nat.le_of_ble_eq_true rfl) (by simp [Value.category]) (Or.inr ⟨.int, _, rfl, rfl, rfl⟩) ?_
  intro p0 e R s m args below meth c A Q K hr h ls hl
  have hl : Lq ls 4 [some (.ref (a 0)), some (.int x), some (.int y), some (.int z)] := hl
  have hb1 := hb
  rw [Bool.and_eq_true] at hb1
  refine r_aln K hl 0 dX6_sees_0 rfl rfl ?_
  refine r_ic K (nI 0) dX6_sees_1 k_0 ?_
  refine r_put K h ffX6_36 pfX6_0 0 [_, _, _, _, _, _, _, _, _, _] [_, _, _, _, _, _, _, _] rfl rfl rfl (Nat.le_of_ble_eq_true rfl) rfl rfl dX6_sees_2 (fun H locs h => ?_)
  refine r_iln K hl 1 dX6_sees_5 rfl rfl ?_
  refine r_iln K hl 2 dX6_sees_6 rfl rfl ?_
  refine r_callS K h hl (c_X6_isTrial l g x y) mc_X6_isTrial st_X6_isTrial mlX6_109 [] rfl rfl rfl [_, _, _, _, _, _, _, _] rfl (by decide) (by decide) rfl rfl (Nat.le_of_ble_eq_true rfl) ⟨Nat.zero_le _, Nat.zero_le _⟩ dX6_sees_7 (fun H locs h => ?_)
  refine W.eq (g2 := F0 m 10 ls [_]) rfl ?_
  refine r_zeqB K 23 dX6_sees_10 (by decide) (fun c => absurd ((hb1.1).symm.trans c) (by decide)) (fun _ => ?_)
  refine r_iln K hl 3 dX6_sees_13 rfl rfl ?_
  refine r_ic K (nI 0) dX6_sees_14 k_0 ?_
  refine r_bp K (nI 99) dX6_sees_15 kb_99 ?_
  refine r_callS K h hl (c_X6_in l g z (nI 0) (nI 99)) mc_X6_in st_X6_in mlX6_69 [] rfl rfl rfl [_, _, _, _, _, _, _, _] rfl (by decide) (by decide) rfl rfl (Nat.le_of_ble_eq_true rfl) ⟨Nat.zero_le _, Nat.zero_le _⟩ dX6_sees_17 (fun H locs h => ?_)
  refine W.eq (g2 := F0 m 20 ls [_]) rfl ?_
  refine r_zneB K 25 dX6_sees_20 (by decide) (fun _ => ?_) (fun c => absurd ((hb1.2).symm.trans c) (by decide))
  refine r_aln K hl 0 dX6_sees_25 rfl rfl ?_
  refine r_get K h ffX6_76 0 rfl rfl dX6_sees_26 ?_
  refine r_bp K (nI 6) dX6_sees_29 kb_6 ?_
  refine r_cneN K 37 dX6_sees_31 (by decide) (by omega) (by omega) (fun c => absurd rfl c) (fun c31 => ?_)
  refine r_bp K (-3) dX6_sees_34 kb_m3 ?_
  exact hr.1 _ _ _ _ _ dX6_sees_36 h rfl

set_option maxHeartbeats 4000000 in
set_option maxRecDepth 100000 in
theorem c_X6_sees_ok (l : Launch) (g : GG) (a : Nat → Nat) (th um : Int32) (f fw fp fi fk fs ft : Row) (x y z : Int32) (q : Nat) (hq : q < 6) (hb : ((inB x (nI 1) (nI 4) && inB y (nI 1) (nI 4)) && inB z (nI 0) (nI 99)) = true) : Ct l g yX6_sees cX6_sees 4 (some .int) 2 [.ref (a 0), .int x, .int y, .int z] (mW g a (th) (um) (nI q) (f) (fw) (fp) (fi) (fk) (fs) (ft)) (some (.int (nI (q + 1)))) (mW g a (nI 0) (um) (nI (q + 1)) (f) (fw) (fp) (fi) (fk) (upd (upd (upd fs (3 * q) x) (3 * q + 1) y) (3 * q + 2) z) (ft)) := by
  refine Ct.start (by decide +kernel) (Nat.le_of_ble_eq_true rfl) (by simp [Value.category]) (Or.inr ⟨.int, _, rfl, rfl, rfl⟩) ?_
  intro p0 e R s m args below meth c A Q K hr h ls hl
  have hl : Lq ls 4 [some (.ref (a 0)), some (.int x), some (.int y), some (.int z)] := hl
  have hb1 := hb
  rw [Bool.and_eq_true] at hb1
  refine r_aln K hl 0 dX6_sees_0 rfl rfl ?_
  refine r_ic K (nI 0) dX6_sees_1 k_0 ?_
  refine r_put K h ffX6_36 pfX6_0 0 [_, _, _, _, _, _, _, _, _, _] [_, _, _, _, _, _, _, _] rfl rfl rfl (Nat.le_of_ble_eq_true rfl) rfl rfl dX6_sees_2 (fun H locs h => ?_)
  refine r_iln K hl 1 dX6_sees_5 rfl rfl ?_
  refine r_iln K hl 2 dX6_sees_6 rfl rfl ?_
  refine r_callS K h hl (c_X6_isTrial l g x y) mc_X6_isTrial st_X6_isTrial mlX6_109 [] rfl rfl rfl [_, _, _, _, _, _, _, _] rfl (by decide) (by decide) rfl rfl (Nat.le_of_ble_eq_true rfl) ⟨Nat.zero_le _, Nat.zero_le _⟩ dX6_sees_7 (fun H locs h => ?_)
  refine W.eq (g2 := F0 m 10 ls [_]) rfl ?_
  refine r_zeqB K 23 dX6_sees_10 (by decide) (fun c => absurd ((hb1.1).symm.trans c) (by decide)) (fun _ => ?_)
  refine r_iln K hl 3 dX6_sees_13 rfl rfl ?_
  refine r_ic K (nI 0) dX6_sees_14 k_0 ?_
  refine r_bp K (nI 99) dX6_sees_15 kb_99 ?_
  refine r_callS K h hl (c_X6_in l g z (nI 0) (nI 99)) mc_X6_in st_X6_in mlX6_69 [] rfl rfl rfl [_, _, _, _, _, _, _, _] rfl (by decide) (by decide) rfl rfl (Nat.le_of_ble_eq_true rfl) ⟨Nat.zero_le _, Nat.zero_le _⟩ dX6_sees_17 (fun H locs h => ?_)
  refine W.eq (g2 := F0 m 20 ls [_]) rfl ?_
  refine r_zneB K 25 dX6_sees_20 (by decide) (fun _ => ?_) (fun c => absurd ((hb1.2).symm.trans c) (by decide))
  refine r_aln K hl 0 dX6_sees_25 rfl rfl ?_
  refine r_get K h ffX6_76 0 rfl rfl dX6_sees_26 ?_
  refine r_bp K (nI 6) dX6_sees_29 kb_6 ?_
  refine r_cneN K 37 dX6_sees_31 (by decide) (by omega) (by omega) (fun c31 => ?_) (fun c => absurd c (by omega))
  refine r_aln K hl 0 dX6_sees_37 rfl rfl ?_
  refine r_get K h ffX6_26 0 rfl rfl dX6_sees_38 ?_
  refine r_ic K (nI 3) dX6_sees_41 k_3 ?_
  refine r_aln K hl 0 dX6_sees_42 rfl rfl ?_
  refine r_get K h ffX6_76 0 rfl rfl dX6_sees_43 ?_
  refine r_mulN K dX6_sees_46 ?_
  refine r_iln K hl 1 dX6_sees_47 rfl rfl ?_
  refine r_ias K h 6 [_, _, _, _, _, _, _, _] rfl (by omega) (by decide) rfl dX6_sees_48 (fun H locs h => ?_)
  refine r_aln K hl 0 dX6_sees_49 rfl rfl ?_
  refine r_get K h ffX6_26 0 rfl rfl dX6_sees_50 ?_
  refine r_ic K (nI 3) dX6_sees_53 k_3 ?_
  refine r_aln K hl 0 dX6_sees_54 rfl rfl ?_
  refine r_get K h ffX6_76 0 rfl rfl dX6_sees_55 ?_
  refine r_mulN K dX6_sees_58 ?_
  refine r_ic K (nI 1) dX6_sees_59 k_1 ?_
  refine r_addN K dX6_sees_60 ?_
  refine r_iln K hl 2 dX6_sees_61 rfl rfl ?_
  refine r_ias K h 6 [_, _, _, _, _, _, _, _] rfl (by omega) (by decide) rfl dX6_sees_62 (fun H locs h => ?_)
  refine r_aln K hl 0 dX6_sees_63 rfl rfl ?_
  refine r_get K h ffX6_26 0 rfl rfl dX6_sees_64 ?_
  refine r_ic K (nI 3) dX6_sees_67 k_3 ?_
  refine r_aln K hl 0 dX6_sees_68 rfl rfl ?_
  refine r_get K h ffX6_76 0 rfl rfl dX6_sees_69 ?_
  refine r_mulN K dX6_sees_72 ?_
  refine r_ic K (nI 2) dX6_sees_73 k_2 ?_
  refine r_addN K dX6_sees_74 ?_
  refine r_iln K hl 3 dX6_sees_75 rfl rfl ?_
  refine r_ias K h 6 [_, _, _, _, _, _, _, _] rfl (by omega) (by decide) rfl dX6_sees_76 (fun H locs h => ?_)
  refine r_aln K hl 0 dX6_sees_77 rfl rfl ?_
  refine r_dup K dX6_sees_78 rfl ?_
  refine r_get K h ffX6_76 0 rfl rfl dX6_sees_79 ?_
  refine r_ic K (nI 1) dX6_sees_82 k_1 ?_
  refine r_addN K dX6_sees_83 ?_
  refine r_put K h ffX6_76 pfX6_8 0 [_, _, _, _, _, _, _, _, _, _] [_, _, _, _, _, _, _, _] rfl rfl rfl (Nat.le_of_ble_eq_true rfl) rfl rfl dX6_sees_84 (fun H locs h => ?_)
  refine r_aln K hl 0 dX6_sees_87 rfl rfl ?_
  refine r_get K h ffX6_76 0 rfl rfl dX6_sees_88 ?_
  exact hr.1 _ _ _ _ _ dX6_sees_91 h rfl

set_option maxHeartbeats 4000000 in
set_option maxRecDepth 100000 in
theorem c_X6_forget_ok (l : Launch) (g : GG) (a : Nat → Nat) (th um sm : Int32) (f fw fp fi fk fs ft : Row) : Ct l g yX6_forget cX6_forget 2 (some .int) 0 [.ref (a 0)] (mW g a (th) (um) (sm) (f) (fw) (fp) (fi) (fk) (fs) (ft)) (some (.int sm)) (mW g a (nI 0) (um) (nI 0) (f) (fw) (fp) (fi) (fk) (fs) (ft)) := by
  refine Ct.start (by decide +kernel) (Nat.le_of_ble_eq_true rfl) (by simp [Value.category]) (Or.inr ⟨.int, _, rfl, rfl, rfl⟩) ?_
  intro p0 e R s m args below meth c A Q K hr h ls hl
  have hl : Lq ls 2 [some (.ref (a 0)), none] := hl
  refine r_aln K hl 0 dX6_forget_0 rfl rfl ?_
  refine r_ic K (nI 0) dX6_forget_1 k_0 ?_
  refine r_put K h ffX6_36 pfX6_0 0 [_, _, _, _, _, _, _, _, _, _] [_, _, _, _, _, _, _, _] rfl rfl rfl (Nat.le_of_ble_eq_true rfl) rfl rfl dX6_forget_2 (fun H locs h => ?_)
  refine r_aln K hl 0 dX6_forget_5 rfl rfl ?_
  refine r_get K h ffX6_76 0 rfl rfl dX6_forget_6 ?_
  refine r_isn K hl 1 [_, _] dX6_forget_9 rfl (by decide) rfl (fun ls hl => ?_)
  refine r_aln K hl 0 dX6_forget_10 rfl rfl ?_
  refine r_ic K (nI 0) dX6_forget_11 k_0 ?_
  refine r_put K h ffX6_76 pfX6_8 0 [_, _, _, _, _, _, _, _, _, _] [_, _, _, _, _, _, _, _] rfl rfl rfl (Nat.le_of_ble_eq_true rfl) rfl rfl dX6_forget_12 (fun H locs h => ?_)
  refine r_iln K hl 1 dX6_forget_15 rfl rfl ?_
  exact hr.1 _ _ _ _ _ dX6_forget_16 h rfl
