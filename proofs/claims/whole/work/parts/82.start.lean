theorem zero_nI : (0 : Int32) = nI 0 := by decide
theorem inv_new : InvZ (setV (fun _ _ => z0) 0 (cRes (fun _ => z0) (nI 3) (nI 2) (nI 0)), 0, z0, z0, z0, z0) (mBares (nI 3) (nI 2) (nI 0)) z0 z0 z0 z0 0 0 0 := by
  refine ⟨⟨3, 2, 0, 0, 0, 0, ?_, Nat.le_refl _, by omega, by decide⟩, by show 0 < 5; omega, by omega, fun i h => absurd h (by omega), fun k _ h => absurd rfl h, by omega, fun _ => 0, fun _ => 0, fun i h => absurd h (by omega)⟩
  show Rel (setV (fun _ _ => z0) 0 (cRes (fun _ => z0) (nI 3) (nI 2) (nI 0)) 0) _ _ _ _ _ _
  rw [setV_eq]
  exact rel_res (by omega) (by omega) (by omega) (by omega)
set_option maxHeartbeats 4000000 in
set_option maxRecDepth 100000 in
/-- YOUR PART: from the entry, for every script of at most 2048 ints, the law comes to its end with true ('hflags': the launch's flags, for a law that throws: no stack traces) -/
theorem whole_start {p : Program} {e : Env} {s : State} {m : MethodId} {below : List Frame} {meth : Method} {c : Code} (l : Launch) (hflags : l.flags = flags0) {b L : Nat} {xs : Nat → Int32} (hL : L ≤ 2048) (C0 : lw_At p s m meth c b L xs) : W p l e room_1 s m #[Value.ref b] below meth c s.heap [] 0 0 (lw_Z below #[Value.ref b] s) (entryFrame m ([Value.ref b] : List Value).toArray 4) := by
  obtain ⟨hx, hcb, hret, hml, hown, hts, hX, hbl, hlk, -⟩ := C0
  obtain ⟨g, hK⟩ := g_start hts
  have K : Cx p l room_1 s m #[Value.ref b] meth c g (fun q => s.heap.size ≤ q) code 4 RL ret 10 := ⟨⟨hx, hcb, hml, hown, fun w h => hts w (big_sub w h)⟩, hret, hlk, hK, fun q h => h, by decide, by decide⟩
  have hbA : ¬ s.heap.size ≤ b := by omega
  have h : Hp g (fun q => s.heap.size ≤ q) s s.heap [] [] := ⟨fun k q hq => (by cases hq), ⟨fun i j x y hx => (by cases hx), fun k q hq => (by cases hq)⟩, va_S.rf⟩
  rw [lg_entry_eq]
  have hl := Lq.entry [Value.ref b] (n := 4) (show 1 ≤ 4 by omega) (fun v hv => by cases List.mem_singleton.mp hv; rfl)
  generalize ((lg_sl [Value.ref b] ++ List.replicate (4 - (lg_sl [Value.ref b]).length) Slot.unset).toArray) = ls at hl ⊢
  replace hl : Lq ls 4 [some (.ref b), none, none, none] := hl
  refine r_new K h wwX5 tyX5 tyX5_ok clL_7 isX5 inX5 (ci := 5) rfl (fs := [.null, .null, .null, .int 0, .int 0, .null, .null, .null, .null, .null, .int 0, .null]) (fun j hj => by rcases (show j = 0 ∨ j = 1 ∨ j = 2 ∨ j = 3 ∨ j = 4 ∨ j = 5 ∨ j = 6 ∨ j = 7 ∨ j = 8 ∨ j = 9 ∨ j = 10 ∨ j = 11 by omega) with rfl | rfl | rfl | rfl | rfl | rfl | rfl | rfl | rfl | rfl | rfl | rfl <;> rfl) (Nat.le_of_ble_eq_true rfl) (Nat.le_of_ble_eq_true rfl) dL_law_0 (fun x1 H h => ?_)
  refine r_dup K dL_law_3 rfl ?_
  refine r_ctor [] K h rfl hl (c_X5_init l g x1) mc_X5_init im_X5_init mlL_9 rfl (by decide) (by decide) rfl (Nat.le_of_ble_eq_true rfl) ⟨Nat.le_of_ble_eq_true rfl, Nat.le_of_ble_eq_true rfl⟩ dL_law_4 (fun u1 H locs h => ?_)
  refine r_asn K hl 1 [some (.ref b), some (.ref x1), none, none] dL_law_7 rfl (by decide) rfl (fun ls hl => ?_)
  refine r_new K h wwX6 tyX6 tyX6_ok clL_10 isX6 inX6 (ci := 6) rfl (fs := [.int 0, .null, .null, .null, .int 0, .null, .null, .null, .int 0, .null]) (fun j hj => by rcases (show j = 0 ∨ j = 1 ∨ j = 2 ∨ j = 3 ∨ j = 4 ∨ j = 5 ∨ j = 6 ∨ j = 7 ∨ j = 8 ∨ j = 9 by omega) with rfl | rfl | rfl | rfl | rfl | rfl | rfl | rfl | rfl | rfl <;> rfl) (Nat.le_of_ble_eq_true rfl) (Nat.le_of_ble_eq_true rfl) dL_law_8 (fun x2 H h => ?_)
  refine r_dup K dL_law_11 rfl ?_
  refine r_ctor _ K h rfl hl (c_X6_init l g x2) mc_X6_init im_X6_init mlL_12 rfl (by decide) (by decide) rfl (Nat.le_of_ble_eq_true rfl) ⟨Nat.le_of_ble_eq_true rfl, Nat.le_of_ble_eq_true rfl⟩ dL_law_12 (fun u2 H locs h => ?_)
  refine r_asn K hl 2 [some (.ref b), some (.ref x1), some (.ref x2), none] dL_law_15 rfl (by decide) rfl (fun ls hl => ?_)
  refine r_ic K (nI 0) dL_law_16 k_0 ?_
  refine r_isn K hl 3 [some (.ref b), some (.ref x1), some (.ref x2), some (.int (nI 0))] dL_law_17 rfl (by decide) rfl (fun ls hl => ?_)
  rw [List.nil_append, zero_nI] at h
  refine W.widen (k := 421) (n := 10004) (Nat.le_of_ble_eq_true rfl) (Nat.le_of_ble_eq_true rfl) ?_
  refine law_loop K hX hbl hbA hL (b := (fun j => bif Nat.beq j 0 then x1 else u1.1 j)) (a := (fun j => bif Nat.beq j 0 then x2 else u2 j)) (wa := u1.2) (fun H locs ls ws h => ?_) 512 0 0 (setV (fun _ _ => z0) 0 (cRes (fun _ => z0) (nI 3) (nI 2) (nI 0)), 0, z0, z0, z0, z0) (nI 0) 0 0 (mBares (nI 3) (nI 2) (nI 0)) z0 z0 z0 z0 z0 z0 H locs ls rfl (by omega) inv_new h hl
  refine r_ic K 1 dL_law_684 (by decide) ?_
  refine va_forget (fun q hq => h.2.2.2.2 q hq) ?_
  refine W.widen (k := 600000) (n := 7302250) (Nat.le_of_ble_eq_true rfl) (Nat.le_of_ble_eq_true rfl) ?_
  exact lw_ret hx hcb hret hlk dL_law_685
