/-! what is fixed of the machine's classes, at the law's entry -/
theorem big_sub : ∀ w ∈ BIG, w ∈ lw_tbl := fun _ h => (List.mem_filter.mp h).1
theorem g_start {s : State} {args : Array Value} (hts : ∀ w ∈ lw_tbl, w.before args s = true) : ∃ g : GG, gK g s := by
  have hb : ∀ w ∈ BIG, w.before args s = true := fun w h => hts w (big_sub w h)
  obtain ⟨c0, i0, k0⟩ := u_known hb wwX0 (hb _ isX0)
  obtain ⟨c1, i1, k1⟩ := u_known hb wwX1 (hb _ isX1)
  obtain ⟨c2, i2, k2⟩ := u_known hb wwX2 (hb _ isX2)
  obtain ⟨c3, i3, k3⟩ := u_known hb wwX3 (hb _ isX3)
  obtain ⟨c4, i4, k4⟩ := u_known hb wwX4 (hb _ isX4)
  obtain ⟨c5, i5, k5⟩ := u_known hb wwX5 (hb _ isX5)
  obtain ⟨c6, i6, k6⟩ := u_known hb wwX6 (hb _ isX6)
  obtain ⟨a0, x0, y0, e0, f0, g0⟩ := Cond.arrayClass_spec (hb _ ac_int)
  obtain ⟨a1, x1, y1, e1, f1, g1⟩ := Cond.arrayClass_spec (hb _ ac_bool)
  obtain ⟨y2, a2, x2, d2, -, f2, g2, e2⟩ := Cond.arrayOver_spec (hts _ ao_Act)
  obtain ⟨y3, a3, x3, d3, -, f3, g3, e3⟩ := Cond.arrayOver_spec (hts _ ao_World)
  refine ⟨((fun c => ([c0, c1, c2, c3, c4, c5, c6] : List ClassId).getD c c0, fun c => ([i0, i1, i2, i3, i4, i5, i6] : List (Nat → Nat)).getD c i0), fun k => ([a0, a1, a2, a3] : List ClassId).getD k a0), ⟨fun c q hq => ?_, fun k q hk => ?_⟩, ⟨va_Nw.of rfl (hts _ nlX4_11), va_Nw.of rfl (hts _ nlX4_26), va_Nw.of rfl (hts _ nlX4_33), va_Nw.of rfl (hts _ nlX4_38), va_Nw.of rfl (hts _ nlX0_23), va_Nw.of rfl (hts _ nlX2_27), va_Nw.of rfl (hts _ nlX0_63)⟩, va_AO.of (hts _ ao_Act), va_AO.of (hts _ ao_World)⟩
  · have hlt : c < 7 := (List.getElem?_eq_some_iff.mp hq).1
    rcases (by omega : c = 0 ∨ c = 1 ∨ c = 2 ∨ c = 3 ∨ c = 4 ∨ c = 5 ∨ c = 6) with rfl | rfl | rfl | rfl | rfl | rfl | rfl <;> cases hq
    · exact k0
    · exact k1
    · exact k2
    · exact k3
    · exact k4
    · exact k5
    · exact k6
  · have hlt : k < 4 := (List.getElem?_eq_some_iff.mp hk).1
    rcases (by omega : k = 0 ∨ k = 1 ∨ k = 2 ∨ k = 3) with rfl | rfl | rfl | rfl <;> cases hk
    · exact ⟨fun n z => ⟨fun k h => (by cases h), x0, f0, y0, g0⟩, e0⟩
    · exact ⟨fun n z => ⟨fun k h => (by cases h), x1, f1, y1, g1⟩, e1⟩
    · exact ⟨fun n z => ⟨fun k h => (by cases h), x2, f2, y2, g2⟩, x2, y2, f2, g2, d2, e2⟩
    · exact ⟨fun n z => ⟨fun k h => (by cases h), x3, f3, y3, g3⟩, x3, y3, f3, g3, d3, e3⟩
