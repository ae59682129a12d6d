/-- the words that a callee may take over -/
def BIG : List Cond := lw_tbl.filter goodWord
theorem big_of {w : Cond} (h : w ∈ lw_tbl) (hg : goodWord w = true) : w ∈ BIG := List.mem_filter.mpr ⟨h, hg⟩
theorem big_in {w : Cond} (h : w ∈ BIG) : w ∈ lw_tbl := (List.mem_filter.mp h).1
theorem big_good {w : Cond} (h : w ∈ BIG) : (w.onTables && w.keeps) = true ∨ ∃ ty, w = .arrayClass ty := good_of_word (List.mem_filter.mp h).2
theorem layX0 : ∀ k, k < 12 → u_lay RX0 TX0 k ∈ BIG := fun k hk => match k, hk with
  | 0, _ => big_of (List.mem_append_right _ (List.mem_append_left _ (List.mem_of_getElem? (i := 130) rfl))) rfl
  | 1, _ => big_of (List.mem_append_right _ (List.mem_append_left _ (List.mem_of_getElem? (i := 132) rfl))) rfl
  | 2, _ => big_of (List.mem_append_right _ (List.mem_append_left _ (List.mem_of_getElem? (i := 134) rfl))) rfl
  | 3, _ => big_of (List.mem_append_right _ (List.mem_append_left _ (List.mem_of_getElem? (i := 136) rfl))) rfl
  | 4, _ => big_of (List.mem_append_right _ (List.mem_append_left _ (List.mem_of_getElem? (i := 138) rfl))) rfl
  | 5, _ => big_of (List.mem_append_right _ (List.mem_append_left _ (List.mem_of_getElem? (i := 140) rfl))) rfl
  | 6, _ => big_of (List.mem_append_right _ (List.mem_append_left _ (List.mem_of_getElem? (i := 142) rfl))) rfl
  | 7, _ => big_of (List.mem_append_right _ (List.mem_append_left _ (List.mem_of_getElem? (i := 144) rfl))) rfl
  | 8, _ => big_of (List.mem_append_right _ (List.mem_append_left _ (List.mem_of_getElem? (i := 146) rfl))) rfl
  | 9, _ => big_of (List.mem_append_right _ (List.mem_append_left _ (List.mem_of_getElem? (i := 148) rfl))) rfl
  | 10, _ => big_of (List.mem_append_right _ (List.mem_append_left _ (List.mem_of_getElem? (i := 150) rfl))) rfl
  | 11, _ => big_of (List.mem_append_right _ (List.mem_append_left _ (List.mem_of_getElem? (i := 152) rfl))) rfl
  | n + 12, h => absurd h (by omega)
theorem wwX0 : ∀ w ∈ u_ws RX0 TX0 12, w ∈ BIG := fun w h => by
  obtain ⟨k, hk, rfl⟩ := List.mem_map.mp h
  exact layX0 k (List.mem_range.mp hk)
theorem layX1 : ∀ k, k < 2 → u_lay RX1 TX1 k ∈ BIG := fun k hk => match k, hk with
  | 0, _ => big_of (List.mem_append_right _ (List.mem_append_left _ (List.mem_of_getElem? (i := 64) rfl))) rfl
  | 1, _ => big_of (List.mem_append_right _ (List.mem_append_left _ (List.mem_of_getElem? (i := 66) rfl))) rfl
  | n + 2, h => absurd h (by omega)
theorem wwX1 : ∀ w ∈ u_ws RX1 TX1 2, w ∈ BIG := fun w h => by
  obtain ⟨k, hk, rfl⟩ := List.mem_map.mp h
  exact layX1 k (List.mem_range.mp hk)
theorem layX2 : ∀ k, k < 3 → u_lay RX2 TX2 k ∈ BIG := fun k hk => match k, hk with
  | 0, _ => big_of (List.mem_append_right _ (List.mem_append_left _ (List.mem_of_getElem? (i := 44) rfl))) rfl
  | 1, _ => big_of (List.mem_append_right _ (List.mem_append_left _ (List.mem_of_getElem? (i := 46) rfl))) rfl
  | 2, _ => big_of (List.mem_append_right _ (List.mem_append_left _ (List.mem_of_getElem? (i := 48) rfl))) rfl
  | n + 3, h => absurd h (by omega)
theorem wwX2 : ∀ w ∈ u_ws RX2 TX2 3, w ∈ BIG := fun w h => by
  obtain ⟨k, hk, rfl⟩ := List.mem_map.mp h
  exact layX2 k (List.mem_range.mp hk)
theorem layX3 : ∀ k, k < 5 → u_lay RX3 TX3 k ∈ BIG := fun k hk => match k, hk with
  | 0, _ => big_of (List.mem_append_right _ (List.mem_append_left _ (List.mem_of_getElem? (i := 81) rfl))) rfl
  | 1, _ => big_of (List.mem_append_right _ (List.mem_append_left _ (List.mem_of_getElem? (i := 83) rfl))) rfl
  | 2, _ => big_of (List.mem_append_right _ (List.mem_append_left _ (List.mem_of_getElem? (i := 85) rfl))) rfl
  | 3, _ => big_of (List.mem_append_right _ (List.mem_append_left _ (List.mem_of_getElem? (i := 87) rfl))) rfl
  | 4, _ => big_of (List.mem_append_right _ (List.mem_append_left _ (List.mem_of_getElem? (i := 89) rfl))) rfl
  | n + 5, h => absurd h (by omega)
theorem wwX3 : ∀ w ∈ u_ws RX3 TX3 5, w ∈ BIG := fun w h => by
  obtain ⟨k, hk, rfl⟩ := List.mem_map.mp h
  exact layX3 k (List.mem_range.mp hk)
theorem layX4 : ∀ k, k < 9 → u_lay RX4 TX4 k ∈ BIG := fun k hk => match k, hk with
  | 0, _ => big_of (List.mem_append_right _ (List.mem_append_left _ (List.mem_of_getElem? (i := 172) rfl))) rfl
  | 1, _ => big_of (List.mem_append_right _ (List.mem_append_left _ (List.mem_of_getElem? (i := 174) rfl))) rfl
  | 2, _ => big_of (List.mem_append_right _ (List.mem_append_left _ (List.mem_of_getElem? (i := 176) rfl))) rfl
  | 3, _ => big_of (List.mem_append_right _ (List.mem_append_left _ (List.mem_of_getElem? (i := 178) rfl))) rfl
  | 4, _ => big_of (List.mem_append_right _ (List.mem_append_left _ (List.mem_of_getElem? (i := 180) rfl))) rfl
  | 5, _ => big_of (List.mem_append_right _ (List.mem_append_left _ (List.mem_of_getElem? (i := 182) rfl))) rfl
  | 6, _ => big_of (List.mem_append_right _ (List.mem_append_left _ (List.mem_of_getElem? (i := 184) rfl))) rfl
  | 7, _ => big_of (List.mem_append_right _ (List.mem_append_left _ (List.mem_of_getElem? (i := 186) rfl))) rfl
  | 8, _ => big_of (List.mem_append_right _ (List.mem_append_left _ (List.mem_of_getElem? (i := 188) rfl))) rfl
  | n + 9, h => absurd h (by omega)
theorem wwX4 : ∀ w ∈ u_ws RX4 TX4 9, w ∈ BIG := fun w h => by
  obtain ⟨k, hk, rfl⟩ := List.mem_map.mp h
  exact layX4 k (List.mem_range.mp hk)
theorem layX5 : ∀ k, k < 12 → u_lay RX5 TX5 k ∈ BIG := fun k hk => match k, hk with
  | 0, _ => big_of (List.mem_append_right _ (List.mem_append_left _ (List.mem_of_getElem? (i := 221) rfl))) rfl
  | 1, _ => big_of (List.mem_append_right _ (List.mem_append_left _ (List.mem_of_getElem? (i := 223) rfl))) rfl
  | 2, _ => big_of (List.mem_append_right _ (List.mem_append_left _ (List.mem_of_getElem? (i := 225) rfl))) rfl
  | 3, _ => big_of (List.mem_append_right _ (List.mem_append_left _ (List.mem_of_getElem? (i := 227) rfl))) rfl
  | 4, _ => big_of (List.mem_append_right _ (List.mem_append_left _ (List.mem_of_getElem? (i := 229) rfl))) rfl
  | 5, _ => big_of (List.mem_append_right _ (List.mem_append_left _ (List.mem_of_getElem? (i := 231) rfl))) rfl
  | 6, _ => big_of (List.mem_append_right _ (List.mem_append_left _ (List.mem_of_getElem? (i := 233) rfl))) rfl
  | 7, _ => big_of (List.mem_append_right _ (List.mem_append_left _ (List.mem_of_getElem? (i := 235) rfl))) rfl
  | 8, _ => big_of (List.mem_append_right _ (List.mem_append_left _ (List.mem_of_getElem? (i := 237) rfl))) rfl
  | 9, _ => big_of (List.mem_append_right _ (List.mem_append_left _ (List.mem_of_getElem? (i := 239) rfl))) rfl
  | 10, _ => big_of (List.mem_append_right _ (List.mem_append_right _ (List.mem_append_left _ (List.mem_of_getElem? (i := 1) rfl)))) rfl
  | 11, _ => big_of (List.mem_append_right _ (List.mem_append_right _ (List.mem_append_left _ (List.mem_of_getElem? (i := 3) rfl)))) rfl
  | n + 12, h => absurd h (by omega)
theorem wwX5 : ∀ w ∈ u_ws RX5 TX5 12, w ∈ BIG := fun w h => by
  obtain ⟨k, hk, rfl⟩ := List.mem_map.mp h
  exact layX5 k (List.mem_range.mp hk)
theorem layX6 : ∀ k, k < 10 → u_lay RX6 TX6 k ∈ BIG := fun k hk => match k, hk with
  | 0, _ => big_of (List.mem_append_right _ (List.mem_append_right _ (List.mem_append_right _ (List.mem_of_getElem? (i := 51) rfl)))) rfl
  | 1, _ => big_of (List.mem_append_right _ (List.mem_append_right _ (List.mem_append_right _ (List.mem_of_getElem? (i := 53) rfl)))) rfl
  | 2, _ => big_of (List.mem_append_right _ (List.mem_append_right _ (List.mem_append_right _ (List.mem_of_getElem? (i := 55) rfl)))) rfl
  | 3, _ => big_of (List.mem_append_right _ (List.mem_append_right _ (List.mem_append_right _ (List.mem_of_getElem? (i := 57) rfl)))) rfl
  | 4, _ => big_of (List.mem_append_right _ (List.mem_append_right _ (List.mem_append_right _ (List.mem_of_getElem? (i := 59) rfl)))) rfl
  | 5, _ => big_of (List.mem_append_right _ (List.mem_append_right _ (List.mem_append_right _ (List.mem_of_getElem? (i := 61) rfl)))) rfl
  | 6, _ => big_of (List.mem_append_right _ (List.mem_append_right _ (List.mem_append_right _ (List.mem_of_getElem? (i := 63) rfl)))) rfl
  | 7, _ => big_of (List.mem_append_right _ (List.mem_append_right _ (List.mem_append_right _ (List.mem_of_getElem? (i := 65) rfl)))) rfl
  | 8, _ => big_of (List.mem_append_right _ (List.mem_append_right _ (List.mem_append_right _ (List.mem_of_getElem? (i := 67) rfl)))) rfl
  | 9, _ => big_of (List.mem_append_right _ (List.mem_append_right _ (List.mem_append_right _ (List.mem_of_getElem? (i := 69) rfl)))) rfl
  | n + 10, h => absurd h (by omega)
theorem wwX6 : ∀ w ∈ u_ws RX6 TX6 10, w ∈ BIG := fun w h => by
  obtain ⟨k, hk, rfl⟩ := List.mem_map.mp h
  exact layX6 k (List.mem_range.mp hk)
def FFd (own : String) (idx ci k : Nat) : Prop := ∃ r : vw_C, vwCl[ci]? = some r ∧ k < r.2.2 ∧ Cond.fieldLink own idx (r.2.1 k).1 (r.2.1 k).2.1 (r.2.1 k).2.2.1 ∈ BIG ∧ ∀ w ∈ u_ws r.1 r.2.1 r.2.2, w ∈ BIG
def PFd (ci k : Nat) (ty : FieldType) (fin : Bool) : Prop := ∃ (r : vw_C) (ty0 : Nat → FieldType), vwCl[ci]? = some r ∧ (∀ k, k < r.2.2 → parseFieldDescriptor (r.2.1 k).2.2.1 = some (ty0 k)) ∧ (∀ a, a < r.2.2 → ∀ b, b < r.2.2 → a ≠ b → (r.2.1 a).2.1 ≠ (r.2.1 b).2.1) ∧ (r.2.1 k).2.2.2 = fin ∧ parseFieldDescriptor (r.2.1 k).2.2.1 = some ty
theorem ffX2_9 : FFd RX2 9 2 0 := ⟨(RX2, TX2, 3), rfl, by decide, big_of (List.mem_append_right _ (List.mem_append_left _ (List.mem_of_getElem? (i := 32) rfl))) rfl, wwX2⟩
theorem ffX0_83 : FFd RX0 83 2 0 := ⟨(RX2, TX2, 3), rfl, by decide, big_of (List.mem_append_right _ (List.mem_append_left _ (List.mem_of_getElem? (i := 33) rfl))) rfl, wwX2⟩
theorem ffX5_90 : FFd RX5 90 2 0 := ⟨(RX2, TX2, 3), rfl, by decide, big_of (List.mem_append_right _ (List.mem_append_left _ (List.mem_of_getElem? (i := 34) rfl))) rfl, wwX2⟩
theorem ffX4_126 : FFd RX4 126 2 0 := ⟨(RX2, TX2, 3), rfl, by decide, big_of (List.mem_append_right _ (List.mem_append_left _ (List.mem_of_getElem? (i := 35) rfl))) rfl, wwX2⟩
theorem ffX2_15 : FFd RX2 15 2 1 := ⟨(RX2, TX2, 3), rfl, by decide, big_of (List.mem_append_right _ (List.mem_append_left _ (List.mem_of_getElem? (i := 36) rfl))) rfl, wwX2⟩
theorem ffX0_93 : FFd RX0 93 2 1 := ⟨(RX2, TX2, 3), rfl, by decide, big_of (List.mem_append_right _ (List.mem_append_left _ (List.mem_of_getElem? (i := 37) rfl))) rfl, wwX2⟩
theorem ffX5_95 : FFd RX5 95 2 1 := ⟨(RX2, TX2, 3), rfl, by decide, big_of (List.mem_append_right _ (List.mem_append_left _ (List.mem_of_getElem? (i := 38) rfl))) rfl, wwX2⟩
theorem ffX4_132 : FFd RX4 132 2 1 := ⟨(RX2, TX2, 3), rfl, by decide, big_of (List.mem_append_right _ (List.mem_append_left _ (List.mem_of_getElem? (i := 39) rfl))) rfl, wwX2⟩
theorem ffX2_18 : FFd RX2 18 2 2 := ⟨(RX2, TX2, 3), rfl, by decide, big_of (List.mem_append_right _ (List.mem_append_left _ (List.mem_of_getElem? (i := 40) rfl))) rfl, wwX2⟩
theorem ffX0_90 : FFd RX0 90 2 2 := ⟨(RX2, TX2, 3), rfl, by decide, big_of (List.mem_append_right _ (List.mem_append_left _ (List.mem_of_getElem? (i := 41) rfl))) rfl, wwX2⟩
theorem ffX5_98 : FFd RX5 98 2 2 := ⟨(RX2, TX2, 3), rfl, by decide, big_of (List.mem_append_right _ (List.mem_append_left _ (List.mem_of_getElem? (i := 42) rfl))) rfl, wwX2⟩
theorem ffX4_139 : FFd RX4 139 2 2 := ⟨(RX2, TX2, 3), rfl, by decide, big_of (List.mem_append_right _ (List.mem_append_left _ (List.mem_of_getElem? (i := 43) rfl))) rfl, wwX2⟩
theorem ffX1_15 : FFd RX1 15 1 0 := ⟨(RX1, TX1, 2), rfl, by decide, big_of (List.mem_append_right _ (List.mem_append_left _ (List.mem_of_getElem? (i := 60) rfl))) rfl, wwX1⟩
theorem ffX4_62 : FFd RX4 62 1 0 := ⟨(RX1, TX1, 2), rfl, by decide, big_of (List.mem_append_right _ (List.mem_append_left _ (List.mem_of_getElem? (i := 61) rfl))) rfl, wwX1⟩
theorem ffX5_136 : FFd RX5 136 1 0 := ⟨(RX1, TX1, 2), rfl, by decide, big_of (List.mem_append_right _ (List.mem_append_left _ (List.mem_of_getElem? (i := 62) rfl))) rfl, wwX1⟩
theorem ffX1_11 : FFd RX1 11 1 1 := ⟨(RX1, TX1, 2), rfl, by decide, big_of (List.mem_append_right _ (List.mem_append_left _ (List.mem_of_getElem? (i := 63) rfl))) rfl, wwX1⟩
theorem ffX3_24 : FFd RX3 24 3 0 := ⟨(RX3, TX3, 5), rfl, by decide, big_of (List.mem_append_right _ (List.mem_append_left _ (List.mem_of_getElem? (i := 75) rfl))) rfl, wwX3⟩
theorem ffX4_65 : FFd RX4 65 3 0 := ⟨(RX3, TX3, 5), rfl, by decide, big_of (List.mem_append_right _ (List.mem_append_left _ (List.mem_of_getElem? (i := 76) rfl))) rfl, wwX3⟩
theorem ffX3_9 : FFd RX3 9 3 1 := ⟨(RX3, TX3, 5), rfl, by decide, big_of (List.mem_append_right _ (List.mem_append_left _ (List.mem_of_getElem? (i := 77) rfl))) rfl, wwX3⟩
theorem ffX3_15 : FFd RX3 15 3 2 := ⟨(RX3, TX3, 5), rfl, by decide, big_of (List.mem_append_right _ (List.mem_append_left _ (List.mem_of_getElem? (i := 78) rfl))) rfl, wwX3⟩
theorem ffX3_18 : FFd RX3 18 3 3 := ⟨(RX3, TX3, 5), rfl, by decide, big_of (List.mem_append_right _ (List.mem_append_left _ (List.mem_of_getElem? (i := 79) rfl))) rfl, wwX3⟩
theorem ffX3_21 : FFd RX3 21 3 4 := ⟨(RX3, TX3, 5), rfl, by decide, big_of (List.mem_append_right _ (List.mem_append_left _ (List.mem_of_getElem? (i := 80) rfl))) rfl, wwX3⟩
theorem ffX0_28 : FFd RX0 28 0 0 := ⟨(RX0, TX0, 12), rfl, by decide, big_of (List.mem_append_right _ (List.mem_append_left _ (List.mem_of_getElem? (i := 99) rfl))) rfl, wwX0⟩
theorem ffX1_36 : FFd RX1 36 0 0 := ⟨(RX0, TX0, 12), rfl, by decide, big_of (List.mem_append_right _ (List.mem_append_left _ (List.mem_of_getElem? (i := 100) rfl))) rfl, wwX0⟩
theorem ffX4_79 : FFd RX4 79 0 0 := ⟨(RX0, TX0, 12), rfl, by decide, big_of (List.mem_append_right _ (List.mem_append_left _ (List.mem_of_getElem? (i := 101) rfl))) rfl, wwX0⟩
theorem ffX5_105 : FFd RX5 105 0 0 := ⟨(RX0, TX0, 12), rfl, by decide, big_of (List.mem_append_right _ (List.mem_append_left _ (List.mem_of_getElem? (i := 102) rfl))) rfl, wwX0⟩
theorem ffX0_32 : FFd RX0 32 0 1 := ⟨(RX0, TX0, 12), rfl, by decide, big_of (List.mem_append_right _ (List.mem_append_left _ (List.mem_of_getElem? (i := 103) rfl))) rfl, wwX0⟩
theorem ffX5_123 : FFd RX5 123 0 1 := ⟨(RX0, TX0, 12), rfl, by decide, big_of (List.mem_append_right _ (List.mem_append_left _ (List.mem_of_getElem? (i := 104) rfl))) rfl, wwX0⟩
theorem ffX4_129 : FFd RX4 129 0 1 := ⟨(RX0, TX0, 12), rfl, by decide, big_of (List.mem_append_right _ (List.mem_append_left _ (List.mem_of_getElem? (i := 105) rfl))) rfl, wwX0⟩
theorem ffX0_35 : FFd RX0 35 0 2 := ⟨(RX0, TX0, 12), rfl, by decide, big_of (List.mem_append_right _ (List.mem_append_left _ (List.mem_of_getElem? (i := 106) rfl))) rfl, wwX0⟩
theorem ffX1_25 : FFd RX1 25 0 2 := ⟨(RX0, TX0, 12), rfl, by decide, big_of (List.mem_append_right _ (List.mem_append_left _ (List.mem_of_getElem? (i := 107) rfl))) rfl, wwX0⟩
theorem ffX4_115 : FFd RX4 115 0 2 := ⟨(RX0, TX0, 12), rfl, by decide, big_of (List.mem_append_right _ (List.mem_append_left _ (List.mem_of_getElem? (i := 108) rfl))) rfl, wwX0⟩
theorem ffX0_38 : FFd RX0 38 0 3 := ⟨(RX0, TX0, 12), rfl, by decide, big_of (List.mem_append_right _ (List.mem_append_left _ (List.mem_of_getElem? (i := 109) rfl))) rfl, wwX0⟩
theorem ffX1_30 : FFd RX1 30 0 3 := ⟨(RX0, TX0, 12), rfl, by decide, big_of (List.mem_append_right _ (List.mem_append_left _ (List.mem_of_getElem? (i := 110) rfl))) rfl, wwX0⟩
theorem ffX5_110 : FFd RX5 110 0 3 := ⟨(RX0, TX0, 12), rfl, by decide, big_of (List.mem_append_right _ (List.mem_append_left _ (List.mem_of_getElem? (i := 111) rfl))) rfl, wwX0⟩
theorem ffX4_90 : FFd RX4 90 0 3 := ⟨(RX0, TX0, 12), rfl, by decide, big_of (List.mem_append_right _ (List.mem_append_left _ (List.mem_of_getElem? (i := 112) rfl))) rfl, wwX0⟩
theorem ffX0_41 : FFd RX0 41 0 4 := ⟨(RX0, TX0, 12), rfl, by decide, big_of (List.mem_append_right _ (List.mem_append_left _ (List.mem_of_getElem? (i := 113) rfl))) rfl, wwX0⟩
theorem ffX5_117 : FFd RX5 117 0 4 := ⟨(RX0, TX0, 12), rfl, by decide, big_of (List.mem_append_right _ (List.mem_append_left _ (List.mem_of_getElem? (i := 114) rfl))) rfl, wwX0⟩
theorem ffX4_104 : FFd RX4 104 0 4 := ⟨(RX0, TX0, 12), rfl, by decide, big_of (List.mem_append_right _ (List.mem_append_left _ (List.mem_of_getElem? (i := 115) rfl))) rfl, wwX0⟩
theorem ffX0_44 : FFd RX0 44 0 5 := ⟨(RX0, TX0, 12), rfl, by decide, big_of (List.mem_append_right _ (List.mem_append_left _ (List.mem_of_getElem? (i := 116) rfl))) rfl, wwX0⟩
theorem ffX5_120 : FFd RX5 120 0 5 := ⟨(RX0, TX0, 12), rfl, by decide, big_of (List.mem_append_right _ (List.mem_append_left _ (List.mem_of_getElem? (i := 117) rfl))) rfl, wwX0⟩
theorem ffX0_47 : FFd RX0 47 0 6 := ⟨(RX0, TX0, 12), rfl, by decide, big_of (List.mem_append_right _ (List.mem_append_left _ (List.mem_of_getElem? (i := 118) rfl))) rfl, wwX0⟩
theorem ffX4_93 : FFd RX4 93 0 6 := ⟨(RX0, TX0, 12), rfl, by decide, big_of (List.mem_append_right _ (List.mem_append_left _ (List.mem_of_getElem? (i := 119) rfl))) rfl, wwX0⟩
theorem ffX0_51 : FFd RX0 51 0 7 := ⟨(RX0, TX0, 12), rfl, by decide, big_of (List.mem_append_right _ (List.mem_append_left _ (List.mem_of_getElem? (i := 120) rfl))) rfl, wwX0⟩
theorem ffX1_33 : FFd RX1 33 0 7 := ⟨(RX0, TX0, 12), rfl, by decide, big_of (List.mem_append_right _ (List.mem_append_left _ (List.mem_of_getElem? (i := 121) rfl))) rfl, wwX0⟩
theorem ffX0_9 : FFd RX0 9 0 8 := ⟨(RX0, TX0, 12), rfl, by decide, big_of (List.mem_append_right _ (List.mem_append_left _ (List.mem_of_getElem? (i := 122) rfl))) rfl, wwX0⟩
theorem ffX1_39 : FFd RX1 39 0 8 := ⟨(RX0, TX0, 12), rfl, by decide, big_of (List.mem_append_right _ (List.mem_append_left _ (List.mem_of_getElem? (i := 123) rfl))) rfl, wwX0⟩
theorem ffX4_111 : FFd RX4 111 0 8 := ⟨(RX0, TX0, 12), rfl, by decide, big_of (List.mem_append_right _ (List.mem_append_left _ (List.mem_of_getElem? (i := 124) rfl))) rfl, wwX0⟩
theorem ffX0_15 : FFd RX0 15 0 9 := ⟨(RX0, TX0, 12), rfl, by decide, big_of (List.mem_append_right _ (List.mem_append_left _ (List.mem_of_getElem? (i := 125) rfl))) rfl, wwX0⟩
theorem ffX5_126 : FFd RX5 126 0 9 := ⟨(RX0, TX0, 12), rfl, by decide, big_of (List.mem_append_right _ (List.mem_append_left _ (List.mem_of_getElem? (i := 126) rfl))) rfl, wwX0⟩
theorem ffX0_18 : FFd RX0 18 0 10 := ⟨(RX0, TX0, 12), rfl, by decide, big_of (List.mem_append_right _ (List.mem_append_left _ (List.mem_of_getElem? (i := 127) rfl))) rfl, wwX0⟩
theorem ffX0_24 : FFd RX0 24 0 11 := ⟨(RX0, TX0, 12), rfl, by decide, big_of (List.mem_append_right _ (List.mem_append_left _ (List.mem_of_getElem? (i := 128) rfl))) rfl, wwX0⟩
theorem ffX5_129 : FFd RX5 129 0 11 := ⟨(RX0, TX0, 12), rfl, by decide, big_of (List.mem_append_right _ (List.mem_append_left _ (List.mem_of_getElem? (i := 129) rfl))) rfl, wwX0⟩
theorem ffX4_39 : FFd RX4 39 4 0 := ⟨(RX4, TX4, 9), rfl, by decide, big_of (List.mem_append_right _ (List.mem_append_left _ (List.mem_of_getElem? (i := 155) rfl))) rfl, wwX4⟩
theorem ffX5_147 : FFd RX5 147 4 0 := ⟨(RX4, TX4, 9), rfl, by decide, big_of (List.mem_append_right _ (List.mem_append_left _ (List.mem_of_getElem? (i := 156) rfl))) rfl, wwX4⟩
theorem ffX4_43 : FFd RX4 43 4 1 := ⟨(RX4, TX4, 9), rfl, by decide, big_of (List.mem_append_right _ (List.mem_append_left _ (List.mem_of_getElem? (i := 157) rfl))) rfl, wwX4⟩
theorem ffX5_181 : FFd RX5 181 4 1 := ⟨(RX4, TX4, 9), rfl, by decide, big_of (List.mem_append_right _ (List.mem_append_left _ (List.mem_of_getElem? (i := 158) rfl))) rfl, wwX4⟩
theorem ffX4_46 : FFd RX4 46 4 2 := ⟨(RX4, TX4, 9), rfl, by decide, big_of (List.mem_append_right _ (List.mem_append_left _ (List.mem_of_getElem? (i := 159) rfl))) rfl, wwX4⟩
theorem ffX5_184 : FFd RX5 184 4 2 := ⟨(RX4, TX4, 9), rfl, by decide, big_of (List.mem_append_right _ (List.mem_append_left _ (List.mem_of_getElem? (i := 160) rfl))) rfl, wwX4⟩
theorem ffX4_49 : FFd RX4 49 4 3 := ⟨(RX4, TX4, 9), rfl, by decide, big_of (List.mem_append_right _ (List.mem_append_left _ (List.mem_of_getElem? (i := 161) rfl))) rfl, wwX4⟩
theorem ffX5_178 : FFd RX5 178 4 3 := ⟨(RX4, TX4, 9), rfl, by decide, big_of (List.mem_append_right _ (List.mem_append_left _ (List.mem_of_getElem? (i := 162) rfl))) rfl, wwX4⟩
theorem ffX4_52 : FFd RX4 52 4 4 := ⟨(RX4, TX4, 9), rfl, by decide, big_of (List.mem_append_right _ (List.mem_append_left _ (List.mem_of_getElem? (i := 163) rfl))) rfl, wwX4⟩
theorem ffX5_190 : FFd RX5 190 4 4 := ⟨(RX4, TX4, 9), rfl, by decide, big_of (List.mem_append_right _ (List.mem_append_left _ (List.mem_of_getElem? (i := 164) rfl))) rfl, wwX4⟩
theorem ffX4_12 : FFd RX4 12 4 5 := ⟨(RX4, TX4, 9), rfl, by decide, big_of (List.mem_append_right _ (List.mem_append_left _ (List.mem_of_getElem? (i := 165) rfl))) rfl, wwX4⟩
theorem ffX5_86 : FFd RX5 86 4 5 := ⟨(RX4, TX4, 9), rfl, by decide, big_of (List.mem_append_right _ (List.mem_append_left _ (List.mem_of_getElem? (i := 166) rfl))) rfl, wwX4⟩
theorem ffX4_20 : FFd RX4 20 4 6 := ⟨(RX4, TX4, 9), rfl, by decide, big_of (List.mem_append_right _ (List.mem_append_left _ (List.mem_of_getElem? (i := 167) rfl))) rfl, wwX4⟩
theorem ffX5_101 : FFd RX5 101 4 6 := ⟨(RX4, TX4, 9), rfl, by decide, big_of (List.mem_append_right _ (List.mem_append_left _ (List.mem_of_getElem? (i := 168) rfl))) rfl, wwX4⟩
theorem ffX4_27 : FFd RX4 27 4 7 := ⟨(RX4, TX4, 9), rfl, by decide, big_of (List.mem_append_right _ (List.mem_append_left _ (List.mem_of_getElem? (i := 169) rfl))) rfl, wwX4⟩
theorem ffX5_132 : FFd RX5 132 4 7 := ⟨(RX4, TX4, 9), rfl, by decide, big_of (List.mem_append_right _ (List.mem_append_left _ (List.mem_of_getElem? (i := 170) rfl))) rfl, wwX4⟩
theorem ffX4_34 : FFd RX4 34 4 8 := ⟨(RX4, TX4, 9), rfl, by decide, big_of (List.mem_append_right _ (List.mem_append_left _ (List.mem_of_getElem? (i := 171) rfl))) rfl, wwX4⟩
theorem ffX5_10 : FFd RX5 10 5 0 := ⟨(RX5, TX5, 12), rfl, by decide, big_of (List.mem_append_right _ (List.mem_append_left _ (List.mem_of_getElem? (i := 209) rfl))) rfl, wwX5⟩
theorem ffX5_16 : FFd RX5 16 5 1 := ⟨(RX5, TX5, 12), rfl, by decide, big_of (List.mem_append_right _ (List.mem_append_left _ (List.mem_of_getElem? (i := 210) rfl))) rfl, wwX5⟩
theorem ffX5_19 : FFd RX5 19 5 2 := ⟨(RX5, TX5, 12), rfl, by decide, big_of (List.mem_append_right _ (List.mem_append_left _ (List.mem_of_getElem? (i := 211) rfl))) rfl, wwX5⟩
theorem ffX5_79 : FFd RX5 79 5 3 := ⟨(RX5, TX5, 12), rfl, by decide, big_of (List.mem_append_right _ (List.mem_append_left _ (List.mem_of_getElem? (i := 212) rfl))) rfl, wwX5⟩
theorem ffX5_76 : FFd RX5 76 5 4 := ⟨(RX5, TX5, 12), rfl, by decide, big_of (List.mem_append_right _ (List.mem_append_left _ (List.mem_of_getElem? (i := 213) rfl))) rfl, wwX5⟩
theorem ffX5_23 : FFd RX5 23 5 5 := ⟨(RX5, TX5, 12), rfl, by decide, big_of (List.mem_append_right _ (List.mem_append_left _ (List.mem_of_getElem? (i := 214) rfl))) rfl, wwX5⟩
theorem ffX5_26 : FFd RX5 26 5 6 := ⟨(RX5, TX5, 12), rfl, by decide, big_of (List.mem_append_right _ (List.mem_append_left _ (List.mem_of_getElem? (i := 215) rfl))) rfl, wwX5⟩
theorem ffX5_30 : FFd RX5 30 5 7 := ⟨(RX5, TX5, 12), rfl, by decide, big_of (List.mem_append_right _ (List.mem_append_left _ (List.mem_of_getElem? (i := 216) rfl))) rfl, wwX5⟩
theorem ffX5_34 : FFd RX5 34 5 8 := ⟨(RX5, TX5, 12), rfl, by decide, big_of (List.mem_append_right _ (List.mem_append_left _ (List.mem_of_getElem? (i := 217) rfl))) rfl, wwX5⟩
theorem ffX5_37 : FFd RX5 37 5 9 := ⟨(RX5, TX5, 12), rfl, by decide, big_of (List.mem_append_right _ (List.mem_append_left _ (List.mem_of_getElem? (i := 218) rfl))) rfl, wwX5⟩
theorem ffX5_58 : FFd RX5 58 5 10 := ⟨(RX5, TX5, 12), rfl, by decide, big_of (List.mem_append_right _ (List.mem_append_left _ (List.mem_of_getElem? (i := 219) rfl))) rfl, wwX5⟩
theorem ffX5_40 : FFd RX5 40 5 11 := ⟨(RX5, TX5, 12), rfl, by decide, big_of (List.mem_append_right _ (List.mem_append_left _ (List.mem_of_getElem? (i := 220) rfl))) rfl, wwX5⟩
theorem ffX6_36 : FFd RX6 36 6 0 := ⟨(RX6, TX6, 10), rfl, by decide, big_of (List.mem_append_right _ (List.mem_append_right _ (List.mem_append_right _ (List.mem_of_getElem? (i := 41) rfl)))) rfl, wwX6⟩
theorem ffX6_7 : FFd RX6 7 6 1 := ⟨(RX6, TX6, 10), rfl, by decide, big_of (List.mem_append_right _ (List.mem_append_right _ (List.mem_append_right _ (List.mem_of_getElem? (i := 42) rfl)))) rfl, wwX6⟩
theorem ffX6_13 : FFd RX6 13 6 2 := ⟨(RX6, TX6, 10), rfl, by decide, big_of (List.mem_append_right _ (List.mem_append_right _ (List.mem_append_right _ (List.mem_of_getElem? (i := 43) rfl)))) rfl, wwX6⟩
theorem ffX6_16 : FFd RX6 16 6 3 := ⟨(RX6, TX6, 10), rfl, by decide, big_of (List.mem_append_right _ (List.mem_append_right _ (List.mem_append_right _ (List.mem_of_getElem? (i := 44) rfl)))) rfl, wwX6⟩
theorem ffX6_66 : FFd RX6 66 6 4 := ⟨(RX6, TX6, 10), rfl, by decide, big_of (List.mem_append_right _ (List.mem_append_right _ (List.mem_append_right _ (List.mem_of_getElem? (i := 45) rfl)))) rfl, wwX6⟩
theorem ffX6_19 : FFd RX6 19 6 5 := ⟨(RX6, TX6, 10), rfl, by decide, big_of (List.mem_append_right _ (List.mem_append_right _ (List.mem_append_right _ (List.mem_of_getElem? (i := 46) rfl)))) rfl, wwX6⟩
theorem ffX6_22 : FFd RX6 22 6 6 := ⟨(RX6, TX6, 10), rfl, by decide, big_of (List.mem_append_right _ (List.mem_append_right _ (List.mem_append_right _ (List.mem_of_getElem? (i := 47) rfl)))) rfl, wwX6⟩
theorem ffX6_26 : FFd RX6 26 6 7 := ⟨(RX6, TX6, 10), rfl, by decide, big_of (List.mem_append_right _ (List.mem_append_right _ (List.mem_append_right _ (List.mem_of_getElem? (i := 48) rfl)))) rfl, wwX6⟩
theorem ffX6_76 : FFd RX6 76 6 8 := ⟨(RX6, TX6, 10), rfl, by decide, big_of (List.mem_append_right _ (List.mem_append_right _ (List.mem_append_right _ (List.mem_of_getElem? (i := 49) rfl)))) rfl, wwX6⟩
theorem ffX6_29 : FFd RX6 29 6 9 := ⟨(RX6, TX6, 10), rfl, by decide, big_of (List.mem_append_right _ (List.mem_append_right _ (List.mem_append_right _ (List.mem_of_getElem? (i := 50) rfl)))) rfl, wwX6⟩
theorem pfX0_0 : PFd 0 0 (.int) false := ⟨(RX0, TX0, 12), tyX0, rfl, tyX0_ok, nmX0, rfl, by decide +kernel⟩
theorem pfX0_1 : PFd 0 1 (.int) false := ⟨(RX0, TX0, 12), tyX0, rfl, tyX0_ok, nmX0, rfl, by decide +kernel⟩
theorem pfX0_2 : PFd 0 2 (.int) false := ⟨(RX0, TX0, 12), tyX0, rfl, tyX0_ok, nmX0, rfl, by decide +kernel⟩
theorem pfX0_3 : PFd 0 3 (.int) false := ⟨(RX0, TX0, 12), tyX0, rfl, tyX0_ok, nmX0, rfl, by decide +kernel⟩
theorem pfX0_4 : PFd 0 4 (.int) false := ⟨(RX0, TX0, 12), tyX0, rfl, tyX0_ok, nmX0, rfl, by decide +kernel⟩
theorem pfX0_5 : PFd 0 5 (.int) false := ⟨(RX0, TX0, 12), tyX0, rfl, tyX0_ok, nmX0, rfl, by decide +kernel⟩
theorem pfX0_6 : PFd 0 6 (.boolean) false := ⟨(RX0, TX0, 12), tyX0, rfl, tyX0_ok, nmX0, rfl, by decide +kernel⟩
theorem pfX0_7 : PFd 0 7 (.int) false := ⟨(RX0, TX0, 12), tyX0, rfl, tyX0_ok, nmX0, rfl, by decide +kernel⟩
theorem pfX0_8 : PFd 0 8 (.array .int) true := ⟨(RX0, TX0, 12), tyX0, rfl, tyX0_ok, nmX0, rfl, by decide +kernel⟩
theorem pfX0_9 : PFd 0 9 (.array .int) true := ⟨(RX0, TX0, 12), tyX0, rfl, tyX0_ok, nmX0, rfl, by decide +kernel⟩
theorem pfX0_10 : PFd 0 10 (.array .int) true := ⟨(RX0, TX0, 12), tyX0, rfl, tyX0_ok, nmX0, rfl, by decide +kernel⟩
theorem pfX0_11 : PFd 0 11 (.object "LentViews$Cells") true := ⟨(RX0, TX0, 12), tyX0, rfl, tyX0_ok, nmX0, rfl, by decide +kernel⟩
theorem pfX1_0 : PFd 1 0 (.int) false := ⟨(RX1, TX1, 2), tyX1, rfl, tyX1_ok, nmX1, rfl, by decide +kernel⟩
theorem pfX1_1 : PFd 1 1 (.array .int) true := ⟨(RX1, TX1, 2), tyX1, rfl, tyX1_ok, nmX1, rfl, by decide +kernel⟩
theorem pfX2_0 : PFd 2 0 (.array .int) true := ⟨(RX2, TX2, 3), tyX2, rfl, tyX2_ok, nmX2, rfl, by decide +kernel⟩
theorem pfX2_1 : PFd 2 1 (.array .int) true := ⟨(RX2, TX2, 3), tyX2, rfl, tyX2_ok, nmX2, rfl, by decide +kernel⟩
theorem pfX2_2 : PFd 2 2 (.array .int) true := ⟨(RX2, TX2, 3), tyX2, rfl, tyX2_ok, nmX2, rfl, by decide +kernel⟩
theorem pfX3_0 : PFd 3 0 (.int) false := ⟨(RX3, TX3, 5), tyX3, rfl, tyX3_ok, nmX3, rfl, by decide +kernel⟩
theorem pfX3_1 : PFd 3 1 (.array .int) true := ⟨(RX3, TX3, 5), tyX3, rfl, tyX3_ok, nmX3, rfl, by decide +kernel⟩
theorem pfX3_2 : PFd 3 2 (.array .int) true := ⟨(RX3, TX3, 5), tyX3, rfl, tyX3_ok, nmX3, rfl, by decide +kernel⟩
theorem pfX3_3 : PFd 3 3 (.array .int) true := ⟨(RX3, TX3, 5), tyX3, rfl, tyX3_ok, nmX3, rfl, by decide +kernel⟩
theorem pfX3_4 : PFd 3 4 (.array .int) true := ⟨(RX3, TX3, 5), tyX3, rfl, tyX3_ok, nmX3, rfl, by decide +kernel⟩
theorem pfX4_0 : PFd 4 0 (.int) false := ⟨(RX4, TX4, 9), tyX4, rfl, tyX4_ok, nmX4, rfl, by decide +kernel⟩
theorem pfX4_1 : PFd 4 1 (.int) false := ⟨(RX4, TX4, 9), tyX4, rfl, tyX4_ok, nmX4, rfl, by decide +kernel⟩
theorem pfX4_2 : PFd 4 2 (.int) false := ⟨(RX4, TX4, 9), tyX4, rfl, tyX4_ok, nmX4, rfl, by decide +kernel⟩
theorem pfX4_3 : PFd 4 3 (.int) false := ⟨(RX4, TX4, 9), tyX4, rfl, tyX4_ok, nmX4, rfl, by decide +kernel⟩
theorem pfX4_4 : PFd 4 4 (.int) false := ⟨(RX4, TX4, 9), tyX4, rfl, tyX4_ok, nmX4, rfl, by decide +kernel⟩
theorem pfX4_5 : PFd 4 5 (.object "LentViews$Cells") true := ⟨(RX4, TX4, 9), tyX4, rfl, tyX4_ok, nmX4, rfl, by decide +kernel⟩
theorem pfX4_6 : PFd 4 6 (.array (.object "LentViews$Act")) true := ⟨(RX4, TX4, 9), tyX4, rfl, tyX4_ok, nmX4, rfl, by decide +kernel⟩
theorem pfX4_7 : PFd 4 7 (.object "LentViews$Album") true := ⟨(RX4, TX4, 9), tyX4, rfl, tyX4_ok, nmX4, rfl, by decide +kernel⟩
theorem pfX4_8 : PFd 4 8 (.object "LentViews$History") true := ⟨(RX4, TX4, 9), tyX4, rfl, tyX4_ok, nmX4, rfl, by decide +kernel⟩
theorem pfX5_0 : PFd 5 0 (.object "LentViews$World") true := ⟨(RX5, TX5, 12), tyX5, rfl, tyX5_ok, nmX5, rfl, by decide +kernel⟩
theorem pfX5_1 : PFd 5 1 (.object "LentViews$World") true := ⟨(RX5, TX5, 12), tyX5, rfl, tyX5_ok, nmX5, rfl, by decide +kernel⟩
theorem pfX5_2 : PFd 5 2 (.array (.object "LentViews$World")) true := ⟨(RX5, TX5, 12), tyX5, rfl, tyX5_ok, nmX5, rfl, by decide +kernel⟩
theorem pfX5_3 : PFd 5 3 (.int) false := ⟨(RX5, TX5, 12), tyX5, rfl, tyX5_ok, nmX5, rfl, by decide +kernel⟩
theorem pfX5_4 : PFd 5 4 (.int) false := ⟨(RX5, TX5, 12), tyX5, rfl, tyX5_ok, nmX5, rfl, by decide +kernel⟩
theorem pfX5_5 : PFd 5 5 (.array (.object "LentViews$World")) true := ⟨(RX5, TX5, 12), tyX5, rfl, tyX5_ok, nmX5, rfl, by decide +kernel⟩
theorem pfX5_6 : PFd 5 6 (.array .boolean) true := ⟨(RX5, TX5, 12), tyX5, rfl, tyX5_ok, nmX5, rfl, by decide +kernel⟩
theorem pfX5_7 : PFd 5 7 (.array .int) true := ⟨(RX5, TX5, 12), tyX5, rfl, tyX5_ok, nmX5, rfl, by decide +kernel⟩
theorem pfX5_8 : PFd 5 8 (.array .int) true := ⟨(RX5, TX5, 12), tyX5, rfl, tyX5_ok, nmX5, rfl, by decide +kernel⟩
theorem pfX5_9 : PFd 5 9 (.array .int) true := ⟨(RX5, TX5, 12), tyX5, rfl, tyX5_ok, nmX5, rfl, by decide +kernel⟩
theorem pfX5_10 : PFd 5 10 (.int) false := ⟨(RX5, TX5, 12), tyX5, rfl, tyX5_ok, nmX5, rfl, by decide +kernel⟩
theorem pfX5_11 : PFd 5 11 (.array .int) true := ⟨(RX5, TX5, 12), tyX5, rfl, tyX5_ok, nmX5, rfl, by decide +kernel⟩
theorem pfX6_0 : PFd 6 0 (.int) false := ⟨(RX6, TX6, 10), tyX6, rfl, tyX6_ok, nmX6, rfl, by decide +kernel⟩
theorem pfX6_1 : PFd 6 1 (.array .int) true := ⟨(RX6, TX6, 10), tyX6, rfl, tyX6_ok, nmX6, rfl, by decide +kernel⟩
theorem pfX6_2 : PFd 6 2 (.array .int) true := ⟨(RX6, TX6, 10), tyX6, rfl, tyX6_ok, nmX6, rfl, by decide +kernel⟩
theorem pfX6_3 : PFd 6 3 (.array .int) true := ⟨(RX6, TX6, 10), tyX6, rfl, tyX6_ok, nmX6, rfl, by decide +kernel⟩
theorem pfX6_4 : PFd 6 4 (.int) false := ⟨(RX6, TX6, 10), tyX6, rfl, tyX6_ok, nmX6, rfl, by decide +kernel⟩
theorem pfX6_5 : PFd 6 5 (.array .int) true := ⟨(RX6, TX6, 10), tyX6, rfl, tyX6_ok, nmX6, rfl, by decide +kernel⟩
theorem pfX6_6 : PFd 6 6 (.array .boolean) true := ⟨(RX6, TX6, 10), tyX6, rfl, tyX6_ok, nmX6, rfl, by decide +kernel⟩
theorem pfX6_7 : PFd 6 7 (.array .int) true := ⟨(RX6, TX6, 10), tyX6, rfl, tyX6_ok, nmX6, rfl, by decide +kernel⟩
theorem pfX6_8 : PFd 6 8 (.int) false := ⟨(RX6, TX6, 10), tyX6, rfl, tyX6_ok, nmX6, rfl, by decide +kernel⟩
theorem pfX6_9 : PFd 6 9 (.array .int) true := ⟨(RX6, TX6, 10), tyX6, rfl, tyX6_ok, nmX6, rfl, by decide +kernel⟩
/-- a method that a call may name: its code word, its class made ready -/
def MCd (y : MethodName) (cc : ByteArray) (n : Nat) (r : Option FieldType) (np : Nat) : Prop := Cond.code y cc n r ∈ BIG ∧ Cond.initialized y.cls ∈ BIG ∧ (y.cls ≠ "java/lang/invoke/MethodHandle" ∧ y.cls ≠ "java/lang/invoke/VarHandle" ∧ (parseMethodDescriptor y.desc).map (fun d => d.parameters.length) = some np)
theorem mc_X5_init : MCd yX5_init cX5_init 2 none 0 := ⟨big_of (List.mem_append_right _ (List.mem_append_left _ (List.mem_of_getElem? (i := 16) rfl))) rfl, big_of (List.mem_append_right _ (List.mem_append_left _ (List.mem_of_getElem? (i := 1) rfl))) rfl, by decide +kernel⟩
theorem mc_X4_init : MCd yX4_init cX4_init 2 none 0 := ⟨big_of (List.mem_append_right _ (List.mem_append_left _ (List.mem_of_getElem? (i := 24) rfl))) rfl, big_of (List.mem_append_right _ (List.mem_append_left _ (List.mem_of_getElem? (i := 2) rfl))) rfl, by decide +kernel⟩
theorem mc_X2_init : MCd yX2_init cX2_init 1 none 0 := ⟨big_of (List.mem_append_right _ (List.mem_append_left _ (List.mem_of_getElem? (i := 30) rfl))) rfl, big_of (List.mem_append_right _ (List.mem_append_left _ (List.mem_of_getElem? (i := 3) rfl))) rfl, by decide +kernel⟩
theorem mc_X1_init : MCd yX1_init cX1_init 1 none 0 := ⟨big_of (List.mem_append_right _ (List.mem_append_left _ (List.mem_of_getElem? (i := 58) rfl))) rfl, big_of (List.mem_append_right _ (List.mem_append_left _ (List.mem_of_getElem? (i := 4) rfl))) rfl, by decide +kernel⟩
theorem mc_X3_init : MCd yX3_init cX3_init 1 none 0 := ⟨big_of (List.mem_append_right _ (List.mem_append_left _ (List.mem_of_getElem? (i := 73) rfl))) rfl, big_of (List.mem_append_right _ (List.mem_append_left _ (List.mem_of_getElem? (i := 5) rfl))) rfl, by decide +kernel⟩
theorem mc_X0_init : MCd yX0_init cX0_init 1 none 0 := ⟨big_of (List.mem_append_right _ (List.mem_append_left _ (List.mem_of_getElem? (i := 95) rfl))) rfl, big_of (List.mem_append_right _ (List.mem_append_left _ (List.mem_of_getElem? (i := 6) rfl))) rfl, by decide +kernel⟩
theorem mc_X4_restart : MCd yX4_restart cX4_restart 5 none 3 := ⟨big_of (List.mem_append_right _ (List.mem_append_left _ (List.mem_of_getElem? (i := 195) rfl))) rfl, big_of (List.mem_append_right _ (List.mem_append_left _ (List.mem_of_getElem? (i := 2) rfl))) rfl, by decide +kernel⟩
theorem mc_X2_clear : MCd yX2_clear cX2_clear 1 none 0 := ⟨big_of (List.mem_append_right _ (List.mem_append_left _ (List.mem_of_getElem? (i := 199) rfl))) rfl, big_of (List.mem_append_right _ (List.mem_append_left _ (List.mem_of_getElem? (i := 3) rfl))) rfl, by decide +kernel⟩
theorem mc_J7_fill_53178 : MCd yJ7_fill_53178 cJ7_fill_53178 4 none 2 := ⟨big_of (List.mem_append_right _ (List.mem_append_left _ (List.mem_of_getElem? (i := 202) rfl))) rfl, big_of (List.mem_append_right _ (List.mem_append_left _ (List.mem_of_getElem? (i := 7) rfl))) rfl, by decide +kernel⟩
theorem mc_X0_become : MCd yX0_become cX0_become 4 none 3 := ⟨big_of (List.mem_append_right _ (List.mem_append_left _ (List.mem_of_getElem? (i := 206) rfl))) rfl, big_of (List.mem_append_right _ (List.mem_append_left _ (List.mem_of_getElem? (i := 6) rfl))) rfl, by decide +kernel⟩
theorem mc_X5_begins : MCd yX5_begins cX5_begins 5 (some .int) 3 := ⟨big_of (List.mem_append_right _ (List.mem_append_right _ (List.mem_append_left _ (List.mem_of_getElem? (i := 10) rfl)))) rfl, big_of (List.mem_append_right _ (List.mem_append_left _ (List.mem_of_getElem? (i := 1) rfl))) rfl, by decide +kernel⟩
theorem mc_X5_isWithin : MCd yX5_isWithin cX5_isWithin 3 (some .boolean) 3 := ⟨big_of (List.mem_append_right _ (List.mem_append_right _ (List.mem_append_left _ (List.mem_of_getElem? (i := 13) rfl)))) rfl, big_of (List.mem_append_right _ (List.mem_append_left _ (List.mem_of_getElem? (i := 1) rfl))) rfl, by decide +kernel⟩
theorem mc_X5_isWrap : MCd yX5_isWrap cX5_isWrap 1 (some .boolean) 1 := ⟨big_of (List.mem_append_right _ (List.mem_append_right _ (List.mem_append_left _ (List.mem_of_getElem? (i := 16) rfl)))) rfl, big_of (List.mem_append_right _ (List.mem_append_left _ (List.mem_of_getElem? (i := 1) rfl))) rfl, by decide +kernel⟩
theorem mc_X5_remember : MCd yX5_remember cX5_remember 1 none 0 := ⟨big_of (List.mem_append_right _ (List.mem_append_right _ (List.mem_append_left _ (List.mem_of_getElem? (i := 20) rfl)))) rfl, big_of (List.mem_append_right _ (List.mem_append_left _ (List.mem_of_getElem? (i := 1) rfl))) rfl, by decide +kernel⟩
theorem mc_X4_copyFrom : MCd yX4_copyFrom cX4_copyFrom 3 none 1 := ⟨big_of (List.mem_append_right _ (List.mem_append_right _ (List.mem_append_left _ (List.mem_of_getElem? (i := 24) rfl)))) rfl, big_of (List.mem_append_right _ (List.mem_append_left _ (List.mem_of_getElem? (i := 2) rfl))) rfl, by decide +kernel⟩
theorem mc_X2_copyFrom : MCd yX2_copyFrom cX2_copyFrom 2 none 1 := ⟨big_of (List.mem_append_right _ (List.mem_append_right _ (List.mem_append_left _ (List.mem_of_getElem? (i := 28) rfl)))) rfl, big_of (List.mem_append_right _ (List.mem_append_left _ (List.mem_of_getElem? (i := 3) rfl))) rfl, by decide +kernel⟩
theorem mc_X5_copyAll : MCd yX5_copyAll cX5_copyAll 2 none 2 := ⟨big_of (List.mem_append_right _ (List.mem_append_right _ (List.mem_append_left _ (List.mem_of_getElem? (i := 31) rfl)))) rfl, big_of (List.mem_append_right _ (List.mem_append_left _ (List.mem_of_getElem? (i := 1) rfl))) rfl, by decide +kernel⟩
theorem mc_J9_min_7cf53 : MCd yJ9_min_7cf53 cJ9_min_7cf53 2 (some .int) 2 := ⟨big_of (List.mem_append_right _ (List.mem_append_right _ (List.mem_append_left _ (List.mem_of_getElem? (i := 34) rfl)))) rfl, big_of (List.mem_append_right _ (List.mem_append_left _ (List.mem_of_getElem? (i := 9) rfl))) rfl, by decide +kernel⟩
theorem mc_X0_copyFrom : MCd yX0_copyFrom cX0_copyFrom 2 none 1 := ⟨big_of (List.mem_append_right _ (List.mem_append_right _ (List.mem_append_left _ (List.mem_of_getElem? (i := 41) rfl)))) rfl, big_of (List.mem_append_right _ (List.mem_append_left _ (List.mem_of_getElem? (i := 6) rfl))) rfl, by decide +kernel⟩
theorem mc_X1_copyFrom : MCd yX1_copyFrom cX1_copyFrom 2 none 1 := ⟨big_of (List.mem_append_right _ (List.mem_append_right _ (List.mem_append_left _ (List.mem_of_getElem? (i := 47) rfl)))) rfl, big_of (List.mem_append_right _ (List.mem_append_left _ (List.mem_of_getElem? (i := 4) rfl))) rfl, by decide +kernel⟩
theorem mc_X3_copyFrom : MCd yX3_copyFrom cX3_copyFrom 2 none 1 := ⟨big_of (List.mem_append_right _ (List.mem_append_right _ (List.mem_append_left _ (List.mem_of_getElem? (i := 52) rfl)))) rfl, big_of (List.mem_append_right _ (List.mem_append_left _ (List.mem_of_getElem? (i := 5) rfl))) rfl, by decide +kernel⟩
theorem mc_X5_scans : MCd yX5_scans cX5_scans 2 (some .int) 1 := ⟨big_of (List.mem_append_right _ (List.mem_append_right _ (List.mem_append_left _ (List.mem_of_getElem? (i := 57) rfl)))) rfl, big_of (List.mem_append_right _ (List.mem_append_left _ (List.mem_of_getElem? (i := 1) rfl))) rfl, by decide +kernel⟩
theorem mc_X4_has : MCd yX4_has cX4_has 2 (some .boolean) 1 := ⟨big_of (List.mem_append_right _ (List.mem_append_right _ (List.mem_append_left _ (List.mem_of_getElem? (i := 61) rfl)))) rfl, big_of (List.mem_append_right _ (List.mem_append_left _ (List.mem_of_getElem? (i := 2) rfl))) rfl, by decide +kernel⟩
theorem mc_X5_beginAct : MCd yX5_beginAct cX5_beginAct 4 (some .int) 3 := ⟨big_of (List.mem_append_right _ (List.mem_append_right _ (List.mem_append_left _ (List.mem_of_getElem? (i := 65) rfl)))) rfl, big_of (List.mem_append_right _ (List.mem_append_left _ (List.mem_of_getElem? (i := 1) rfl))) rfl, by decide +kernel⟩
theorem mc_X4_isIdle : MCd yX4_isIdle cX4_isIdle 2 (some .boolean) 1 := ⟨big_of (List.mem_append_right _ (List.mem_append_right _ (List.mem_append_left _ (List.mem_of_getElem? (i := 69) rfl)))) rfl, big_of (List.mem_append_right _ (List.mem_append_left _ (List.mem_of_getElem? (i := 2) rfl))) rfl, by decide +kernel⟩
theorem mc_X4_beginAct : MCd yX4_beginAct cX4_beginAct 4 none 3 := ⟨big_of (List.mem_append_right _ (List.mem_append_right _ (List.mem_append_left _ (List.mem_of_getElem? (i := 73) rfl)))) rfl, big_of (List.mem_append_right _ (List.mem_append_left _ (List.mem_of_getElem? (i := 2) rfl))) rfl, by decide +kernel⟩
theorem mc_X5_writes : MCd yX5_writes cX5_writes 3 (some .int) 2 := ⟨big_of (List.mem_append_right _ (List.mem_append_right _ (List.mem_append_left _ (List.mem_of_getElem? (i := 77) rfl)))) rfl, big_of (List.mem_append_right _ (List.mem_append_left _ (List.mem_of_getElem? (i := 1) rfl))) rfl, by decide +kernel⟩
theorem mc_X5_steps : MCd yX5_steps cX5_steps 3 (some .int) 2 := ⟨big_of (List.mem_append_right _ (List.mem_append_right _ (List.mem_append_left _ (List.mem_of_getElem? (i := 81) rfl)))) rfl, big_of (List.mem_append_right _ (List.mem_append_left _ (List.mem_of_getElem? (i := 1) rfl))) rfl, by decide +kernel⟩
theorem mc_X4_stepUpTo : MCd yX4_stepUpTo cX4_stepUpTo 4 (some .int) 2 := ⟨big_of (List.mem_append_right _ (List.mem_append_right _ (List.mem_append_left _ (List.mem_of_getElem? (i := 85) rfl)))) rfl, big_of (List.mem_append_right _ (List.mem_append_left _ (List.mem_of_getElem? (i := 2) rfl))) rfl, by decide +kernel⟩
theorem mc_X4_stepOnce : MCd yX4_stepOnce cX4_stepOnce 3 none 1 := ⟨big_of (List.mem_append_right _ (List.mem_append_right _ (List.mem_append_left _ (List.mem_of_getElem? (i := 90) rfl)))) rfl, big_of (List.mem_append_right _ (List.mem_append_left _ (List.mem_of_getElem? (i := 2) rfl))) rfl, by decide +kernel⟩
theorem mc_X4_writeOut : MCd yX4_writeOut cX4_writeOut 3 none 2 := ⟨big_of (List.mem_append_right _ (List.mem_append_right _ (List.mem_append_left _ (List.mem_of_getElem? (i := 94) rfl)))) rfl, big_of (List.mem_append_right _ (List.mem_append_left _ (List.mem_of_getElem? (i := 2) rfl))) rfl, by decide +kernel⟩
theorem mc_X4_versionBehind : MCd yX4_versionBehind cX4_versionBehind 2 (some .int) 1 := ⟨big_of (List.mem_append_right _ (List.mem_append_right _ (List.mem_append_left _ (List.mem_of_getElem? (i := 98) rfl)))) rfl, big_of (List.mem_append_right _ (List.mem_append_left _ (List.mem_of_getElem? (i := 2) rfl))) rfl, by decide +kernel⟩
theorem mc_X3_add : MCd yX3_add cX3_add 4 none 3 := ⟨big_of (List.mem_append_right _ (List.mem_append_right _ (List.mem_append_left _ (List.mem_of_getElem? (i := 103) rfl)))) rfl, big_of (List.mem_append_right _ (List.mem_append_left _ (List.mem_of_getElem? (i := 5) rfl))) rfl, by decide +kernel⟩
theorem mc_X0_readOne : MCd yX0_readOne cX0_readOne 2 none 1 := ⟨big_of (List.mem_append_right _ (List.mem_append_right _ (List.mem_append_left _ (List.mem_of_getElem? (i := 107) rfl)))) rfl, big_of (List.mem_append_right _ (List.mem_append_left _ (List.mem_of_getElem? (i := 6) rfl))) rfl, by decide +kernel⟩
theorem mc_X2_copyOne : MCd yX2_copyOne cX2_copyOne 3 none 2 := ⟨big_of (List.mem_append_right _ (List.mem_append_right _ (List.mem_append_left _ (List.mem_of_getElem? (i := 111) rfl)))) rfl, big_of (List.mem_append_right _ (List.mem_append_left _ (List.mem_of_getElem? (i := 3) rfl))) rfl, by decide +kernel⟩
theorem mc_X0_endCollect : MCd yX0_endCollect cX0_endCollect 5 none 2 := ⟨big_of (List.mem_append_right _ (List.mem_append_right _ (List.mem_append_left _ (List.mem_of_getElem? (i := 116) rfl)))) rfl, big_of (List.mem_append_right _ (List.mem_append_left _ (List.mem_of_getElem? (i := 6) rfl))) rfl, by decide +kernel⟩
theorem mc_X0_countMoves : MCd yX0_countMoves cX0_countMoves 4 (some .boolean) 1 := ⟨big_of (List.mem_append_right _ (List.mem_append_right _ (List.mem_append_left _ (List.mem_of_getElem? (i := 120) rfl)))) rfl, big_of (List.mem_append_right _ (List.mem_append_left _ (List.mem_of_getElem? (i := 6) rfl))) rfl, by decide +kernel⟩
theorem mc_X0_lowestMoved : MCd yX0_lowestMoved cX0_lowestMoved 4 (some .int) 2 := ⟨big_of (List.mem_append_right _ (List.mem_append_right _ (List.mem_append_left _ (List.mem_of_getElem? (i := 124) rfl)))) rfl, big_of (List.mem_append_right _ (List.mem_append_left _ (List.mem_of_getElem? (i := 6) rfl))) rfl, by decide +kernel⟩
theorem mc_X0_takePhoto : MCd yX0_takePhoto cX0_takePhoto 4 none 3 := ⟨big_of (List.mem_append_right _ (List.mem_append_right _ (List.mem_append_left _ (List.mem_of_getElem? (i := 128) rfl)))) rfl, big_of (List.mem_append_right _ (List.mem_append_left _ (List.mem_of_getElem? (i := 6) rfl))) rfl, by decide +kernel⟩
theorem mc_X3_momentOf : MCd yX3_momentOf cX3_momentOf 4 (some .int) 2 := ⟨big_of (List.mem_append_right _ (List.mem_append_right _ (List.mem_append_left _ (List.mem_of_getElem? (i := 133) rfl)))) rfl, big_of (List.mem_append_right _ (List.mem_append_left _ (List.mem_of_getElem? (i := 5) rfl))) rfl, by decide +kernel⟩
theorem mc_X3_wereAs : MCd yX3_wereAs cX3_wereAs 3 (some .boolean) 1 := ⟨big_of (List.mem_append_right _ (List.mem_append_right _ (List.mem_append_left _ (List.mem_of_getElem? (i := 138) rfl)))) rfl, big_of (List.mem_append_right _ (List.mem_append_left _ (List.mem_of_getElem? (i := 5) rfl))) rfl, by decide +kernel⟩
theorem mc_X1_add : MCd yX1_add cX1_add 6 none 4 := ⟨big_of (List.mem_append_right _ (List.mem_append_right _ (List.mem_append_left _ (List.mem_of_getElem? (i := 142) rfl)))) rfl, big_of (List.mem_append_right _ (List.mem_append_left _ (List.mem_of_getElem? (i := 4) rfl))) rfl, by decide +kernel⟩
theorem mc_X5_undo : MCd yX5_undo cX5_undo 1 (some .int) 0 := ⟨big_of (List.mem_append_right _ (List.mem_append_right _ (List.mem_append_left _ (List.mem_of_getElem? (i := 146) rfl)))) rfl, big_of (List.mem_append_right _ (List.mem_append_left _ (List.mem_of_getElem? (i := 1) rfl))) rfl, by decide +kernel⟩
theorem mc_X5_cell : MCd yX5_cell cX5_cell 3 (some .int) 2 := ⟨big_of (List.mem_append_right _ (List.mem_append_right _ (List.mem_append_left _ (List.mem_of_getElem? (i := 150) rfl)))) rfl, big_of (List.mem_append_right _ (List.mem_append_left _ (List.mem_of_getElem? (i := 1) rfl))) rfl, by decide +kernel⟩
theorem mc_X5_writer : MCd yX5_writer cX5_writer 4 (some .int) 2 := ⟨big_of (List.mem_append_right _ (List.mem_append_right _ (List.mem_append_left _ (List.mem_of_getElem? (i := 154) rfl)))) rfl, big_of (List.mem_append_right _ (List.mem_append_left _ (List.mem_of_getElem? (i := 1) rfl))) rfl, by decide +kernel⟩
theorem mc_X0_isReading : MCd yX0_isReading cX0_isReading 1 (some .boolean) 0 := ⟨big_of (List.mem_append_right _ (List.mem_append_right _ (List.mem_append_left _ (List.mem_of_getElem? (i := 158) rfl)))) rfl, big_of (List.mem_append_right _ (List.mem_append_left _ (List.mem_of_getElem? (i := 6) rfl))) rfl, by decide +kernel⟩
theorem mc_X5_read : MCd yX5_read cX5_read 5 (some .int) 3 := ⟨big_of (List.mem_append_right _ (List.mem_append_right _ (List.mem_append_left _ (List.mem_of_getElem? (i := 162) rfl)))) rfl, big_of (List.mem_append_right _ (List.mem_append_left _ (List.mem_of_getElem? (i := 1) rfl))) rfl, by decide +kernel⟩
theorem mc_X5_photo : MCd yX5_photo cX5_photo 3 (some .int) 2 := ⟨big_of (List.mem_append_right _ (List.mem_append_right _ (List.mem_append_left _ (List.mem_of_getElem? (i := 166) rfl)))) rfl, big_of (List.mem_append_right _ (List.mem_append_left _ (List.mem_of_getElem? (i := 1) rfl))) rfl, by decide +kernel⟩
theorem mc_X1_fact : MCd yX1_fact cX1_fact 3 (some .int) 2 := ⟨big_of (List.mem_append_right _ (List.mem_append_right _ (List.mem_append_left _ (List.mem_of_getElem? (i := 170) rfl)))) rfl, big_of (List.mem_append_right _ (List.mem_append_left _ (List.mem_of_getElem? (i := 4) rfl))) rfl, by decide +kernel⟩
theorem mc_X5_lone : MCd yX5_lone cX5_lone 2 (some .int) 1 := ⟨big_of (List.mem_append_right _ (List.mem_append_right _ (List.mem_append_left _ (List.mem_of_getElem? (i := 174) rfl)))) rfl, big_of (List.mem_append_right _ (List.mem_append_left _ (List.mem_of_getElem? (i := 1) rfl))) rfl, by decide +kernel⟩
theorem mc_X5_byTurns : MCd yX5_byTurns cX5_byTurns 4 (some .int) 0 := ⟨big_of (List.mem_append_right _ (List.mem_append_right _ (List.mem_append_left _ (List.mem_of_getElem? (i := 178) rfl)))) rfl, big_of (List.mem_append_right _ (List.mem_append_left _ (List.mem_of_getElem? (i := 1) rfl))) rfl, by decide +kernel⟩
theorem mc_X4_allIdle : MCd yX4_allIdle cX4_allIdle 2 (some .boolean) 0 := ⟨big_of (List.mem_append_right _ (List.mem_append_right _ (List.mem_append_left _ (List.mem_of_getElem? (i := 182) rfl)))) rfl, big_of (List.mem_append_right _ (List.mem_append_left _ (List.mem_of_getElem? (i := 2) rfl))) rfl, by decide +kernel⟩
theorem mc_X5_reads : MCd yX5_reads cX5_reads 3 (some .int) 2 := ⟨big_of (List.mem_append_right _ (List.mem_append_right _ (List.mem_append_left _ (List.mem_of_getElem? (i := 186) rfl)))) rfl, big_of (List.mem_append_right _ (List.mem_append_left _ (List.mem_of_getElem? (i := 1) rfl))) rfl, by decide +kernel⟩
theorem mc_X1_countWith : MCd yX1_countWith cX1_countWith 5 (some .int) 2 := ⟨big_of (List.mem_append_right _ (List.mem_append_right _ (List.mem_append_left _ (List.mem_of_getElem? (i := 190) rfl)))) rfl, big_of (List.mem_append_right _ (List.mem_append_left _ (List.mem_of_getElem? (i := 4) rfl))) rfl, by decide +kernel⟩
theorem mc_X1_leastReadsAbove : MCd yX1_leastReadsAbove cX1_leastReadsAbove 5 (some .int) 1 := ⟨big_of (List.mem_append_right _ (List.mem_append_right _ (List.mem_append_left _ (List.mem_of_getElem? (i := 195) rfl)))) rfl, big_of (List.mem_append_right _ (List.mem_append_left _ (List.mem_of_getElem? (i := 4) rfl))) rfl, by decide +kernel⟩
theorem mc_X1_greatestReadsBelow : MCd yX1_greatestReadsBelow cX1_greatestReadsBelow 5 (some .int) 1 := ⟨big_of (List.mem_append_right _ (List.mem_append_right _ (List.mem_append_left _ (List.mem_of_getElem? (i := 199) rfl)))) rfl, big_of (List.mem_append_right _ (List.mem_append_left _ (List.mem_of_getElem? (i := 4) rfl))) rfl, by decide +kernel⟩
theorem mc_X5_trial : MCd yX5_trial cX5_trial 4 (some .int) 3 := ⟨big_of (List.mem_append_right _ (List.mem_append_right _ (List.mem_append_left _ (List.mem_of_getElem? (i := 203) rfl)))) rfl, big_of (List.mem_append_right _ (List.mem_append_left _ (List.mem_of_getElem? (i := 1) rfl))) rfl, by decide +kernel⟩
theorem mc_X5_isPace : MCd yX5_isPace cX5_isPace 1 (some .boolean) 1 := ⟨big_of (List.mem_append_right _ (List.mem_append_right _ (List.mem_append_left _ (List.mem_of_getElem? (i := 206) rfl)))) rfl, big_of (List.mem_append_right _ (List.mem_append_left _ (List.mem_of_getElem? (i := 1) rfl))) rfl, by decide +kernel⟩
theorem mc_X5_readsOfTrial : MCd yX5_readsOfTrial cX5_readsOfTrial 8 (some .int) 3 := ⟨big_of (List.mem_append_right _ (List.mem_append_right _ (List.mem_append_left _ (List.mem_of_getElem? (i := 210) rfl)))) rfl, big_of (List.mem_append_right _ (List.mem_append_left _ (List.mem_of_getElem? (i := 1) rfl))) rfl, by decide +kernel⟩
theorem mc_X5_sees : MCd yX5_sees cX5_sees 4 (some .int) 3 := ⟨big_of (List.mem_append_right _ (List.mem_append_right _ (List.mem_append_left _ (List.mem_of_getElem? (i := 215) rfl)))) rfl, big_of (List.mem_append_right _ (List.mem_append_left _ (List.mem_of_getElem? (i := 1) rfl))) rfl, by decide +kernel⟩
theorem mc_X5_forget : MCd yX5_forget cX5_forget 2 (some .int) 0 := ⟨big_of (List.mem_append_right _ (List.mem_append_right _ (List.mem_append_left _ (List.mem_of_getElem? (i := 219) rfl)))) rfl, big_of (List.mem_append_right _ (List.mem_append_left _ (List.mem_of_getElem? (i := 1) rfl))) rfl, by decide +kernel⟩
theorem mc_X5_which : MCd yX5_which cX5_which 1 (some .int) 0 := ⟨big_of (List.mem_append_right _ (List.mem_append_right _ (List.mem_append_left _ (List.mem_of_getElem? (i := 223) rfl)))) rfl, big_of (List.mem_append_right _ (List.mem_append_left _ (List.mem_of_getElem? (i := 1) rfl))) rfl, by decide +kernel⟩
theorem mc_X5_movesThatFit : MCd yX5_movesThatFit cX5_movesThatFit 3 (some .int) 0 := ⟨big_of (List.mem_append_right _ (List.mem_append_right _ (List.mem_append_left _ (List.mem_of_getElem? (i := 227) rfl)))) rfl, big_of (List.mem_append_right _ (List.mem_append_left _ (List.mem_of_getElem? (i := 1) rfl))) rfl, by decide +kernel⟩
theorem mc_X5_fitsAllSeen : MCd yX5_fitsAllSeen cX5_fitsAllSeen 3 (some .boolean) 1 := ⟨big_of (List.mem_append_right _ (List.mem_append_right _ (List.mem_append_left _ (List.mem_of_getElem? (i := 231) rfl)))) rfl, big_of (List.mem_append_right _ (List.mem_append_left _ (List.mem_of_getElem? (i := 1) rfl))) rfl, by decide +kernel⟩
theorem mc_X5_ask : MCd yX5_ask cX5_ask 7 (some .int) 0 := ⟨big_of (List.mem_append_right _ (List.mem_append_right _ (List.mem_append_left _ (List.mem_of_getElem? (i := 235) rfl)))) rfl, big_of (List.mem_append_right _ (List.mem_append_left _ (List.mem_of_getElem? (i := 1) rfl))) rfl, by decide +kernel⟩
theorem mc_J6_bitCount_0f7a4 : MCd yJ6_bitCount_0f7a4 cJ6_bitCount_0f7a4 1 (some .int) 1 := ⟨big_of (List.mem_append_right _ (List.mem_append_right _ (List.mem_append_left _ (List.mem_of_getElem? (i := 238) rfl)))) rfl, big_of (List.mem_append_right _ (List.mem_append_left _ (List.mem_of_getElem? (i := 11) rfl))) rfl, by decide +kernel⟩
theorem mc_X5_mostAlike : MCd yX5_mostAlike cX5_mostAlike 6 (some .int) 3 := ⟨big_of (List.mem_append_right _ (List.mem_append_right _ (List.mem_append_right _ (List.mem_of_getElem? (i := 5) rfl)))) rfl, big_of (List.mem_append_right _ (List.mem_append_left _ (List.mem_of_getElem? (i := 1) rfl))) rfl, by decide +kernel⟩
theorem mc_X5_isIn : MCd yX5_isIn cX5_isIn 2 (some .boolean) 2 := ⟨big_of (List.mem_append_right _ (List.mem_append_right _ (List.mem_append_right _ (List.mem_of_getElem? (i := 8) rfl)))) rfl, big_of (List.mem_append_right _ (List.mem_append_left _ (List.mem_of_getElem? (i := 1) rfl))) rfl, by decide +kernel⟩
theorem mc_X5_countAlike : MCd yX5_countAlike cX5_countAlike 4 (some .int) 1 := ⟨big_of (List.mem_append_right _ (List.mem_append_right _ (List.mem_append_right _ (List.mem_of_getElem? (i := 12) rfl)))) rfl, big_of (List.mem_append_right _ (List.mem_append_left _ (List.mem_of_getElem? (i := 1) rfl))) rfl, by decide +kernel⟩
theorem mc_J9_max_7cf53 : MCd yJ9_max_7cf53 cJ9_max_7cf53 2 (some .int) 2 := ⟨big_of (List.mem_append_right _ (List.mem_append_right _ (List.mem_append_right _ (List.mem_of_getElem? (i := 15) rfl)))) rfl, big_of (List.mem_append_right _ (List.mem_append_left _ (List.mem_of_getElem? (i := 9) rfl))) rfl, by decide +kernel⟩
theorem mc_X5_keep : MCd yX5_keep cX5_keep 2 (some .int) 1 := ⟨big_of (List.mem_append_right _ (List.mem_append_right _ (List.mem_append_right _ (List.mem_of_getElem? (i := 19) rfl)))) rfl, big_of (List.mem_append_right _ (List.mem_append_left _ (List.mem_of_getElem? (i := 1) rfl))) rfl, by decide +kernel⟩
theorem mc_X5_back : MCd yX5_back cX5_back 2 (some .int) 1 := ⟨big_of (List.mem_append_right _ (List.mem_append_right _ (List.mem_append_right _ (List.mem_of_getElem? (i := 23) rfl)))) rfl, big_of (List.mem_append_right _ (List.mem_append_left _ (List.mem_of_getElem? (i := 1) rfl))) rfl, by decide +kernel⟩
theorem mc_X5_count : MCd yX5_count cX5_count 2 (some .int) 1 := ⟨big_of (List.mem_append_right _ (List.mem_append_right _ (List.mem_append_right _ (List.mem_of_getElem? (i := 27) rfl)))) rfl, big_of (List.mem_append_right _ (List.mem_append_left _ (List.mem_of_getElem? (i := 1) rfl))) rfl, by decide +kernel⟩
theorem mc_X4_idleBits : MCd yX4_idleBits cX4_idleBits 3 (some .int) 0 := ⟨big_of (List.mem_append_right _ (List.mem_append_right _ (List.mem_append_right _ (List.mem_of_getElem? (i := 31) rfl)))) rfl, big_of (List.mem_append_right _ (List.mem_append_left _ (List.mem_of_getElem? (i := 2) rfl))) rfl, by decide +kernel⟩
theorem mc_X6_init : MCd yX6_init cX6_init 1 none 0 := ⟨big_of (List.mem_append_right _ (List.mem_append_right _ (List.mem_append_right _ (List.mem_of_getElem? (i := 36) rfl)))) rfl, big_of (List.mem_append_right _ (List.mem_append_left _ (List.mem_of_getElem? (i := 8) rfl))) rfl, by decide +kernel⟩
theorem mc_X6_bares : MCd yX6_bares cX6_bares 5 none 4 := ⟨big_of (List.mem_append_right _ (List.mem_append_right _ (List.mem_append_right _ (List.mem_of_getElem? (i := 40) rfl)))) rfl, big_of (List.mem_append_right _ (List.mem_append_left _ (List.mem_of_getElem? (i := 8) rfl))) rfl, by decide +kernel⟩
theorem mc_X6_begins : MCd yX6_begins cX6_begins 4 (some .int) 3 := ⟨big_of (List.mem_append_right _ (List.mem_append_right _ (List.mem_append_right _ (List.mem_of_getElem? (i := 75) rfl)))) rfl, big_of (List.mem_append_right _ (List.mem_append_left _ (List.mem_of_getElem? (i := 8) rfl))) rfl, by decide +kernel⟩
theorem mc_X6_in : MCd yX6_in cX6_in 3 (some .boolean) 3 := ⟨big_of (List.mem_append_right _ (List.mem_append_right _ (List.mem_append_right _ (List.mem_of_getElem? (i := 78) rfl)))) rfl, big_of (List.mem_append_right _ (List.mem_append_left _ (List.mem_of_getElem? (i := 8) rfl))) rfl, by decide +kernel⟩
theorem mc_X6_notes : MCd yX6_notes cX6_notes 2 none 0 := ⟨big_of (List.mem_append_right _ (List.mem_append_right _ (List.mem_append_right _ (List.mem_of_getElem? (i := 82) rfl)))) rfl, big_of (List.mem_append_right _ (List.mem_append_left _ (List.mem_of_getElem? (i := 8) rfl))) rfl, by decide +kernel⟩
theorem mc_X6_scans : MCd yX6_scans cX6_scans 2 (some .int) 1 := ⟨big_of (List.mem_append_right _ (List.mem_append_right _ (List.mem_append_right _ (List.mem_of_getElem? (i := 86) rfl)))) rfl, big_of (List.mem_append_right _ (List.mem_append_left _ (List.mem_of_getElem? (i := 8) rfl))) rfl, by decide +kernel⟩
theorem mc_X6_isWriter : MCd yX6_isWriter cX6_isWriter 2 (some .boolean) 1 := ⟨big_of (List.mem_append_right _ (List.mem_append_right _ (List.mem_append_right _ (List.mem_of_getElem? (i := 90) rfl)))) rfl, big_of (List.mem_append_right _ (List.mem_append_left _ (List.mem_of_getElem? (i := 8) rfl))) rfl, by decide +kernel⟩
theorem mc_X6_begun : MCd yX6_begun cX6_begun 4 (some .int) 3 := ⟨big_of (List.mem_append_right _ (List.mem_append_right _ (List.mem_append_right _ (List.mem_of_getElem? (i := 94) rfl)))) rfl, big_of (List.mem_append_right _ (List.mem_append_left _ (List.mem_of_getElem? (i := 8) rfl))) rfl, by decide +kernel⟩
theorem mc_X6_isIdle : MCd yX6_isIdle cX6_isIdle 2 (some .boolean) 1 := ⟨big_of (List.mem_append_right _ (List.mem_append_right _ (List.mem_append_right _ (List.mem_of_getElem? (i := 98) rfl)))) rfl, big_of (List.mem_append_right _ (List.mem_append_left _ (List.mem_of_getElem? (i := 8) rfl))) rfl, by decide +kernel⟩
theorem mc_X6_writerAt : MCd yX6_writerAt cX6_writerAt 1 (some .int) 1 := ⟨big_of (List.mem_append_right _ (List.mem_append_right _ (List.mem_append_right _ (List.mem_of_getElem? (i := 101) rfl)))) rfl, big_of (List.mem_append_right _ (List.mem_append_left _ (List.mem_of_getElem? (i := 8) rfl))) rfl, by decide +kernel⟩
theorem mc_X6_acts : MCd yX6_acts cX6_acts 5 none 4 := ⟨big_of (List.mem_append_right _ (List.mem_append_right _ (List.mem_append_right _ (List.mem_of_getElem? (i := 104) rfl)))) rfl, big_of (List.mem_append_right _ (List.mem_append_left _ (List.mem_of_getElem? (i := 8) rfl))) rfl, by decide +kernel⟩
theorem mc_X6_idles : MCd yX6_idles cX6_idles 3 none 2 := ⟨big_of (List.mem_append_right _ (List.mem_append_right _ (List.mem_append_right _ (List.mem_of_getElem? (i := 107) rfl)))) rfl, big_of (List.mem_append_right _ (List.mem_append_left _ (List.mem_of_getElem? (i := 8) rfl))) rfl, by decide +kernel⟩
theorem mc_X6_writes : MCd yX6_writes cX6_writes 3 (some .int) 2 := ⟨big_of (List.mem_append_right _ (List.mem_append_right _ (List.mem_append_right _ (List.mem_of_getElem? (i := 111) rfl)))) rfl, big_of (List.mem_append_right _ (List.mem_append_left _ (List.mem_of_getElem? (i := 8) rfl))) rfl, by decide +kernel⟩
theorem mc_X6_steps : MCd yX6_steps cX6_steps 4 (some .int) 2 := ⟨big_of (List.mem_append_right _ (List.mem_append_right _ (List.mem_append_right _ (List.mem_of_getElem? (i := 115) rfl)))) rfl, big_of (List.mem_append_right _ (List.mem_append_left _ (List.mem_of_getElem? (i := 8) rfl))) rfl, by decide +kernel⟩
theorem mc_X6_step : MCd yX6_step cX6_step 6 none 2 := ⟨big_of (List.mem_append_right _ (List.mem_append_right _ (List.mem_append_right _ (List.mem_of_getElem? (i := 118) rfl)))) rfl, big_of (List.mem_append_right _ (List.mem_append_left _ (List.mem_of_getElem? (i := 8) rfl))) rfl, by decide +kernel⟩
theorem mc_X6_writesNow : MCd yX6_writesNow cX6_writesNow 5 none 2 := ⟨big_of (List.mem_append_right _ (List.mem_append_right _ (List.mem_append_right _ (List.mem_of_getElem? (i := 121) rfl)))) rfl, big_of (List.mem_append_right _ (List.mem_append_left _ (List.mem_of_getElem? (i := 8) rfl))) rfl, by decide +kernel⟩
theorem mc_X6_cellAt : MCd yX6_cellAt cX6_cellAt 1 (some .int) 1 := ⟨big_of (List.mem_append_right _ (List.mem_append_right _ (List.mem_append_right _ (List.mem_of_getElem? (i := 124) rfl)))) rfl, big_of (List.mem_append_right _ (List.mem_append_left _ (List.mem_of_getElem? (i := 8) rfl))) rfl, by decide +kernel⟩
theorem mc_X6_counts : MCd yX6_counts cX6_counts 6 (some .boolean) 2 := ⟨big_of (List.mem_append_right _ (List.mem_append_right _ (List.mem_append_right _ (List.mem_of_getElem? (i := 127) rfl)))) rfl, big_of (List.mem_append_right _ (List.mem_append_left _ (List.mem_of_getElem? (i := 8) rfl))) rfl, by decide +kernel⟩
theorem mc_X6_lender : MCd yX6_lender cX6_lender 4 (some .int) 2 := ⟨big_of (List.mem_append_right _ (List.mem_append_right _ (List.mem_append_right _ (List.mem_of_getElem? (i := 130) rfl)))) rfl, big_of (List.mem_append_right _ (List.mem_append_left _ (List.mem_of_getElem? (i := 8) rfl))) rfl, by decide +kernel⟩
theorem mc_X6_takes : MCd yX6_takes cX6_takes 6 none 3 := ⟨big_of (List.mem_append_right _ (List.mem_append_right _ (List.mem_append_right _ (List.mem_of_getElem? (i := 133) rfl)))) rfl, big_of (List.mem_append_right _ (List.mem_append_left _ (List.mem_of_getElem? (i := 8) rfl))) rfl, by decide +kernel⟩
theorem mc_X6_undo : MCd yX6_undo cX6_undo 2 (some .int) 0 := ⟨big_of (List.mem_append_right _ (List.mem_append_right _ (List.mem_append_right _ (List.mem_of_getElem? (i := 137) rfl)))) rfl, big_of (List.mem_append_right _ (List.mem_append_left _ (List.mem_of_getElem? (i := 8) rfl))) rfl, by decide +kernel⟩
theorem mc_X6_cell : MCd yX6_cell cX6_cell 3 (some .int) 2 := ⟨big_of (List.mem_append_right _ (List.mem_append_right _ (List.mem_append_right _ (List.mem_of_getElem? (i := 141) rfl)))) rfl, big_of (List.mem_append_right _ (List.mem_append_left _ (List.mem_of_getElem? (i := 8) rfl))) rfl, by decide +kernel⟩
theorem mc_X6_isCell : MCd yX6_isCell cX6_isCell 2 (some .boolean) 1 := ⟨big_of (List.mem_append_right _ (List.mem_append_right _ (List.mem_append_right _ (List.mem_of_getElem? (i := 145) rfl)))) rfl, big_of (List.mem_append_right _ (List.mem_append_left _ (List.mem_of_getElem? (i := 8) rfl))) rfl, by decide +kernel⟩
theorem mc_X6_writer : MCd yX6_writer cX6_writer 5 (some .int) 2 := ⟨big_of (List.mem_append_right _ (List.mem_append_right _ (List.mem_append_right _ (List.mem_of_getElem? (i := 149) rfl)))) rfl, big_of (List.mem_append_right _ (List.mem_append_left _ (List.mem_of_getElem? (i := 8) rfl))) rfl, by decide +kernel⟩
theorem mc_X6_read : MCd yX6_read cX6_read 6 (some .int) 3 := ⟨big_of (List.mem_append_right _ (List.mem_append_right _ (List.mem_append_right _ (List.mem_of_getElem? (i := 153) rfl)))) rfl, big_of (List.mem_append_right _ (List.mem_append_left _ (List.mem_of_getElem? (i := 8) rfl))) rfl, by decide +kernel⟩
theorem mc_X6_photo : MCd yX6_photo cX6_photo 3 (some .int) 2 := ⟨big_of (List.mem_append_right _ (List.mem_append_right _ (List.mem_append_right _ (List.mem_of_getElem? (i := 157) rfl)))) rfl, big_of (List.mem_append_right _ (List.mem_append_left _ (List.mem_of_getElem? (i := 8) rfl))) rfl, by decide +kernel⟩
theorem mc_X6_momentOf : MCd yX6_momentOf cX6_momentOf 6 (some .int) 1 := ⟨big_of (List.mem_append_right _ (List.mem_append_right _ (List.mem_append_right _ (List.mem_of_getElem? (i := 161) rfl)))) rfl, big_of (List.mem_append_right _ (List.mem_append_left _ (List.mem_of_getElem? (i := 8) rfl))) rfl, by decide +kernel⟩
theorem mc_X6_valueAt : MCd yX6_valueAt cX6_valueAt 6 (some .int) 2 := ⟨big_of (List.mem_append_right _ (List.mem_append_right _ (List.mem_append_right _ (List.mem_of_getElem? (i := 165) rfl)))) rfl, big_of (List.mem_append_right _ (List.mem_append_left _ (List.mem_of_getElem? (i := 8) rfl))) rfl, by decide +kernel⟩
theorem mc_X6_lone : MCd yX6_lone cX6_lone 3 (some .int) 1 := ⟨big_of (List.mem_append_right _ (List.mem_append_right _ (List.mem_append_right _ (List.mem_of_getElem? (i := 169) rfl)))) rfl, big_of (List.mem_append_right _ (List.mem_append_left _ (List.mem_of_getElem? (i := 8) rfl))) rfl, by decide +kernel⟩
theorem mc_X6_asNow : MCd yX6_asNow cX6_asNow 2 none 0 := ⟨big_of (List.mem_append_right _ (List.mem_append_right _ (List.mem_append_right _ (List.mem_of_getElem? (i := 173) rfl)))) rfl, big_of (List.mem_append_right _ (List.mem_append_left _ (List.mem_of_getElem? (i := 8) rfl))) rfl, by decide +kernel⟩
theorem mc_X6_byTurns : MCd yX6_byTurns cX6_byTurns 4 (some .int) 0 := ⟨big_of (List.mem_append_right _ (List.mem_append_right _ (List.mem_append_right _ (List.mem_of_getElem? (i := 177) rfl)))) rfl, big_of (List.mem_append_right _ (List.mem_append_left _ (List.mem_of_getElem? (i := 8) rfl))) rfl, by decide +kernel⟩
theorem mc_X6_reads : MCd yX6_reads cX6_reads 8 (some .int) 2 := ⟨big_of (List.mem_append_right _ (List.mem_append_right _ (List.mem_append_right _ (List.mem_of_getElem? (i := 181) rfl)))) rfl, big_of (List.mem_append_right _ (List.mem_append_left _ (List.mem_of_getElem? (i := 8) rfl))) rfl, by decide +kernel⟩
theorem mc_X6_trial : MCd yX6_trial cX6_trial 4 (some .int) 3 := ⟨big_of (List.mem_append_right _ (List.mem_append_right _ (List.mem_append_right _ (List.mem_of_getElem? (i := 185) rfl)))) rfl, big_of (List.mem_append_right _ (List.mem_append_left _ (List.mem_of_getElem? (i := 8) rfl))) rfl, by decide +kernel⟩
theorem mc_X6_isTrial : MCd yX6_isTrial cX6_isTrial 2 (some .boolean) 2 := ⟨big_of (List.mem_append_right _ (List.mem_append_right _ (List.mem_append_right _ (List.mem_of_getElem? (i := 188) rfl)))) rfl, big_of (List.mem_append_right _ (List.mem_append_left _ (List.mem_of_getElem? (i := 8) rfl))) rfl, by decide +kernel⟩
theorem mc_X6_trialOf : MCd yX6_trialOf cX6_trialOf 7 (some .int) 3 := ⟨big_of (List.mem_append_right _ (List.mem_append_right _ (List.mem_append_right _ (List.mem_of_getElem? (i := 192) rfl)))) rfl, big_of (List.mem_append_right _ (List.mem_append_left _ (List.mem_of_getElem? (i := 8) rfl))) rfl, by decide +kernel⟩
theorem mc_X6_sees : MCd yX6_sees cX6_sees 4 (some .int) 3 := ⟨big_of (List.mem_append_right _ (List.mem_append_right _ (List.mem_append_right _ (List.mem_of_getElem? (i := 196) rfl)))) rfl, big_of (List.mem_append_right _ (List.mem_append_left _ (List.mem_of_getElem? (i := 8) rfl))) rfl, by decide +kernel⟩
theorem mc_X6_forget : MCd yX6_forget cX6_forget 2 (some .int) 0 := ⟨big_of (List.mem_append_right _ (List.mem_append_right _ (List.mem_append_right _ (List.mem_of_getElem? (i := 200) rfl)))) rfl, big_of (List.mem_append_right _ (List.mem_append_left _ (List.mem_of_getElem? (i := 8) rfl))) rfl, by decide +kernel⟩
theorem mc_X6_which : MCd yX6_which cX6_which 1 (some .int) 0 := ⟨big_of (List.mem_append_right _ (List.mem_append_right _ (List.mem_append_right _ (List.mem_of_getElem? (i := 204) rfl)))) rfl, big_of (List.mem_append_right _ (List.mem_append_left _ (List.mem_of_getElem? (i := 8) rfl))) rfl, by decide +kernel⟩
theorem mc_X6_movesSet : MCd yX6_movesSet cX6_movesSet 5 (some .int) 0 := ⟨big_of (List.mem_append_right _ (List.mem_append_right _ (List.mem_append_right _ (List.mem_of_getElem? (i := 208) rfl)))) rfl, big_of (List.mem_append_right _ (List.mem_append_left _ (List.mem_of_getElem? (i := 8) rfl))) rfl, by decide +kernel⟩
theorem mc_X6_ask : MCd yX6_ask cX6_ask 7 (some .int) 0 := ⟨big_of (List.mem_append_right _ (List.mem_append_right _ (List.mem_append_right _ (List.mem_of_getElem? (i := 212) rfl)))) rfl, big_of (List.mem_append_right _ (List.mem_append_left _ (List.mem_of_getElem? (i := 8) rfl))) rfl, by decide +kernel⟩
theorem mc_X6_mostAlike : MCd yX6_mostAlike cX6_mostAlike 8 (some .int) 3 := ⟨big_of (List.mem_append_right _ (List.mem_append_right _ (List.mem_append_right _ (List.mem_of_getElem? (i := 216) rfl)))) rfl, big_of (List.mem_append_right _ (List.mem_append_left _ (List.mem_of_getElem? (i := 8) rfl))) rfl, by decide +kernel⟩
theorem mc_X6_keep : MCd yX6_keep cX6_keep 3 (some .int) 1 := ⟨big_of (List.mem_append_right _ (List.mem_append_right _ (List.mem_append_right _ (List.mem_of_getElem? (i := 220) rfl)))) rfl, big_of (List.mem_append_right _ (List.mem_append_left _ (List.mem_of_getElem? (i := 8) rfl))) rfl, by decide +kernel⟩
theorem mc_X6_back : MCd yX6_back cX6_back 3 (some .int) 1 := ⟨big_of (List.mem_append_right _ (List.mem_append_right _ (List.mem_append_right _ (List.mem_of_getElem? (i := 224) rfl)))) rfl, big_of (List.mem_append_right _ (List.mem_append_left _ (List.mem_of_getElem? (i := 8) rfl))) rfl, by decide +kernel⟩
theorem mc_X6_count : MCd yX6_count cX6_count 2 (some .int) 1 := ⟨big_of (List.mem_append_right _ (List.mem_append_right _ (List.mem_append_right _ (List.mem_of_getElem? (i := 228) rfl)))) rfl, big_of (List.mem_append_right _ (List.mem_append_left _ (List.mem_of_getElem? (i := 8) rfl))) rfl, by decide +kernel⟩
theorem mc_X6_photosBy : MCd yX6_photosBy cX6_photosBy 4 (some .int) 1 := ⟨big_of (List.mem_append_right _ (List.mem_append_right _ (List.mem_append_right _ (List.mem_of_getElem? (i := 232) rfl)))) rfl, big_of (List.mem_append_right _ (List.mem_append_left _ (List.mem_of_getElem? (i := 8) rfl))) rfl, by decide +kernel⟩
theorem mc_X6_idleOnes : MCd yX6_idleOnes cX6_idleOnes 3 (some .int) 0 := ⟨big_of (List.mem_append_right _ (List.mem_append_right _ (List.mem_append_right _ (List.mem_of_getElem? (i := 236) rfl)))) rfl, big_of (List.mem_append_right _ (List.mem_append_left _ (List.mem_of_getElem? (i := 8) rfl))) rfl, by decide +kernel⟩
def VMd (y : MethodName) : Prop := Cond.instanceMethod y ∈ BIG ∧ Cond.selects y.cls y y ∈ BIG
theorem im_X5_init : Cond.instanceMethod yX5_init ∈ BIG := big_of (List.mem_append_right _ (List.mem_append_left _ (List.mem_of_getElem? (i := 15) rfl))) rfl
theorem im_X4_init : Cond.instanceMethod yX4_init ∈ BIG := big_of (List.mem_append_right _ (List.mem_append_left _ (List.mem_of_getElem? (i := 23) rfl))) rfl
theorem im_X2_init : Cond.instanceMethod yX2_init ∈ BIG := big_of (List.mem_append_right _ (List.mem_append_left _ (List.mem_of_getElem? (i := 29) rfl))) rfl
theorem im_X1_init : Cond.instanceMethod yX1_init ∈ BIG := big_of (List.mem_append_right _ (List.mem_append_left _ (List.mem_of_getElem? (i := 57) rfl))) rfl
theorem im_X3_init : Cond.instanceMethod yX3_init ∈ BIG := big_of (List.mem_append_right _ (List.mem_append_left _ (List.mem_of_getElem? (i := 72) rfl))) rfl
theorem im_X0_init : Cond.instanceMethod yX0_init ∈ BIG := big_of (List.mem_append_right _ (List.mem_append_left _ (List.mem_of_getElem? (i := 94) rfl))) rfl
theorem vm_X4_restart : VMd yX4_restart := ⟨big_of (List.mem_append_right _ (List.mem_append_left _ (List.mem_of_getElem? (i := 193) rfl))) rfl, big_of (List.mem_append_right _ (List.mem_append_left _ (List.mem_of_getElem? (i := 194) rfl))) rfl⟩
theorem vm_X2_clear : VMd yX2_clear := ⟨big_of (List.mem_append_right _ (List.mem_append_left _ (List.mem_of_getElem? (i := 197) rfl))) rfl, big_of (List.mem_append_right _ (List.mem_append_left _ (List.mem_of_getElem? (i := 198) rfl))) rfl⟩
theorem st_J7_fill_53178 : Cond.static yJ7_fill_53178 ∈ BIG := big_of (List.mem_append_right _ (List.mem_append_left _ (List.mem_of_getElem? (i := 201) rfl))) rfl
theorem vm_X0_become : VMd yX0_become := ⟨big_of (List.mem_append_right _ (List.mem_append_left _ (List.mem_of_getElem? (i := 204) rfl))) rfl, big_of (List.mem_append_right _ (List.mem_append_left _ (List.mem_of_getElem? (i := 205) rfl))) rfl⟩
theorem vm_X5_begins : VMd yX5_begins := ⟨big_of (List.mem_append_right _ (List.mem_append_right _ (List.mem_append_left _ (List.mem_of_getElem? (i := 8) rfl)))) rfl, big_of (List.mem_append_right _ (List.mem_append_right _ (List.mem_append_left _ (List.mem_of_getElem? (i := 9) rfl)))) rfl⟩
theorem st_X5_isWithin : Cond.static yX5_isWithin ∈ BIG := big_of (List.mem_append_right _ (List.mem_append_right _ (List.mem_append_left _ (List.mem_of_getElem? (i := 12) rfl)))) rfl
theorem st_X5_isWrap : Cond.static yX5_isWrap ∈ BIG := big_of (List.mem_append_right _ (List.mem_append_right _ (List.mem_append_left _ (List.mem_of_getElem? (i := 15) rfl)))) rfl
theorem vm_X5_remember : VMd yX5_remember := ⟨big_of (List.mem_append_right _ (List.mem_append_right _ (List.mem_append_left _ (List.mem_of_getElem? (i := 19) rfl)))) rfl, big_of (List.mem_append_left _ (List.mem_of_getElem? (i := 0) rfl)) rfl⟩
theorem vm_X4_copyFrom : VMd yX4_copyFrom := ⟨big_of (List.mem_append_right _ (List.mem_append_right _ (List.mem_append_left _ (List.mem_of_getElem? (i := 22) rfl)))) rfl, big_of (List.mem_append_right _ (List.mem_append_right _ (List.mem_append_left _ (List.mem_of_getElem? (i := 23) rfl)))) rfl⟩
theorem vm_X2_copyFrom : VMd yX2_copyFrom := ⟨big_of (List.mem_append_right _ (List.mem_append_right _ (List.mem_append_left _ (List.mem_of_getElem? (i := 26) rfl)))) rfl, big_of (List.mem_append_right _ (List.mem_append_right _ (List.mem_append_left _ (List.mem_of_getElem? (i := 27) rfl)))) rfl⟩
theorem st_X5_copyAll : Cond.static yX5_copyAll ∈ BIG := big_of (List.mem_append_right _ (List.mem_append_right _ (List.mem_append_left _ (List.mem_of_getElem? (i := 30) rfl)))) rfl
theorem st_J9_min_7cf53 : Cond.static yJ9_min_7cf53 ∈ BIG := big_of (List.mem_append_right _ (List.mem_append_right _ (List.mem_append_left _ (List.mem_of_getElem? (i := 33) rfl)))) rfl
theorem vm_X0_copyFrom : VMd yX0_copyFrom := ⟨big_of (List.mem_append_right _ (List.mem_append_right _ (List.mem_append_left _ (List.mem_of_getElem? (i := 39) rfl)))) rfl, big_of (List.mem_append_right _ (List.mem_append_right _ (List.mem_append_left _ (List.mem_of_getElem? (i := 40) rfl)))) rfl⟩
theorem vm_X1_copyFrom : VMd yX1_copyFrom := ⟨big_of (List.mem_append_right _ (List.mem_append_right _ (List.mem_append_left _ (List.mem_of_getElem? (i := 45) rfl)))) rfl, big_of (List.mem_append_right _ (List.mem_append_right _ (List.mem_append_left _ (List.mem_of_getElem? (i := 46) rfl)))) rfl⟩
theorem vm_X3_copyFrom : VMd yX3_copyFrom := ⟨big_of (List.mem_append_right _ (List.mem_append_right _ (List.mem_append_left _ (List.mem_of_getElem? (i := 50) rfl)))) rfl, big_of (List.mem_append_right _ (List.mem_append_right _ (List.mem_append_left _ (List.mem_of_getElem? (i := 51) rfl)))) rfl⟩
theorem vm_X5_scans : VMd yX5_scans := ⟨big_of (List.mem_append_right _ (List.mem_append_right _ (List.mem_append_left _ (List.mem_of_getElem? (i := 55) rfl)))) rfl, big_of (List.mem_append_right _ (List.mem_append_right _ (List.mem_append_left _ (List.mem_of_getElem? (i := 56) rfl)))) rfl⟩
theorem vm_X4_has : VMd yX4_has := ⟨big_of (List.mem_append_right _ (List.mem_append_right _ (List.mem_append_left _ (List.mem_of_getElem? (i := 59) rfl)))) rfl, big_of (List.mem_append_right _ (List.mem_append_right _ (List.mem_append_left _ (List.mem_of_getElem? (i := 60) rfl)))) rfl⟩
theorem vm_X5_beginAct : VMd yX5_beginAct := ⟨big_of (List.mem_append_right _ (List.mem_append_right _ (List.mem_append_left _ (List.mem_of_getElem? (i := 64) rfl)))) rfl, big_of (List.mem_append_left _ (List.mem_of_getElem? (i := 1) rfl)) rfl⟩
theorem vm_X4_isIdle : VMd yX4_isIdle := ⟨big_of (List.mem_append_right _ (List.mem_append_right _ (List.mem_append_left _ (List.mem_of_getElem? (i := 67) rfl)))) rfl, big_of (List.mem_append_right _ (List.mem_append_right _ (List.mem_append_left _ (List.mem_of_getElem? (i := 68) rfl)))) rfl⟩
theorem vm_X4_beginAct : VMd yX4_beginAct := ⟨big_of (List.mem_append_right _ (List.mem_append_right _ (List.mem_append_left _ (List.mem_of_getElem? (i := 71) rfl)))) rfl, big_of (List.mem_append_right _ (List.mem_append_right _ (List.mem_append_left _ (List.mem_of_getElem? (i := 72) rfl)))) rfl⟩
theorem vm_X5_writes : VMd yX5_writes := ⟨big_of (List.mem_append_right _ (List.mem_append_right _ (List.mem_append_left _ (List.mem_of_getElem? (i := 75) rfl)))) rfl, big_of (List.mem_append_right _ (List.mem_append_right _ (List.mem_append_left _ (List.mem_of_getElem? (i := 76) rfl)))) rfl⟩
theorem vm_X5_steps : VMd yX5_steps := ⟨big_of (List.mem_append_right _ (List.mem_append_right _ (List.mem_append_left _ (List.mem_of_getElem? (i := 79) rfl)))) rfl, big_of (List.mem_append_right _ (List.mem_append_right _ (List.mem_append_left _ (List.mem_of_getElem? (i := 80) rfl)))) rfl⟩
theorem vm_X4_stepUpTo : VMd yX4_stepUpTo := ⟨big_of (List.mem_append_right _ (List.mem_append_right _ (List.mem_append_left _ (List.mem_of_getElem? (i := 83) rfl)))) rfl, big_of (List.mem_append_right _ (List.mem_append_right _ (List.mem_append_left _ (List.mem_of_getElem? (i := 84) rfl)))) rfl⟩
theorem vm_X4_stepOnce : VMd yX4_stepOnce := ⟨big_of (List.mem_append_right _ (List.mem_append_right _ (List.mem_append_left _ (List.mem_of_getElem? (i := 88) rfl)))) rfl, big_of (List.mem_append_right _ (List.mem_append_right _ (List.mem_append_left _ (List.mem_of_getElem? (i := 89) rfl)))) rfl⟩
theorem vm_X4_writeOut : VMd yX4_writeOut := ⟨big_of (List.mem_append_right _ (List.mem_append_right _ (List.mem_append_left _ (List.mem_of_getElem? (i := 93) rfl)))) rfl, big_of (List.mem_append_left _ (List.mem_of_getElem? (i := 2) rfl)) rfl⟩
theorem vm_X4_versionBehind : VMd yX4_versionBehind := ⟨big_of (List.mem_append_right _ (List.mem_append_right _ (List.mem_append_left _ (List.mem_of_getElem? (i := 97) rfl)))) rfl, big_of (List.mem_append_left _ (List.mem_of_getElem? (i := 3) rfl)) rfl⟩
theorem vm_X3_add : VMd yX3_add := ⟨big_of (List.mem_append_right _ (List.mem_append_right _ (List.mem_append_left _ (List.mem_of_getElem? (i := 101) rfl)))) rfl, big_of (List.mem_append_right _ (List.mem_append_right _ (List.mem_append_left _ (List.mem_of_getElem? (i := 102) rfl)))) rfl⟩
theorem vm_X0_readOne : VMd yX0_readOne := ⟨big_of (List.mem_append_right _ (List.mem_append_right _ (List.mem_append_left _ (List.mem_of_getElem? (i := 105) rfl)))) rfl, big_of (List.mem_append_right _ (List.mem_append_right _ (List.mem_append_left _ (List.mem_of_getElem? (i := 106) rfl)))) rfl⟩
theorem vm_X2_copyOne : VMd yX2_copyOne := ⟨big_of (List.mem_append_right _ (List.mem_append_right _ (List.mem_append_left _ (List.mem_of_getElem? (i := 109) rfl)))) rfl, big_of (List.mem_append_right _ (List.mem_append_right _ (List.mem_append_left _ (List.mem_of_getElem? (i := 110) rfl)))) rfl⟩
theorem vm_X0_endCollect : VMd yX0_endCollect := ⟨big_of (List.mem_append_right _ (List.mem_append_right _ (List.mem_append_left _ (List.mem_of_getElem? (i := 114) rfl)))) rfl, big_of (List.mem_append_right _ (List.mem_append_right _ (List.mem_append_left _ (List.mem_of_getElem? (i := 115) rfl)))) rfl⟩
theorem vm_X0_countMoves : VMd yX0_countMoves := ⟨big_of (List.mem_append_right _ (List.mem_append_right _ (List.mem_append_left _ (List.mem_of_getElem? (i := 119) rfl)))) rfl, big_of (List.mem_append_left _ (List.mem_of_getElem? (i := 4) rfl)) rfl⟩
theorem vm_X0_lowestMoved : VMd yX0_lowestMoved := ⟨big_of (List.mem_append_right _ (List.mem_append_right _ (List.mem_append_left _ (List.mem_of_getElem? (i := 123) rfl)))) rfl, big_of (List.mem_append_left _ (List.mem_of_getElem? (i := 5) rfl)) rfl⟩
theorem vm_X0_takePhoto : VMd yX0_takePhoto := ⟨big_of (List.mem_append_right _ (List.mem_append_right _ (List.mem_append_left _ (List.mem_of_getElem? (i := 127) rfl)))) rfl, big_of (List.mem_append_left _ (List.mem_of_getElem? (i := 6) rfl)) rfl⟩
theorem vm_X3_momentOf : VMd yX3_momentOf := ⟨big_of (List.mem_append_right _ (List.mem_append_right _ (List.mem_append_left _ (List.mem_of_getElem? (i := 131) rfl)))) rfl, big_of (List.mem_append_right _ (List.mem_append_right _ (List.mem_append_left _ (List.mem_of_getElem? (i := 132) rfl)))) rfl⟩
theorem vm_X3_wereAs : VMd yX3_wereAs := ⟨big_of (List.mem_append_right _ (List.mem_append_right _ (List.mem_append_left _ (List.mem_of_getElem? (i := 137) rfl)))) rfl, big_of (List.mem_append_left _ (List.mem_of_getElem? (i := 7) rfl)) rfl⟩
theorem vm_X1_add : VMd yX1_add := ⟨big_of (List.mem_append_right _ (List.mem_append_right _ (List.mem_append_left _ (List.mem_of_getElem? (i := 140) rfl)))) rfl, big_of (List.mem_append_right _ (List.mem_append_right _ (List.mem_append_left _ (List.mem_of_getElem? (i := 141) rfl)))) rfl⟩
theorem vm_X5_undo : VMd yX5_undo := ⟨big_of (List.mem_append_right _ (List.mem_append_right _ (List.mem_append_left _ (List.mem_of_getElem? (i := 144) rfl)))) rfl, big_of (List.mem_append_right _ (List.mem_append_right _ (List.mem_append_left _ (List.mem_of_getElem? (i := 145) rfl)))) rfl⟩
theorem vm_X5_cell : VMd yX5_cell := ⟨big_of (List.mem_append_right _ (List.mem_append_right _ (List.mem_append_left _ (List.mem_of_getElem? (i := 148) rfl)))) rfl, big_of (List.mem_append_right _ (List.mem_append_right _ (List.mem_append_left _ (List.mem_of_getElem? (i := 149) rfl)))) rfl⟩
theorem vm_X5_writer : VMd yX5_writer := ⟨big_of (List.mem_append_right _ (List.mem_append_right _ (List.mem_append_left _ (List.mem_of_getElem? (i := 152) rfl)))) rfl, big_of (List.mem_append_right _ (List.mem_append_right _ (List.mem_append_left _ (List.mem_of_getElem? (i := 153) rfl)))) rfl⟩
theorem vm_X0_isReading : VMd yX0_isReading := ⟨big_of (List.mem_append_right _ (List.mem_append_right _ (List.mem_append_left _ (List.mem_of_getElem? (i := 156) rfl)))) rfl, big_of (List.mem_append_right _ (List.mem_append_right _ (List.mem_append_left _ (List.mem_of_getElem? (i := 157) rfl)))) rfl⟩
theorem vm_X5_read : VMd yX5_read := ⟨big_of (List.mem_append_right _ (List.mem_append_right _ (List.mem_append_left _ (List.mem_of_getElem? (i := 160) rfl)))) rfl, big_of (List.mem_append_right _ (List.mem_append_right _ (List.mem_append_left _ (List.mem_of_getElem? (i := 161) rfl)))) rfl⟩
theorem vm_X5_photo : VMd yX5_photo := ⟨big_of (List.mem_append_right _ (List.mem_append_right _ (List.mem_append_left _ (List.mem_of_getElem? (i := 164) rfl)))) rfl, big_of (List.mem_append_right _ (List.mem_append_right _ (List.mem_append_left _ (List.mem_of_getElem? (i := 165) rfl)))) rfl⟩
theorem vm_X1_fact : VMd yX1_fact := ⟨big_of (List.mem_append_right _ (List.mem_append_right _ (List.mem_append_left _ (List.mem_of_getElem? (i := 168) rfl)))) rfl, big_of (List.mem_append_right _ (List.mem_append_right _ (List.mem_append_left _ (List.mem_of_getElem? (i := 169) rfl)))) rfl⟩
theorem vm_X5_lone : VMd yX5_lone := ⟨big_of (List.mem_append_right _ (List.mem_append_right _ (List.mem_append_left _ (List.mem_of_getElem? (i := 172) rfl)))) rfl, big_of (List.mem_append_right _ (List.mem_append_right _ (List.mem_append_left _ (List.mem_of_getElem? (i := 173) rfl)))) rfl⟩
theorem vm_X5_byTurns : VMd yX5_byTurns := ⟨big_of (List.mem_append_right _ (List.mem_append_right _ (List.mem_append_left _ (List.mem_of_getElem? (i := 176) rfl)))) rfl, big_of (List.mem_append_right _ (List.mem_append_right _ (List.mem_append_left _ (List.mem_of_getElem? (i := 177) rfl)))) rfl⟩
theorem vm_X4_allIdle : VMd yX4_allIdle := ⟨big_of (List.mem_append_right _ (List.mem_append_right _ (List.mem_append_left _ (List.mem_of_getElem? (i := 180) rfl)))) rfl, big_of (List.mem_append_right _ (List.mem_append_right _ (List.mem_append_left _ (List.mem_of_getElem? (i := 181) rfl)))) rfl⟩
theorem vm_X5_reads : VMd yX5_reads := ⟨big_of (List.mem_append_right _ (List.mem_append_right _ (List.mem_append_left _ (List.mem_of_getElem? (i := 184) rfl)))) rfl, big_of (List.mem_append_right _ (List.mem_append_right _ (List.mem_append_left _ (List.mem_of_getElem? (i := 185) rfl)))) rfl⟩
theorem vm_X1_countWith : VMd yX1_countWith := ⟨big_of (List.mem_append_right _ (List.mem_append_right _ (List.mem_append_left _ (List.mem_of_getElem? (i := 188) rfl)))) rfl, big_of (List.mem_append_right _ (List.mem_append_right _ (List.mem_append_left _ (List.mem_of_getElem? (i := 189) rfl)))) rfl⟩
theorem vm_X1_leastReadsAbove : VMd yX1_leastReadsAbove := ⟨big_of (List.mem_append_right _ (List.mem_append_right _ (List.mem_append_left _ (List.mem_of_getElem? (i := 193) rfl)))) rfl, big_of (List.mem_append_right _ (List.mem_append_right _ (List.mem_append_left _ (List.mem_of_getElem? (i := 194) rfl)))) rfl⟩
theorem vm_X1_greatestReadsBelow : VMd yX1_greatestReadsBelow := ⟨big_of (List.mem_append_right _ (List.mem_append_right _ (List.mem_append_left _ (List.mem_of_getElem? (i := 197) rfl)))) rfl, big_of (List.mem_append_right _ (List.mem_append_right _ (List.mem_append_left _ (List.mem_of_getElem? (i := 198) rfl)))) rfl⟩
theorem vm_X5_trial : VMd yX5_trial := ⟨big_of (List.mem_append_right _ (List.mem_append_right _ (List.mem_append_left _ (List.mem_of_getElem? (i := 201) rfl)))) rfl, big_of (List.mem_append_right _ (List.mem_append_right _ (List.mem_append_left _ (List.mem_of_getElem? (i := 202) rfl)))) rfl⟩
theorem st_X5_isPace : Cond.static yX5_isPace ∈ BIG := big_of (List.mem_append_right _ (List.mem_append_right _ (List.mem_append_left _ (List.mem_of_getElem? (i := 205) rfl)))) rfl
theorem vm_X5_readsOfTrial : VMd yX5_readsOfTrial := ⟨big_of (List.mem_append_right _ (List.mem_append_right _ (List.mem_append_left _ (List.mem_of_getElem? (i := 209) rfl)))) rfl, big_of (List.mem_append_left _ (List.mem_of_getElem? (i := 8) rfl)) rfl⟩
theorem vm_X5_sees : VMd yX5_sees := ⟨big_of (List.mem_append_right _ (List.mem_append_right _ (List.mem_append_left _ (List.mem_of_getElem? (i := 213) rfl)))) rfl, big_of (List.mem_append_right _ (List.mem_append_right _ (List.mem_append_left _ (List.mem_of_getElem? (i := 214) rfl)))) rfl⟩
theorem vm_X5_forget : VMd yX5_forget := ⟨big_of (List.mem_append_right _ (List.mem_append_right _ (List.mem_append_left _ (List.mem_of_getElem? (i := 217) rfl)))) rfl, big_of (List.mem_append_right _ (List.mem_append_right _ (List.mem_append_left _ (List.mem_of_getElem? (i := 218) rfl)))) rfl⟩
theorem vm_X5_which : VMd yX5_which := ⟨big_of (List.mem_append_right _ (List.mem_append_right _ (List.mem_append_left _ (List.mem_of_getElem? (i := 221) rfl)))) rfl, big_of (List.mem_append_right _ (List.mem_append_right _ (List.mem_append_left _ (List.mem_of_getElem? (i := 222) rfl)))) rfl⟩
theorem vm_X5_movesThatFit : VMd yX5_movesThatFit := ⟨big_of (List.mem_append_right _ (List.mem_append_right _ (List.mem_append_left _ (List.mem_of_getElem? (i := 226) rfl)))) rfl, big_of (List.mem_append_left _ (List.mem_of_getElem? (i := 9) rfl)) rfl⟩
theorem vm_X5_fitsAllSeen : VMd yX5_fitsAllSeen := ⟨big_of (List.mem_append_right _ (List.mem_append_right _ (List.mem_append_left _ (List.mem_of_getElem? (i := 230) rfl)))) rfl, big_of (List.mem_append_left _ (List.mem_of_getElem? (i := 10) rfl)) rfl⟩
theorem vm_X5_ask : VMd yX5_ask := ⟨big_of (List.mem_append_right _ (List.mem_append_right _ (List.mem_append_left _ (List.mem_of_getElem? (i := 233) rfl)))) rfl, big_of (List.mem_append_right _ (List.mem_append_right _ (List.mem_append_left _ (List.mem_of_getElem? (i := 234) rfl)))) rfl⟩
theorem st_J6_bitCount_0f7a4 : Cond.static yJ6_bitCount_0f7a4 ∈ BIG := big_of (List.mem_append_right _ (List.mem_append_right _ (List.mem_append_left _ (List.mem_of_getElem? (i := 237) rfl)))) rfl
theorem vm_X5_mostAlike : VMd yX5_mostAlike := ⟨big_of (List.mem_append_right _ (List.mem_append_right _ (List.mem_append_right _ (List.mem_of_getElem? (i := 4) rfl)))) rfl, big_of (List.mem_append_left _ (List.mem_of_getElem? (i := 11) rfl)) rfl⟩
theorem st_X5_isIn : Cond.static yX5_isIn ∈ BIG := big_of (List.mem_append_right _ (List.mem_append_right _ (List.mem_append_right _ (List.mem_of_getElem? (i := 7) rfl)))) rfl
theorem vm_X5_countAlike : VMd yX5_countAlike := ⟨big_of (List.mem_append_right _ (List.mem_append_right _ (List.mem_append_right _ (List.mem_of_getElem? (i := 11) rfl)))) rfl, big_of (List.mem_append_left _ (List.mem_of_getElem? (i := 12) rfl)) rfl⟩
theorem st_J9_max_7cf53 : Cond.static yJ9_max_7cf53 ∈ BIG := big_of (List.mem_append_right _ (List.mem_append_right _ (List.mem_append_right _ (List.mem_of_getElem? (i := 14) rfl)))) rfl
theorem vm_X5_keep : VMd yX5_keep := ⟨big_of (List.mem_append_right _ (List.mem_append_right _ (List.mem_append_right _ (List.mem_of_getElem? (i := 17) rfl)))) rfl, big_of (List.mem_append_right _ (List.mem_append_right _ (List.mem_append_right _ (List.mem_of_getElem? (i := 18) rfl)))) rfl⟩
theorem vm_X5_back : VMd yX5_back := ⟨big_of (List.mem_append_right _ (List.mem_append_right _ (List.mem_append_right _ (List.mem_of_getElem? (i := 21) rfl)))) rfl, big_of (List.mem_append_right _ (List.mem_append_right _ (List.mem_append_right _ (List.mem_of_getElem? (i := 22) rfl)))) rfl⟩
theorem vm_X5_count : VMd yX5_count := ⟨big_of (List.mem_append_right _ (List.mem_append_right _ (List.mem_append_right _ (List.mem_of_getElem? (i := 25) rfl)))) rfl, big_of (List.mem_append_right _ (List.mem_append_right _ (List.mem_append_right _ (List.mem_of_getElem? (i := 26) rfl)))) rfl⟩
theorem vm_X4_idleBits : VMd yX4_idleBits := ⟨big_of (List.mem_append_right _ (List.mem_append_right _ (List.mem_append_right _ (List.mem_of_getElem? (i := 29) rfl)))) rfl, big_of (List.mem_append_right _ (List.mem_append_right _ (List.mem_append_right _ (List.mem_of_getElem? (i := 30) rfl)))) rfl⟩
theorem im_X6_init : Cond.instanceMethod yX6_init ∈ BIG := big_of (List.mem_append_right _ (List.mem_append_right _ (List.mem_append_right _ (List.mem_of_getElem? (i := 35) rfl)))) rfl
theorem st_X6_bares : Cond.static yX6_bares ∈ BIG := big_of (List.mem_append_right _ (List.mem_append_right _ (List.mem_append_right _ (List.mem_of_getElem? (i := 39) rfl)))) rfl
theorem vm_X6_begins : VMd yX6_begins := ⟨big_of (List.mem_append_right _ (List.mem_append_right _ (List.mem_append_right _ (List.mem_of_getElem? (i := 73) rfl)))) rfl, big_of (List.mem_append_right _ (List.mem_append_right _ (List.mem_append_right _ (List.mem_of_getElem? (i := 74) rfl)))) rfl⟩
theorem st_X6_in : Cond.static yX6_in ∈ BIG := big_of (List.mem_append_right _ (List.mem_append_right _ (List.mem_append_right _ (List.mem_of_getElem? (i := 77) rfl)))) rfl
theorem vm_X6_notes : VMd yX6_notes := ⟨big_of (List.mem_append_right _ (List.mem_append_right _ (List.mem_append_right _ (List.mem_of_getElem? (i := 81) rfl)))) rfl, big_of (List.mem_append_left _ (List.mem_of_getElem? (i := 13) rfl)) rfl⟩
theorem vm_X6_scans : VMd yX6_scans := ⟨big_of (List.mem_append_right _ (List.mem_append_right _ (List.mem_append_right _ (List.mem_of_getElem? (i := 84) rfl)))) rfl, big_of (List.mem_append_right _ (List.mem_append_right _ (List.mem_append_right _ (List.mem_of_getElem? (i := 85) rfl)))) rfl⟩
theorem vm_X6_isWriter : VMd yX6_isWriter := ⟨big_of (List.mem_append_right _ (List.mem_append_right _ (List.mem_append_right _ (List.mem_of_getElem? (i := 89) rfl)))) rfl, big_of (List.mem_append_left _ (List.mem_of_getElem? (i := 14) rfl)) rfl⟩
theorem vm_X6_begun : VMd yX6_begun := ⟨big_of (List.mem_append_right _ (List.mem_append_right _ (List.mem_append_right _ (List.mem_of_getElem? (i := 93) rfl)))) rfl, big_of (List.mem_append_left _ (List.mem_of_getElem? (i := 15) rfl)) rfl⟩
theorem vm_X6_isIdle : VMd yX6_isIdle := ⟨big_of (List.mem_append_right _ (List.mem_append_right _ (List.mem_append_right _ (List.mem_of_getElem? (i := 97) rfl)))) rfl, big_of (List.mem_append_left _ (List.mem_of_getElem? (i := 16) rfl)) rfl⟩
theorem st_X6_writerAt : Cond.static yX6_writerAt ∈ BIG := big_of (List.mem_append_right _ (List.mem_append_right _ (List.mem_append_right _ (List.mem_of_getElem? (i := 100) rfl)))) rfl
theorem st_X6_acts : Cond.static yX6_acts ∈ BIG := big_of (List.mem_append_right _ (List.mem_append_right _ (List.mem_append_right _ (List.mem_of_getElem? (i := 103) rfl)))) rfl
theorem st_X6_idles : Cond.static yX6_idles ∈ BIG := big_of (List.mem_append_right _ (List.mem_append_right _ (List.mem_append_right _ (List.mem_of_getElem? (i := 106) rfl)))) rfl
theorem vm_X6_writes : VMd yX6_writes := ⟨big_of (List.mem_append_right _ (List.mem_append_right _ (List.mem_append_right _ (List.mem_of_getElem? (i := 109) rfl)))) rfl, big_of (List.mem_append_right _ (List.mem_append_right _ (List.mem_append_right _ (List.mem_of_getElem? (i := 110) rfl)))) rfl⟩
theorem vm_X6_steps : VMd yX6_steps := ⟨big_of (List.mem_append_right _ (List.mem_append_right _ (List.mem_append_right _ (List.mem_of_getElem? (i := 113) rfl)))) rfl, big_of (List.mem_append_right _ (List.mem_append_right _ (List.mem_append_right _ (List.mem_of_getElem? (i := 114) rfl)))) rfl⟩
theorem st_X6_step : Cond.static yX6_step ∈ BIG := big_of (List.mem_append_right _ (List.mem_append_right _ (List.mem_append_right _ (List.mem_of_getElem? (i := 117) rfl)))) rfl
theorem st_X6_writesNow : Cond.static yX6_writesNow ∈ BIG := big_of (List.mem_append_right _ (List.mem_append_right _ (List.mem_append_right _ (List.mem_of_getElem? (i := 120) rfl)))) rfl
theorem st_X6_cellAt : Cond.static yX6_cellAt ∈ BIG := big_of (List.mem_append_right _ (List.mem_append_right _ (List.mem_append_right _ (List.mem_of_getElem? (i := 123) rfl)))) rfl
theorem st_X6_counts : Cond.static yX6_counts ∈ BIG := big_of (List.mem_append_right _ (List.mem_append_right _ (List.mem_append_right _ (List.mem_of_getElem? (i := 126) rfl)))) rfl
theorem st_X6_lender : Cond.static yX6_lender ∈ BIG := big_of (List.mem_append_right _ (List.mem_append_right _ (List.mem_append_right _ (List.mem_of_getElem? (i := 129) rfl)))) rfl
theorem st_X6_takes : Cond.static yX6_takes ∈ BIG := big_of (List.mem_append_right _ (List.mem_append_right _ (List.mem_append_right _ (List.mem_of_getElem? (i := 132) rfl)))) rfl
theorem vm_X6_undo : VMd yX6_undo := ⟨big_of (List.mem_append_right _ (List.mem_append_right _ (List.mem_append_right _ (List.mem_of_getElem? (i := 135) rfl)))) rfl, big_of (List.mem_append_right _ (List.mem_append_right _ (List.mem_append_right _ (List.mem_of_getElem? (i := 136) rfl)))) rfl⟩
theorem vm_X6_cell : VMd yX6_cell := ⟨big_of (List.mem_append_right _ (List.mem_append_right _ (List.mem_append_right _ (List.mem_of_getElem? (i := 139) rfl)))) rfl, big_of (List.mem_append_right _ (List.mem_append_right _ (List.mem_append_right _ (List.mem_of_getElem? (i := 140) rfl)))) rfl⟩
theorem vm_X6_isCell : VMd yX6_isCell := ⟨big_of (List.mem_append_right _ (List.mem_append_right _ (List.mem_append_right _ (List.mem_of_getElem? (i := 144) rfl)))) rfl, big_of (List.mem_append_left _ (List.mem_of_getElem? (i := 17) rfl)) rfl⟩
theorem vm_X6_writer : VMd yX6_writer := ⟨big_of (List.mem_append_right _ (List.mem_append_right _ (List.mem_append_right _ (List.mem_of_getElem? (i := 147) rfl)))) rfl, big_of (List.mem_append_right _ (List.mem_append_right _ (List.mem_append_right _ (List.mem_of_getElem? (i := 148) rfl)))) rfl⟩
theorem vm_X6_read : VMd yX6_read := ⟨big_of (List.mem_append_right _ (List.mem_append_right _ (List.mem_append_right _ (List.mem_of_getElem? (i := 151) rfl)))) rfl, big_of (List.mem_append_right _ (List.mem_append_right _ (List.mem_append_right _ (List.mem_of_getElem? (i := 152) rfl)))) rfl⟩
theorem vm_X6_photo : VMd yX6_photo := ⟨big_of (List.mem_append_right _ (List.mem_append_right _ (List.mem_append_right _ (List.mem_of_getElem? (i := 155) rfl)))) rfl, big_of (List.mem_append_right _ (List.mem_append_right _ (List.mem_append_right _ (List.mem_of_getElem? (i := 156) rfl)))) rfl⟩
theorem vm_X6_momentOf : VMd yX6_momentOf := ⟨big_of (List.mem_append_right _ (List.mem_append_right _ (List.mem_append_right _ (List.mem_of_getElem? (i := 160) rfl)))) rfl, big_of (List.mem_append_left _ (List.mem_of_getElem? (i := 18) rfl)) rfl⟩
theorem vm_X6_valueAt : VMd yX6_valueAt := ⟨big_of (List.mem_append_right _ (List.mem_append_right _ (List.mem_append_right _ (List.mem_of_getElem? (i := 164) rfl)))) rfl, big_of (List.mem_append_left _ (List.mem_of_getElem? (i := 19) rfl)) rfl⟩
theorem vm_X6_lone : VMd yX6_lone := ⟨big_of (List.mem_append_right _ (List.mem_append_right _ (List.mem_append_right _ (List.mem_of_getElem? (i := 167) rfl)))) rfl, big_of (List.mem_append_right _ (List.mem_append_right _ (List.mem_append_right _ (List.mem_of_getElem? (i := 168) rfl)))) rfl⟩
theorem vm_X6_asNow : VMd yX6_asNow := ⟨big_of (List.mem_append_right _ (List.mem_append_right _ (List.mem_append_right _ (List.mem_of_getElem? (i := 172) rfl)))) rfl, big_of (List.mem_append_left _ (List.mem_of_getElem? (i := 20) rfl)) rfl⟩
theorem vm_X6_byTurns : VMd yX6_byTurns := ⟨big_of (List.mem_append_right _ (List.mem_append_right _ (List.mem_append_right _ (List.mem_of_getElem? (i := 175) rfl)))) rfl, big_of (List.mem_append_right _ (List.mem_append_right _ (List.mem_append_right _ (List.mem_of_getElem? (i := 176) rfl)))) rfl⟩
theorem vm_X6_reads : VMd yX6_reads := ⟨big_of (List.mem_append_right _ (List.mem_append_right _ (List.mem_append_right _ (List.mem_of_getElem? (i := 179) rfl)))) rfl, big_of (List.mem_append_right _ (List.mem_append_right _ (List.mem_append_right _ (List.mem_of_getElem? (i := 180) rfl)))) rfl⟩
theorem vm_X6_trial : VMd yX6_trial := ⟨big_of (List.mem_append_right _ (List.mem_append_right _ (List.mem_append_right _ (List.mem_of_getElem? (i := 183) rfl)))) rfl, big_of (List.mem_append_right _ (List.mem_append_right _ (List.mem_append_right _ (List.mem_of_getElem? (i := 184) rfl)))) rfl⟩
theorem st_X6_isTrial : Cond.static yX6_isTrial ∈ BIG := big_of (List.mem_append_right _ (List.mem_append_right _ (List.mem_append_right _ (List.mem_of_getElem? (i := 187) rfl)))) rfl
theorem vm_X6_trialOf : VMd yX6_trialOf := ⟨big_of (List.mem_append_right _ (List.mem_append_right _ (List.mem_append_right _ (List.mem_of_getElem? (i := 191) rfl)))) rfl, big_of (List.mem_append_left _ (List.mem_of_getElem? (i := 21) rfl)) rfl⟩
theorem vm_X6_sees : VMd yX6_sees := ⟨big_of (List.mem_append_right _ (List.mem_append_right _ (List.mem_append_right _ (List.mem_of_getElem? (i := 194) rfl)))) rfl, big_of (List.mem_append_right _ (List.mem_append_right _ (List.mem_append_right _ (List.mem_of_getElem? (i := 195) rfl)))) rfl⟩
theorem vm_X6_forget : VMd yX6_forget := ⟨big_of (List.mem_append_right _ (List.mem_append_right _ (List.mem_append_right _ (List.mem_of_getElem? (i := 198) rfl)))) rfl, big_of (List.mem_append_right _ (List.mem_append_right _ (List.mem_append_right _ (List.mem_of_getElem? (i := 199) rfl)))) rfl⟩
theorem vm_X6_which : VMd yX6_which := ⟨big_of (List.mem_append_right _ (List.mem_append_right _ (List.mem_append_right _ (List.mem_of_getElem? (i := 202) rfl)))) rfl, big_of (List.mem_append_right _ (List.mem_append_right _ (List.mem_append_right _ (List.mem_of_getElem? (i := 203) rfl)))) rfl⟩
theorem vm_X6_movesSet : VMd yX6_movesSet := ⟨big_of (List.mem_append_right _ (List.mem_append_right _ (List.mem_append_right _ (List.mem_of_getElem? (i := 207) rfl)))) rfl, big_of (List.mem_append_left _ (List.mem_of_getElem? (i := 22) rfl)) rfl⟩
theorem vm_X6_ask : VMd yX6_ask := ⟨big_of (List.mem_append_right _ (List.mem_append_right _ (List.mem_append_right _ (List.mem_of_getElem? (i := 210) rfl)))) rfl, big_of (List.mem_append_right _ (List.mem_append_right _ (List.mem_append_right _ (List.mem_of_getElem? (i := 211) rfl)))) rfl⟩
theorem vm_X6_mostAlike : VMd yX6_mostAlike := ⟨big_of (List.mem_append_right _ (List.mem_append_right _ (List.mem_append_right _ (List.mem_of_getElem? (i := 215) rfl)))) rfl, big_of (List.mem_append_left _ (List.mem_of_getElem? (i := 23) rfl)) rfl⟩
theorem vm_X6_keep : VMd yX6_keep := ⟨big_of (List.mem_append_right _ (List.mem_append_right _ (List.mem_append_right _ (List.mem_of_getElem? (i := 218) rfl)))) rfl, big_of (List.mem_append_right _ (List.mem_append_right _ (List.mem_append_right _ (List.mem_of_getElem? (i := 219) rfl)))) rfl⟩
theorem vm_X6_back : VMd yX6_back := ⟨big_of (List.mem_append_right _ (List.mem_append_right _ (List.mem_append_right _ (List.mem_of_getElem? (i := 222) rfl)))) rfl, big_of (List.mem_append_right _ (List.mem_append_right _ (List.mem_append_right _ (List.mem_of_getElem? (i := 223) rfl)))) rfl⟩
theorem vm_X6_count : VMd yX6_count := ⟨big_of (List.mem_append_right _ (List.mem_append_right _ (List.mem_append_right _ (List.mem_of_getElem? (i := 226) rfl)))) rfl, big_of (List.mem_append_right _ (List.mem_append_right _ (List.mem_append_right _ (List.mem_of_getElem? (i := 227) rfl)))) rfl⟩
theorem vm_X6_photosBy : VMd yX6_photosBy := ⟨big_of (List.mem_append_right _ (List.mem_append_right _ (List.mem_append_right _ (List.mem_of_getElem? (i := 231) rfl)))) rfl, big_of (List.mem_append_left _ (List.mem_of_getElem? (i := 24) rfl)) rfl⟩
theorem vm_X6_idleOnes : VMd yX6_idleOnes := ⟨big_of (List.mem_append_right _ (List.mem_append_right _ (List.mem_append_right _ (List.mem_of_getElem? (i := 235) rfl)))) rfl, big_of (List.mem_append_left _ (List.mem_of_getElem? (i := 25) rfl)) rfl⟩
theorem mlL_9 : Cond.methodLink RL 9 yX5_init ∈ BIG := big_of (List.mem_append_right _ (List.mem_append_left _ (List.mem_of_getElem? (i := 14) rfl))) rfl
theorem mlX5_1 : Cond.methodLink RX5 1 objectInit ∈ BIG := big_of (List.mem_append_right _ (List.mem_append_left _ (List.mem_of_getElem? (i := 17) rfl))) rfl
theorem mlX5_9 : Cond.methodLink RX5 9 yX4_init ∈ BIG := big_of (List.mem_append_right _ (List.mem_append_left _ (List.mem_of_getElem? (i := 22) rfl))) rfl
theorem mlX4_3 : Cond.methodLink RX4 3 objectInit ∈ BIG := big_of (List.mem_append_right _ (List.mem_append_left _ (List.mem_of_getElem? (i := 25) rfl))) rfl
theorem mlX2_3 : Cond.methodLink RX2 3 objectInit ∈ BIG := big_of (List.mem_append_right _ (List.mem_append_left _ (List.mem_of_getElem? (i := 31) rfl))) rfl
theorem mlX1_3 : Cond.methodLink RX1 3 objectInit ∈ BIG := big_of (List.mem_append_right _ (List.mem_append_left _ (List.mem_of_getElem? (i := 59) rfl))) rfl
theorem mlX3_3 : Cond.methodLink RX3 3 objectInit ∈ BIG := big_of (List.mem_append_right _ (List.mem_append_left _ (List.mem_of_getElem? (i := 74) rfl))) rfl
theorem mlX0_3 : Cond.methodLink RX0 3 objectInit ∈ BIG := big_of (List.mem_append_right _ (List.mem_append_left _ (List.mem_of_getElem? (i := 96) rfl))) rfl
theorem mlX5_43 : Cond.methodLink RX5 43 yX4_restart ∈ BIG := big_of (List.mem_append_right _ (List.mem_append_left _ (List.mem_of_getElem? (i := 192) rfl))) rfl
theorem mlX4_55 : Cond.methodLink RX4 55 yX2_clear ∈ BIG := big_of (List.mem_append_right _ (List.mem_append_left _ (List.mem_of_getElem? (i := 196) rfl))) rfl
theorem mlX2_21 : Cond.methodLink RX2 21 yJ7_fill_53178 ∈ BIG := big_of (List.mem_append_right _ (List.mem_append_left _ (List.mem_of_getElem? (i := 200) rfl))) rfl
theorem mlX4_58 : Cond.methodLink RX4 58 yX0_become ∈ BIG := big_of (List.mem_append_right _ (List.mem_append_left _ (List.mem_of_getElem? (i := 203) rfl))) rfl
theorem mlX0_54 : Cond.methodLink RX0 54 yJ7_fill_53178 ∈ BIG := big_of (List.mem_append_right _ (List.mem_append_left _ (List.mem_of_getElem? (i := 207) rfl))) rfl
theorem mlX0_60 : Cond.methodLink RX0 60 yX2_clear ∈ BIG := big_of (List.mem_append_right _ (List.mem_append_left _ (List.mem_of_getElem? (i := 208) rfl))) rfl
theorem mlL_13 : Cond.methodLink RL 13 yX5_begins ∈ BIG := big_of (List.mem_append_right _ (List.mem_append_right _ (List.mem_append_left _ (List.mem_of_getElem? (i := 7) rfl)))) rfl
theorem mlX5_47 : Cond.methodLink RX5 47 yX5_isWithin ∈ BIG := big_of (List.mem_append_right _ (List.mem_append_right _ (List.mem_append_left _ (List.mem_of_getElem? (i := 11) rfl)))) rfl
theorem mlX5_51 : Cond.methodLink RX5 51 yX5_isWrap ∈ BIG := big_of (List.mem_append_right _ (List.mem_append_right _ (List.mem_append_left _ (List.mem_of_getElem? (i := 14) rfl)))) rfl
theorem mlX5_55 : Cond.methodLink RX5 55 yX5_remember ∈ BIG := big_of (List.mem_append_right _ (List.mem_append_right _ (List.mem_append_left _ (List.mem_of_getElem? (i := 17) rfl)))) rfl
theorem mlX5_82 : Cond.methodLink RX5 82 yX4_copyFrom ∈ BIG := big_of (List.mem_append_right _ (List.mem_append_right _ (List.mem_append_left _ (List.mem_of_getElem? (i := 21) rfl)))) rfl
theorem mlX4_66 : Cond.methodLink RX4 66 yX2_copyFrom ∈ BIG := big_of (List.mem_append_right _ (List.mem_append_right _ (List.mem_append_left _ (List.mem_of_getElem? (i := 25) rfl)))) rfl
theorem mlX5_193 : Cond.methodLink RX5 193 Lib.Math.min.name ∈ BIG := big_of (List.mem_append_right _ (List.mem_append_right _ (List.mem_append_left _ (List.mem_of_getElem? (i := 32) rfl)))) rfl
theorem mlX5_217 : Cond.methodLink RX5 217 arraycopyName ∈ BIG := big_of (List.mem_append_right _ (List.mem_append_right _ (List.mem_append_left _ (List.mem_of_getElem? (i := 35) rfl)))) rfl
theorem mlX4_70 : Cond.methodLink RX4 70 yX0_copyFrom ∈ BIG := big_of (List.mem_append_right _ (List.mem_append_right _ (List.mem_append_left _ (List.mem_of_getElem? (i := 38) rfl)))) rfl
theorem mlX0_67 : Cond.methodLink RX0 67 yX2_copyFrom ∈ BIG := big_of (List.mem_append_right _ (List.mem_append_right _ (List.mem_append_left _ (List.mem_of_getElem? (i := 43) rfl)))) rfl
theorem mlX4_73 : Cond.methodLink RX4 73 yX1_copyFrom ∈ BIG := big_of (List.mem_append_right _ (List.mem_append_right _ (List.mem_append_left _ (List.mem_of_getElem? (i := 44) rfl)))) rfl
theorem mlX1_19 : Cond.methodLink RX1 19 arraycopyName ∈ BIG := big_of (List.mem_append_right _ (List.mem_append_right _ (List.mem_append_left _ (List.mem_of_getElem? (i := 48) rfl)))) rfl
theorem mlX4_76 : Cond.methodLink RX4 76 yX3_copyFrom ∈ BIG := big_of (List.mem_append_right _ (List.mem_append_right _ (List.mem_append_left _ (List.mem_of_getElem? (i := 49) rfl)))) rfl
theorem mlX3_28 : Cond.methodLink RX3 28 arraycopyName ∈ BIG := big_of (List.mem_append_right _ (List.mem_append_right _ (List.mem_append_left _ (List.mem_of_getElem? (i := 53) rfl)))) rfl
theorem mlL_18 : Cond.methodLink RL 18 yX5_scans ∈ BIG := big_of (List.mem_append_right _ (List.mem_append_right _ (List.mem_append_left _ (List.mem_of_getElem? (i := 54) rfl)))) rfl
theorem mlX5_62 : Cond.methodLink RX5 62 yX4_has ∈ BIG := big_of (List.mem_append_right _ (List.mem_append_right _ (List.mem_append_left _ (List.mem_of_getElem? (i := 58) rfl)))) rfl
theorem mlX5_65 : Cond.methodLink RX5 65 yX5_beginAct ∈ BIG := big_of (List.mem_append_right _ (List.mem_append_right _ (List.mem_append_left _ (List.mem_of_getElem? (i := 62) rfl)))) rfl
theorem mlX5_69 : Cond.methodLink RX5 69 yX4_isIdle ∈ BIG := big_of (List.mem_append_right _ (List.mem_append_right _ (List.mem_append_left _ (List.mem_of_getElem? (i := 66) rfl)))) rfl
theorem mlX5_198 : Cond.methodLink RX5 198 yX4_beginAct ∈ BIG := big_of (List.mem_append_right _ (List.mem_append_right _ (List.mem_append_left _ (List.mem_of_getElem? (i := 70) rfl)))) rfl
theorem mlL_23 : Cond.methodLink RL 23 yX5_writes ∈ BIG := big_of (List.mem_append_right _ (List.mem_append_right _ (List.mem_append_left _ (List.mem_of_getElem? (i := 74) rfl)))) rfl
theorem mlL_28 : Cond.methodLink RL 28 yX5_steps ∈ BIG := big_of (List.mem_append_right _ (List.mem_append_right _ (List.mem_append_left _ (List.mem_of_getElem? (i := 78) rfl)))) rfl
theorem mlX5_72 : Cond.methodLink RX5 72 yX4_stepUpTo ∈ BIG := big_of (List.mem_append_right _ (List.mem_append_right _ (List.mem_append_left _ (List.mem_of_getElem? (i := 82) rfl)))) rfl
theorem mlX4_82 : Cond.methodLink RX4 82 yX4_isIdle ∈ BIG := big_of (List.mem_append_right _ (List.mem_append_right _ (List.mem_append_left _ (List.mem_of_getElem? (i := 86) rfl)))) rfl
theorem mlX4_86 : Cond.methodLink RX4 86 yX4_stepOnce ∈ BIG := big_of (List.mem_append_right _ (List.mem_append_right _ (List.mem_append_left _ (List.mem_of_getElem? (i := 87) rfl)))) rfl
theorem mlX4_97 : Cond.methodLink RX4 97 yX4_writeOut ∈ BIG := big_of (List.mem_append_right _ (List.mem_append_right _ (List.mem_append_left _ (List.mem_of_getElem? (i := 91) rfl)))) rfl
theorem mlX4_135 : Cond.methodLink RX4 135 yX4_versionBehind ∈ BIG := big_of (List.mem_append_right _ (List.mem_append_right _ (List.mem_append_left _ (List.mem_of_getElem? (i := 95) rfl)))) rfl
theorem mlX4_142 : Cond.methodLink RX4 142 arraycopyName ∈ BIG := big_of (List.mem_append_right _ (List.mem_append_right _ (List.mem_append_left _ (List.mem_of_getElem? (i := 99) rfl)))) rfl
theorem mlX4_148 : Cond.methodLink RX4 148 yX3_add ∈ BIG := big_of (List.mem_append_right _ (List.mem_append_right _ (List.mem_append_left _ (List.mem_of_getElem? (i := 100) rfl)))) rfl
theorem mlX4_101 : Cond.methodLink RX4 101 yX0_readOne ∈ BIG := big_of (List.mem_append_right _ (List.mem_append_right _ (List.mem_append_left _ (List.mem_of_getElem? (i := 104) rfl)))) rfl
theorem mlX0_71 : Cond.methodLink RX0 71 yX2_copyOne ∈ BIG := big_of (List.mem_append_right _ (List.mem_append_right _ (List.mem_append_left _ (List.mem_of_getElem? (i := 108) rfl)))) rfl
theorem mlX2_31 : Cond.methodLink RX2 31 arraycopyName ∈ BIG := big_of (List.mem_append_right _ (List.mem_append_right _ (List.mem_append_left _ (List.mem_of_getElem? (i := 112) rfl)))) rfl
theorem mlX4_107 : Cond.methodLink RX4 107 yX0_endCollect ∈ BIG := big_of (List.mem_append_right _ (List.mem_append_right _ (List.mem_append_left _ (List.mem_of_getElem? (i := 113) rfl)))) rfl
theorem mlX0_75 : Cond.methodLink RX0 75 yX0_countMoves ∈ BIG := big_of (List.mem_append_right _ (List.mem_append_right _ (List.mem_append_left _ (List.mem_of_getElem? (i := 117) rfl)))) rfl
theorem mlX0_79 : Cond.methodLink RX0 79 yX0_lowestMoved ∈ BIG := big_of (List.mem_append_right _ (List.mem_append_right _ (List.mem_append_left _ (List.mem_of_getElem? (i := 121) rfl)))) rfl
theorem mlX0_86 : Cond.methodLink RX0 86 yX0_takePhoto ∈ BIG := big_of (List.mem_append_right _ (List.mem_append_right _ (List.mem_append_left _ (List.mem_of_getElem? (i := 125) rfl)))) rfl
theorem mlX0_96 : Cond.methodLink RX0 96 arraycopyName ∈ BIG := big_of (List.mem_append_right _ (List.mem_append_right _ (List.mem_append_left _ (List.mem_of_getElem? (i := 129) rfl)))) rfl
theorem mlX4_118 : Cond.methodLink RX4 118 yX3_momentOf ∈ BIG := big_of (List.mem_append_right _ (List.mem_append_right _ (List.mem_append_left _ (List.mem_of_getElem? (i := 130) rfl)))) rfl
theorem mlX3_34 : Cond.methodLink RX3 34 yJ7_fill_53178 ∈ BIG := big_of (List.mem_append_right _ (List.mem_append_right _ (List.mem_append_left _ (List.mem_of_getElem? (i := 134) rfl)))) rfl
theorem mlX3_40 : Cond.methodLink RX3 40 yX3_wereAs ∈ BIG := big_of (List.mem_append_right _ (List.mem_append_right _ (List.mem_append_left _ (List.mem_of_getElem? (i := 135) rfl)))) rfl
theorem mlX4_122 : Cond.methodLink RX4 122 yX1_add ∈ BIG := big_of (List.mem_append_right _ (List.mem_append_right _ (List.mem_append_left _ (List.mem_of_getElem? (i := 139) rfl)))) rfl
theorem mlL_32 : Cond.methodLink RL 32 yX5_undo ∈ BIG := big_of (List.mem_append_right _ (List.mem_append_right _ (List.mem_append_left _ (List.mem_of_getElem? (i := 143) rfl)))) rfl
theorem mlL_37 : Cond.methodLink RL 37 yX5_cell ∈ BIG := big_of (List.mem_append_right _ (List.mem_append_right _ (List.mem_append_left _ (List.mem_of_getElem? (i := 147) rfl)))) rfl
theorem mlL_41 : Cond.methodLink RL 41 yX5_writer ∈ BIG := big_of (List.mem_append_right _ (List.mem_append_right _ (List.mem_append_left _ (List.mem_of_getElem? (i := 151) rfl)))) rfl
theorem mlX5_113 : Cond.methodLink RX5 113 yX0_isReading ∈ BIG := big_of (List.mem_append_right _ (List.mem_append_right _ (List.mem_append_left _ (List.mem_of_getElem? (i := 155) rfl)))) rfl
theorem mlL_45 : Cond.methodLink RL 45 yX5_read ∈ BIG := big_of (List.mem_append_right _ (List.mem_append_right _ (List.mem_append_left _ (List.mem_of_getElem? (i := 159) rfl)))) rfl
theorem mlL_49 : Cond.methodLink RL 49 yX5_photo ∈ BIG := big_of (List.mem_append_right _ (List.mem_append_right _ (List.mem_append_left _ (List.mem_of_getElem? (i := 163) rfl)))) rfl
theorem mlX5_141 : Cond.methodLink RX5 141 yX1_fact ∈ BIG := big_of (List.mem_append_right _ (List.mem_append_right _ (List.mem_append_left _ (List.mem_of_getElem? (i := 167) rfl)))) rfl
theorem mlL_53 : Cond.methodLink RL 53 yX5_lone ∈ BIG := big_of (List.mem_append_right _ (List.mem_append_right _ (List.mem_append_left _ (List.mem_of_getElem? (i := 171) rfl)))) rfl
theorem mlL_57 : Cond.methodLink RL 57 yX5_byTurns ∈ BIG := big_of (List.mem_append_right _ (List.mem_append_right _ (List.mem_append_left _ (List.mem_of_getElem? (i := 175) rfl)))) rfl
theorem mlX5_144 : Cond.methodLink RX5 144 yX4_allIdle ∈ BIG := big_of (List.mem_append_right _ (List.mem_append_right _ (List.mem_append_left _ (List.mem_of_getElem? (i := 179) rfl)))) rfl
theorem mlL_61 : Cond.methodLink RL 61 yX5_reads ∈ BIG := big_of (List.mem_append_right _ (List.mem_append_right _ (List.mem_append_left _ (List.mem_of_getElem? (i := 183) rfl)))) rfl
theorem mlX5_150 : Cond.methodLink RX5 150 yX1_countWith ∈ BIG := big_of (List.mem_append_right _ (List.mem_append_right _ (List.mem_append_left _ (List.mem_of_getElem? (i := 187) rfl)))) rfl
theorem mlX1_42 : Cond.methodLink RX1 42 yX1_fact ∈ BIG := big_of (List.mem_append_right _ (List.mem_append_right _ (List.mem_append_left _ (List.mem_of_getElem? (i := 191) rfl)))) rfl
theorem mlX5_153 : Cond.methodLink RX5 153 yX1_leastReadsAbove ∈ BIG := big_of (List.mem_append_right _ (List.mem_append_right _ (List.mem_append_left _ (List.mem_of_getElem? (i := 192) rfl)))) rfl
theorem mlX5_157 : Cond.methodLink RX5 157 yX1_greatestReadsBelow ∈ BIG := big_of (List.mem_append_right _ (List.mem_append_right _ (List.mem_append_left _ (List.mem_of_getElem? (i := 196) rfl)))) rfl
theorem mlL_65 : Cond.methodLink RL 65 yX5_trial ∈ BIG := big_of (List.mem_append_right _ (List.mem_append_right _ (List.mem_append_left _ (List.mem_of_getElem? (i := 200) rfl)))) rfl
theorem mlX5_160 : Cond.methodLink RX5 160 yX5_isPace ∈ BIG := big_of (List.mem_append_right _ (List.mem_append_right _ (List.mem_append_left _ (List.mem_of_getElem? (i := 204) rfl)))) rfl
theorem mlX5_163 : Cond.methodLink RX5 163 yX5_readsOfTrial ∈ BIG := big_of (List.mem_append_right _ (List.mem_append_right _ (List.mem_append_left _ (List.mem_of_getElem? (i := 207) rfl)))) rfl
theorem mlX5_200 : Cond.methodLink RX5 200 yX4_stepOnce ∈ BIG := big_of (List.mem_append_right _ (List.mem_append_right _ (List.mem_append_left _ (List.mem_of_getElem? (i := 211) rfl)))) rfl
theorem mlL_69 : Cond.methodLink RL 69 yX5_sees ∈ BIG := big_of (List.mem_append_right _ (List.mem_append_right _ (List.mem_append_left _ (List.mem_of_getElem? (i := 212) rfl)))) rfl
theorem mlL_73 : Cond.methodLink RL 73 yX5_forget ∈ BIG := big_of (List.mem_append_right _ (List.mem_append_right _ (List.mem_append_left _ (List.mem_of_getElem? (i := 216) rfl)))) rfl
theorem mlL_77 : Cond.methodLink RL 77 yX5_which ∈ BIG := big_of (List.mem_append_right _ (List.mem_append_right _ (List.mem_append_left _ (List.mem_of_getElem? (i := 220) rfl)))) rfl
theorem mlX5_166 : Cond.methodLink RX5 166 yX5_movesThatFit ∈ BIG := big_of (List.mem_append_right _ (List.mem_append_right _ (List.mem_append_left _ (List.mem_of_getElem? (i := 224) rfl)))) rfl
theorem mlX5_204 : Cond.methodLink RX5 204 yX5_fitsAllSeen ∈ BIG := big_of (List.mem_append_right _ (List.mem_append_right _ (List.mem_append_left _ (List.mem_of_getElem? (i := 228) rfl)))) rfl
theorem mlL_81 : Cond.methodLink RL 81 yX5_ask ∈ BIG := big_of (List.mem_append_right _ (List.mem_append_right _ (List.mem_append_left _ (List.mem_of_getElem? (i := 232) rfl)))) rfl
theorem mlX5_170 : Cond.methodLink RX5 170 yJ6_bitCount_0f7a4 ∈ BIG := big_of (List.mem_append_right _ (List.mem_append_right _ (List.mem_append_left _ (List.mem_of_getElem? (i := 236) rfl)))) rfl
theorem mlX5_175 : Cond.methodLink RX5 175 yX5_mostAlike ∈ BIG := big_of (List.mem_append_right _ (List.mem_append_right _ (List.mem_append_right _ (List.mem_of_getElem? (i := 2) rfl)))) rfl
theorem mlX5_207 : Cond.methodLink RX5 207 yX5_isIn ∈ BIG := big_of (List.mem_append_right _ (List.mem_append_right _ (List.mem_append_right _ (List.mem_of_getElem? (i := 6) rfl)))) rfl
theorem mlX5_211 : Cond.methodLink RX5 211 yX5_countAlike ∈ BIG := big_of (List.mem_append_right _ (List.mem_append_right _ (List.mem_append_right _ (List.mem_of_getElem? (i := 9) rfl)))) rfl
theorem mlX5_214 : Cond.methodLink RX5 214 Lib.Math.max.name ∈ BIG := big_of (List.mem_append_right _ (List.mem_append_right _ (List.mem_append_right _ (List.mem_of_getElem? (i := 13) rfl)))) rfl
theorem mlL_85 : Cond.methodLink RL 85 yX5_keep ∈ BIG := big_of (List.mem_append_right _ (List.mem_append_right _ (List.mem_append_right _ (List.mem_of_getElem? (i := 16) rfl)))) rfl
theorem mlL_89 : Cond.methodLink RL 89 yX5_back ∈ BIG := big_of (List.mem_append_right _ (List.mem_append_right _ (List.mem_append_right _ (List.mem_of_getElem? (i := 20) rfl)))) rfl
theorem mlL_93 : Cond.methodLink RL 93 yX5_count ∈ BIG := big_of (List.mem_append_right _ (List.mem_append_right _ (List.mem_append_right _ (List.mem_of_getElem? (i := 24) rfl)))) rfl
theorem mlX5_187 : Cond.methodLink RX5 187 yX4_idleBits ∈ BIG := big_of (List.mem_append_right _ (List.mem_append_right _ (List.mem_append_right _ (List.mem_of_getElem? (i := 28) rfl)))) rfl
theorem mlL_12 : Cond.methodLink RL 12 yX6_init ∈ BIG := big_of (List.mem_append_right _ (List.mem_append_right _ (List.mem_append_right _ (List.mem_of_getElem? (i := 34) rfl)))) rfl
theorem mlX6_1 : Cond.methodLink RX6 1 objectInit ∈ BIG := big_of (List.mem_append_right _ (List.mem_append_right _ (List.mem_append_right _ (List.mem_of_getElem? (i := 37) rfl)))) rfl
theorem mlX6_32 : Cond.methodLink RX6 32 yX6_bares ∈ BIG := big_of (List.mem_append_right _ (List.mem_append_right _ (List.mem_append_right _ (List.mem_of_getElem? (i := 38) rfl)))) rfl
theorem mlL_17 : Cond.methodLink RL 17 yX6_begins ∈ BIG := big_of (List.mem_append_right _ (List.mem_append_right _ (List.mem_append_right _ (List.mem_of_getElem? (i := 72) rfl)))) rfl
theorem mlX6_69 : Cond.methodLink RX6 69 yX6_in ∈ BIG := big_of (List.mem_append_right _ (List.mem_append_right _ (List.mem_append_right _ (List.mem_of_getElem? (i := 76) rfl)))) rfl
theorem mlX6_73 : Cond.methodLink RX6 73 yX6_notes ∈ BIG := big_of (List.mem_append_right _ (List.mem_append_right _ (List.mem_append_right _ (List.mem_of_getElem? (i := 79) rfl)))) rfl
theorem mlL_22 : Cond.methodLink RL 22 yX6_scans ∈ BIG := big_of (List.mem_append_right _ (List.mem_append_right _ (List.mem_append_right _ (List.mem_of_getElem? (i := 83) rfl)))) rfl
theorem mlX6_86 : Cond.methodLink RX6 86 yX6_isWriter ∈ BIG := big_of (List.mem_append_right _ (List.mem_append_right _ (List.mem_append_right _ (List.mem_of_getElem? (i := 87) rfl)))) rfl
theorem mlX6_89 : Cond.methodLink RX6 89 yX6_begun ∈ BIG := big_of (List.mem_append_right _ (List.mem_append_right _ (List.mem_append_right _ (List.mem_of_getElem? (i := 91) rfl)))) rfl
theorem mlX6_79 : Cond.methodLink RX6 79 yX6_isIdle ∈ BIG := big_of (List.mem_append_right _ (List.mem_append_right _ (List.mem_append_right _ (List.mem_of_getElem? (i := 95) rfl)))) rfl
theorem mlX6_40 : Cond.methodLink RX6 40 yX6_writerAt ∈ BIG := big_of (List.mem_append_right _ (List.mem_append_right _ (List.mem_append_right _ (List.mem_of_getElem? (i := 99) rfl)))) rfl
theorem mlX6_83 : Cond.methodLink RX6 83 yX6_acts ∈ BIG := big_of (List.mem_append_right _ (List.mem_append_right _ (List.mem_append_right _ (List.mem_of_getElem? (i := 102) rfl)))) rfl
theorem mlX6_44 : Cond.methodLink RX6 44 yX6_idles ∈ BIG := big_of (List.mem_append_right _ (List.mem_append_right _ (List.mem_append_right _ (List.mem_of_getElem? (i := 105) rfl)))) rfl
theorem mlL_27 : Cond.methodLink RL 27 yX6_writes ∈ BIG := big_of (List.mem_append_right _ (List.mem_append_right _ (List.mem_append_right _ (List.mem_of_getElem? (i := 108) rfl)))) rfl
theorem mlL_31 : Cond.methodLink RL 31 yX6_steps ∈ BIG := big_of (List.mem_append_right _ (List.mem_append_right _ (List.mem_append_right _ (List.mem_of_getElem? (i := 112) rfl)))) rfl
theorem mlX6_93 : Cond.methodLink RX6 93 yX6_step ∈ BIG := big_of (List.mem_append_right _ (List.mem_append_right _ (List.mem_append_right _ (List.mem_of_getElem? (i := 116) rfl)))) rfl
theorem mlX6_51 : Cond.methodLink RX6 51 yX6_writesNow ∈ BIG := big_of (List.mem_append_right _ (List.mem_append_right _ (List.mem_append_right _ (List.mem_of_getElem? (i := 119) rfl)))) rfl
theorem mlX6_48 : Cond.methodLink RX6 48 yX6_cellAt ∈ BIG := big_of (List.mem_append_right _ (List.mem_append_right _ (List.mem_append_right _ (List.mem_of_getElem? (i := 122) rfl)))) rfl
theorem mlX6_54 : Cond.methodLink RX6 54 yX6_counts ∈ BIG := big_of (List.mem_append_right _ (List.mem_append_right _ (List.mem_append_right _ (List.mem_of_getElem? (i := 125) rfl)))) rfl
theorem mlX6_58 : Cond.methodLink RX6 58 yX6_lender ∈ BIG := big_of (List.mem_append_right _ (List.mem_append_right _ (List.mem_append_right _ (List.mem_of_getElem? (i := 128) rfl)))) rfl
theorem mlX6_62 : Cond.methodLink RX6 62 yX6_takes ∈ BIG := big_of (List.mem_append_right _ (List.mem_append_right _ (List.mem_append_right _ (List.mem_of_getElem? (i := 131) rfl)))) rfl
theorem mlL_36 : Cond.methodLink RL 36 yX6_undo ∈ BIG := big_of (List.mem_append_right _ (List.mem_append_right _ (List.mem_append_right _ (List.mem_of_getElem? (i := 134) rfl)))) rfl
theorem mlL_40 : Cond.methodLink RL 40 yX6_cell ∈ BIG := big_of (List.mem_append_right _ (List.mem_append_right _ (List.mem_append_right _ (List.mem_of_getElem? (i := 138) rfl)))) rfl
theorem mlX6_96 : Cond.methodLink RX6 96 yX6_isCell ∈ BIG := big_of (List.mem_append_right _ (List.mem_append_right _ (List.mem_append_right _ (List.mem_of_getElem? (i := 142) rfl)))) rfl
theorem mlL_44 : Cond.methodLink RL 44 yX6_writer ∈ BIG := big_of (List.mem_append_right _ (List.mem_append_right _ (List.mem_append_right _ (List.mem_of_getElem? (i := 146) rfl)))) rfl
theorem mlL_48 : Cond.methodLink RL 48 yX6_read ∈ BIG := big_of (List.mem_append_right _ (List.mem_append_right _ (List.mem_append_right _ (List.mem_of_getElem? (i := 150) rfl)))) rfl
theorem mlL_52 : Cond.methodLink RL 52 yX6_photo ∈ BIG := big_of (List.mem_append_right _ (List.mem_append_right _ (List.mem_append_right _ (List.mem_of_getElem? (i := 154) rfl)))) rfl
theorem mlX6_103 : Cond.methodLink RX6 103 yX6_momentOf ∈ BIG := big_of (List.mem_append_right _ (List.mem_append_right _ (List.mem_append_right _ (List.mem_of_getElem? (i := 158) rfl)))) rfl
theorem mlX6_99 : Cond.methodLink RX6 99 yX6_valueAt ∈ BIG := big_of (List.mem_append_right _ (List.mem_append_right _ (List.mem_append_right _ (List.mem_of_getElem? (i := 162) rfl)))) rfl
theorem mlL_56 : Cond.methodLink RL 56 yX6_lone ∈ BIG := big_of (List.mem_append_right _ (List.mem_append_right _ (List.mem_append_right _ (List.mem_of_getElem? (i := 166) rfl)))) rfl
theorem mlX6_106 : Cond.methodLink RX6 106 yX6_asNow ∈ BIG := big_of (List.mem_append_right _ (List.mem_append_right _ (List.mem_append_right _ (List.mem_of_getElem? (i := 170) rfl)))) rfl
theorem mlL_60 : Cond.methodLink RL 60 yX6_byTurns ∈ BIG := big_of (List.mem_append_right _ (List.mem_append_right _ (List.mem_append_right _ (List.mem_of_getElem? (i := 174) rfl)))) rfl
theorem mlL_64 : Cond.methodLink RL 64 yX6_reads ∈ BIG := big_of (List.mem_append_right _ (List.mem_append_right _ (List.mem_append_right _ (List.mem_of_getElem? (i := 178) rfl)))) rfl
theorem mlL_68 : Cond.methodLink RL 68 yX6_trial ∈ BIG := big_of (List.mem_append_right _ (List.mem_append_right _ (List.mem_append_right _ (List.mem_of_getElem? (i := 182) rfl)))) rfl
theorem mlX6_109 : Cond.methodLink RX6 109 yX6_isTrial ∈ BIG := big_of (List.mem_append_right _ (List.mem_append_right _ (List.mem_append_right _ (List.mem_of_getElem? (i := 186) rfl)))) rfl
theorem mlX6_113 : Cond.methodLink RX6 113 yX6_trialOf ∈ BIG := big_of (List.mem_append_right _ (List.mem_append_right _ (List.mem_append_right _ (List.mem_of_getElem? (i := 189) rfl)))) rfl
theorem mlL_72 : Cond.methodLink RL 72 yX6_sees ∈ BIG := big_of (List.mem_append_right _ (List.mem_append_right _ (List.mem_append_right _ (List.mem_of_getElem? (i := 193) rfl)))) rfl
theorem mlL_76 : Cond.methodLink RL 76 yX6_forget ∈ BIG := big_of (List.mem_append_right _ (List.mem_append_right _ (List.mem_append_right _ (List.mem_of_getElem? (i := 197) rfl)))) rfl
theorem mlL_80 : Cond.methodLink RL 80 yX6_which ∈ BIG := big_of (List.mem_append_right _ (List.mem_append_right _ (List.mem_append_right _ (List.mem_of_getElem? (i := 201) rfl)))) rfl
theorem mlX6_116 : Cond.methodLink RX6 116 yX6_movesSet ∈ BIG := big_of (List.mem_append_right _ (List.mem_append_right _ (List.mem_append_right _ (List.mem_of_getElem? (i := 205) rfl)))) rfl
theorem mlL_84 : Cond.methodLink RL 84 yX6_ask ∈ BIG := big_of (List.mem_append_right _ (List.mem_append_right _ (List.mem_append_right _ (List.mem_of_getElem? (i := 209) rfl)))) rfl
theorem mlX6_120 : Cond.methodLink RX6 120 yX6_mostAlike ∈ BIG := big_of (List.mem_append_right _ (List.mem_append_right _ (List.mem_append_right _ (List.mem_of_getElem? (i := 213) rfl)))) rfl
theorem mlL_88 : Cond.methodLink RL 88 yX6_keep ∈ BIG := big_of (List.mem_append_right _ (List.mem_append_right _ (List.mem_append_right _ (List.mem_of_getElem? (i := 217) rfl)))) rfl
theorem mlL_92 : Cond.methodLink RL 92 yX6_back ∈ BIG := big_of (List.mem_append_right _ (List.mem_append_right _ (List.mem_append_right _ (List.mem_of_getElem? (i := 221) rfl)))) rfl
theorem mlL_96 : Cond.methodLink RL 96 yX6_count ∈ BIG := big_of (List.mem_append_right _ (List.mem_append_right _ (List.mem_append_right _ (List.mem_of_getElem? (i := 225) rfl)))) rfl
theorem mlX6_123 : Cond.methodLink RX6 123 yX6_photosBy ∈ BIG := big_of (List.mem_append_right _ (List.mem_append_right _ (List.mem_append_right _ (List.mem_of_getElem? (i := 229) rfl)))) rfl
theorem mlX6_127 : Cond.methodLink RX6 127 yX6_idleOnes ∈ BIG := big_of (List.mem_append_right _ (List.mem_append_right _ (List.mem_append_right _ (List.mem_of_getElem? (i := 233) rfl)))) rfl
theorem nlX4_11 : Cond.methodLinkNest RX4 11 yX2_init RX5 ∈ lw_tbl := List.mem_append_right _ (List.mem_append_left _ (List.mem_of_getElem? (i := 28) rfl))
theorem nlX4_26 : Cond.methodLinkNest RX4 26 yX1_init RX5 ∈ lw_tbl := List.mem_append_right _ (List.mem_append_left _ (List.mem_of_getElem? (i := 56) rfl))
theorem nlX4_33 : Cond.methodLinkNest RX4 33 yX3_init RX5 ∈ lw_tbl := List.mem_append_right _ (List.mem_append_left _ (List.mem_of_getElem? (i := 71) rfl))
theorem nlX4_38 : Cond.methodLinkNest RX4 38 yX0_init RX5 ∈ lw_tbl := List.mem_append_right _ (List.mem_append_left _ (List.mem_of_getElem? (i := 93) rfl))
theorem nlX0_23 : Cond.methodLinkNest RX0 23 yX2_init RX5 ∈ lw_tbl := List.mem_append_right _ (List.mem_append_left _ (List.mem_of_getElem? (i := 98) rfl))
theorem nlX2_27 : Cond.methodLinkNest RX2 27 yX5_copyAll RX5 ∈ lw_tbl := List.mem_append_right _ (List.mem_append_right _ (List.mem_append_left _ (List.mem_of_getElem? (i := 29) rfl)))
theorem nlX0_63 : Cond.methodLinkNest RX0 63 yX5_copyAll RX5 ∈ lw_tbl := List.mem_append_right _ (List.mem_append_right _ (List.mem_append_left _ (List.mem_of_getElem? (i := 42) rfl)))
theorem inL : Cond.initialized "LentViewsLaw" ∈ BIG := big_of (List.mem_append_right _ (List.mem_append_left _ (List.mem_of_getElem? (i := 0) rfl))) rfl
theorem inX5 : Cond.initialized "LentViews" ∈ BIG := big_of (List.mem_append_right _ (List.mem_append_left _ (List.mem_of_getElem? (i := 1) rfl))) rfl
theorem inX4 : Cond.initialized "LentViews$World" ∈ BIG := big_of (List.mem_append_right _ (List.mem_append_left _ (List.mem_of_getElem? (i := 2) rfl))) rfl
theorem inX2 : Cond.initialized "LentViews$Cells" ∈ BIG := big_of (List.mem_append_right _ (List.mem_append_left _ (List.mem_of_getElem? (i := 3) rfl))) rfl
theorem inX1 : Cond.initialized "LentViews$Album" ∈ BIG := big_of (List.mem_append_right _ (List.mem_append_left _ (List.mem_of_getElem? (i := 4) rfl))) rfl
theorem inX3 : Cond.initialized "LentViews$History" ∈ BIG := big_of (List.mem_append_right _ (List.mem_append_left _ (List.mem_of_getElem? (i := 5) rfl))) rfl
theorem inX0 : Cond.initialized "LentViews$Act" ∈ BIG := big_of (List.mem_append_right _ (List.mem_append_left _ (List.mem_of_getElem? (i := 6) rfl))) rfl
theorem inJ7 : Cond.initialized "java/util/Arrays" ∈ BIG := big_of (List.mem_append_right _ (List.mem_append_left _ (List.mem_of_getElem? (i := 7) rfl))) rfl
theorem inX6 : Cond.initialized "LentViewsModel" ∈ BIG := big_of (List.mem_append_right _ (List.mem_append_left _ (List.mem_of_getElem? (i := 8) rfl))) rfl
theorem inJ9 : Cond.initialized "java/lang/Math" ∈ BIG := big_of (List.mem_append_right _ (List.mem_append_left _ (List.mem_of_getElem? (i := 9) rfl))) rfl
theorem inJ10 : Cond.initialized "java/lang/System" ∈ BIG := big_of (List.mem_append_right _ (List.mem_append_left _ (List.mem_of_getElem? (i := 10) rfl))) rfl
theorem inJ6 : Cond.initialized "java/lang/Integer" ∈ BIG := big_of (List.mem_append_right _ (List.mem_append_left _ (List.mem_of_getElem? (i := 11) rfl))) rfl
theorem clL_7 : Cond.classLink RL 7 RX5 ∈ BIG := big_of (List.mem_append_right _ (List.mem_append_left _ (List.mem_of_getElem? (i := 12) rfl))) rfl
theorem isX5 : Cond.instantiable RX5 12 ∈ BIG := big_of (List.mem_append_right _ (List.mem_append_left _ (List.mem_of_getElem? (i := 13) rfl))) rfl
theorem clX5_7 : Cond.classLink RX5 7 RX4 ∈ BIG := big_of (List.mem_append_right _ (List.mem_append_left _ (List.mem_of_getElem? (i := 20) rfl))) rfl
theorem isX4 : Cond.instantiable RX4 9 ∈ BIG := big_of (List.mem_append_right _ (List.mem_append_left _ (List.mem_of_getElem? (i := 21) rfl))) rfl
theorem clX4_9 : Cond.classLink RX4 9 RX2 ∈ BIG := big_of (List.mem_append_right _ (List.mem_append_left _ (List.mem_of_getElem? (i := 26) rfl))) rfl
theorem isX2 : Cond.instantiable RX2 3 ∈ BIG := big_of (List.mem_append_right _ (List.mem_append_left _ (List.mem_of_getElem? (i := 27) rfl))) rfl
theorem clX4_18 : Cond.classLink RX4 18 RX0 ∈ BIG := big_of (List.mem_append_right _ (List.mem_append_left _ (List.mem_of_getElem? (i := 52) rfl))) rfl
theorem clX4_24 : Cond.classLink RX4 24 RX1 ∈ BIG := big_of (List.mem_append_right _ (List.mem_append_left _ (List.mem_of_getElem? (i := 54) rfl))) rfl
theorem isX1 : Cond.instantiable RX1 2 ∈ BIG := big_of (List.mem_append_right _ (List.mem_append_left _ (List.mem_of_getElem? (i := 55) rfl))) rfl
theorem clX4_31 : Cond.classLink RX4 31 RX3 ∈ BIG := big_of (List.mem_append_right _ (List.mem_append_left _ (List.mem_of_getElem? (i := 69) rfl))) rfl
theorem isX3 : Cond.instantiable RX3 5 ∈ BIG := big_of (List.mem_append_right _ (List.mem_append_left _ (List.mem_of_getElem? (i := 70) rfl))) rfl
theorem isX0 : Cond.instantiable RX0 12 ∈ BIG := big_of (List.mem_append_right _ (List.mem_append_left _ (List.mem_of_getElem? (i := 92) rfl))) rfl
theorem clX0_21 : Cond.classLink RX0 21 RX2 ∈ BIG := big_of (List.mem_append_right _ (List.mem_append_left _ (List.mem_of_getElem? (i := 97) rfl))) rfl
theorem coJ6_265 : Cond.constant RJ6 265 1431655765 ∈ BIG := big_of (List.mem_append_right _ (List.mem_append_right _ (List.mem_append_left _ (List.mem_of_getElem? (i := 239) rfl)))) rfl
theorem coJ6_266 : Cond.constant RJ6 266 858993459 ∈ BIG := big_of (List.mem_append_right _ (List.mem_append_right _ (List.mem_append_right _ (List.mem_of_getElem? (i := 0) rfl)))) rfl
theorem coJ6_267 : Cond.constant RJ6 267 252645135 ∈ BIG := big_of (List.mem_append_right _ (List.mem_append_right _ (List.mem_append_right _ (List.mem_of_getElem? (i := 1) rfl)))) rfl
theorem clL_10 : Cond.classLink RL 10 RX6 ∈ BIG := big_of (List.mem_append_right _ (List.mem_append_right _ (List.mem_append_right _ (List.mem_of_getElem? (i := 32) rfl)))) rfl
theorem isX6 : Cond.instantiable RX6 10 ∈ BIG := big_of (List.mem_append_right _ (List.mem_append_right _ (List.mem_append_right _ (List.mem_of_getElem? (i := 33) rfl)))) rfl
theorem ac_int : Cond.arrayClass .int ∈ BIG := big_of (List.mem_append_right _ (List.mem_append_left _ (List.mem_of_getElem? (i := 51) rfl))) rfl
theorem ac_bool : Cond.arrayClass .boolean ∈ BIG := big_of (List.mem_append_right _ (List.mem_append_right _ (List.mem_append_left _ (List.mem_of_getElem? (i := 6) rfl)))) rfl
theorem ao_Act : Cond.arrayOver (.object "LentViews$Act") ∈ lw_tbl := List.mem_append_right _ (List.mem_append_left _ (List.mem_of_getElem? (i := 53) rfl))
theorem ao_World : Cond.arrayOver (.object "LentViews$World") ∈ lw_tbl := List.mem_append_right _ (List.mem_append_left _ (List.mem_of_getElem? (i := 191) rfl))
theorem oi_1 : Cond.instanceMethod objectInit ∈ BIG := big_of (List.mem_append_right _ (List.mem_append_left _ (List.mem_of_getElem? (i := 18) rfl))) rfl
theorem oi_2 : Cond.code objectInit ⟨#[0xb1]⟩ 1 none ∈ BIG := big_of (List.mem_append_right _ (List.mem_append_left _ (List.mem_of_getElem? (i := 19) rfl))) rfl
theorem ay_1 : Cond.native arraycopyName ∈ BIG := big_of (List.mem_append_right _ (List.mem_append_right _ (List.mem_append_left _ (List.mem_of_getElem? (i := 37) rfl)))) rfl
theorem ay_2 : Cond.static arraycopyName ∈ BIG := big_of (List.mem_append_right _ (List.mem_append_right _ (List.mem_append_left _ (List.mem_of_getElem? (i := 36) rfl)))) rfl
theorem mmin_1 : Cond.static Lib.Math.min.name ∈ BIG := big_of (List.mem_append_right _ (List.mem_append_right _ (List.mem_append_left _ (List.mem_of_getElem? (i := 33) rfl)))) rfl
theorem mmin_2 : Cond.code Lib.Math.min.name Lib.Math.min.code 2 (some .int) ∈ BIG := big_of (List.mem_append_right _ (List.mem_append_right _ (List.mem_append_left _ (List.mem_of_getElem? (i := 34) rfl)))) rfl
theorem mmax_1 : Cond.static Lib.Math.max.name ∈ BIG := big_of (List.mem_append_right _ (List.mem_append_right _ (List.mem_append_right _ (List.mem_of_getElem? (i := 14) rfl)))) rfl
theorem mmax_2 : Cond.code Lib.Math.max.name Lib.Math.max.code 2 (some .int) ∈ BIG := big_of (List.mem_append_right _ (List.mem_append_right _ (List.mem_append_right _ (List.mem_of_getElem? (i := 15) rfl)))) rfl
