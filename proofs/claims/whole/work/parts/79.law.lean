set_option maxHeartbeats 4000000 in
set_option maxRecDepth 100000 in
theorem law_begins {p0 : Program} {l : Launch} {e : Env} {s : State} {m : MethodId} {below : List Frame} {meth : Method} {c : Code} {H : Heap} {locs : List Loc} {Q : State → Prop} {g : GG} {A : Nat → Prop} {ls : Array Slot} {b0 L : Nat} {xs : Nat → Int32} (K : Cx p0 l room_1 s m #[Value.ref b0] meth c g A code 4 RL ret 10) (hX : va_X b0 L xs s s.heap) (hbl : b0 < s.heap.size) (hbA : ¬ A b0) (hL : L ≤ 2048) {b a : Nat → Nat} {wa : Nat → Nat → Nat} {z : SX} {th : Int32} {um q T i : Nat} {f fw fp fi fk fs ft : Row} (hI : InvZ z f fp fi fk fs um q T) (hT : T < 700000) (hi : i + 4 ≤ L) (h : Hp g A s H locs (lwP g b a wa z th um q f fw fp fi fk fs ft)) (hl : Lq ls 4 [some (.ref b0), some (.ref (b 0)), some (.ref (a 0)), some (.int (nI i))]) (kk : ∀ (z : SX) (um q : Nat) (f fw fp fi fk fs ft : Row) (H : Heap) (locs : List Loc) (ls : Array Slot), InvZ z f fp fi fk fs um q (T + 20) → Hp g A s H locs (lwP g b a wa z (nI 0) um q f fw fp fi fk fs ft) → Lq ls 4 [some (.ref b0), some (.ref (b 0)), some (.ref (a 0)), some (.int (nI i))] → W p0 l e room_1 s m #[Value.ref b0] below meth c H locs 421 10004 Q (F0 m 678 ls [])) : W p0 l e room_1 s m #[Value.ref b0] below meth c H locs 421 10004 Q (F0 m 128 ls []) := by
  obtain ⟨V, pn, sa, sb, sr, rb⟩ := z
  obtain ⟨ans, f2, fp2, fi2, fk2, fs2, um2, q2, dX, dM, hdX, hdM, cX, cM⟩ := both_begins l g V pn sa sb sr rb f fp fi fk fs um q T (by omega) hI (xs (i + 1)) (xs (i + 2)) (xs (i + 3))
  refine r_aln K hl 1 dL_law_128 rfl rfl ?_
  refine r_aln K hl 0 dL_law_129 rfl rfl ?_
  refine r_iln K hl 3 dL_law_130 rfl rfl ?_
  refine r_ic K (nI 1) dL_law_131 k_1 ?_
  refine r_addN K dL_law_132 ?_
  refine r_scr K h hX hbl hbA (by omega) (by omega) dL_law_133 ?_
  refine r_aln K hl 0 dL_law_134 rfl rfl ?_
  refine r_iln K hl 3 dL_law_135 rfl rfl ?_
  refine r_ic K (nI 2) dL_law_136 k_2 ?_
  refine r_addN K dL_law_137 ?_
  refine r_scr K h hX hbl hbA (by omega) (by omega) dL_law_138 ?_
  refine r_aln K hl 0 dL_law_139 rfl rfl ?_
  refine r_iln K hl 3 dL_law_140 rfl rfl ?_
  refine r_ic K (nI 3) dL_law_141 k_3 ?_
  refine r_addN K dL_law_142 ?_
  refine r_scr K h hX hbl hbA (by omega) (by omega) dL_law_143 ?_
  refine r_callVWE K h hl (lwX (cX b wa) _) mc_X5_begins vm_X5_begins mlL_13 0 rfl rfl rfl (fun _ => lwX_fst) (by omega) (by decide) rfl rfl (Nat.le_of_ble_eq_true rfl) ⟨Nat.le_of_ble_eq_true rfl, Nat.le_of_ble_eq_true rfl⟩ dL_law_144 (fun u H locs h => ?_)
  refine W.eq (g2 := F0 m 147 ls [.int ans]) rfl ?_
  refine r_aln K hl 2 dL_law_147 rfl rfl ?_
  refine r_aln K hl 0 dL_law_148 rfl rfl ?_
  refine r_iln K hl 3 dL_law_149 rfl rfl ?_
  refine r_ic K (nI 1) dL_law_150 k_1 ?_
  refine r_addN K dL_law_151 ?_
  refine r_scr K h hX hbl hbA (by omega) (by omega) dL_law_152 ?_
  refine r_aln K hl 0 dL_law_153 rfl rfl ?_
  refine r_iln K hl 3 dL_law_154 rfl rfl ?_
  refine r_ic K (nI 2) dL_law_155 k_2 ?_
  refine r_addN K dL_law_156 ?_
  refine r_scr K h hX hbl hbA (by omega) (by omega) dL_law_157 ?_
  refine r_aln K hl 0 dL_law_158 rfl rfl ?_
  refine r_iln K hl 3 dL_law_159 rfl rfl ?_
  refine r_ic K (nI 3) dL_law_160 k_3 ?_
  refine r_addN K dL_law_161 ?_
  refine r_scr K h hX hbl hbA (by omega) (by omega) dL_law_162 ?_
  refine r_callVWE K h hl (lwM (cM a th fw ft) _) mc_X6_begins vm_X6_begins mlL_17 413 lwP_m rfl rfl (fun _ => by rw [List.map_append, List.map_append]; rfl) (by omega) (by decide) rfl rfl (Nat.le_of_ble_eq_true rfl) ⟨Nat.le_of_ble_eq_true rfl, Nat.le_of_ble_eq_true rfl⟩ dL_law_163 (fun v H locs h => ?_)
  refine W.eq (g2 := F0 m 166 ls [.int ans, .int ans]) rfl ?_
  refine r_ceq K 678 dL_law_166 (by decide) (fun _ => ?_) (fun z => absurd rfl z)
  exact kk u.1 um2 q2 f2 v.1 fp2 fi2 fk2 fs2 v.2 H locs ls u.2 h hl

set_option maxHeartbeats 4000000 in
set_option maxRecDepth 100000 in
theorem law_scans {p0 : Program} {l : Launch} {e : Env} {s : State} {m : MethodId} {below : List Frame} {meth : Method} {c : Code} {H : Heap} {locs : List Loc} {Q : State → Prop} {g : GG} {A : Nat → Prop} {ls : Array Slot} {b0 L : Nat} {xs : Nat → Int32} (K : Cx p0 l room_1 s m #[Value.ref b0] meth c g A code 4 RL ret 10) (hX : va_X b0 L xs s s.heap) (hbl : b0 < s.heap.size) (hbA : ¬ A b0) (hL : L ≤ 2048) {b a : Nat → Nat} {wa : Nat → Nat → Nat} {z : SX} {th : Int32} {um q T i : Nat} {f fw fp fi fk fs ft : Row} (hI : InvZ z f fp fi fk fs um q T) (hT : T < 700000) (hi : i + 4 ≤ L) (h : Hp g A s H locs (lwP g b a wa z th um q f fw fp fi fk fs ft)) (hl : Lq ls 4 [some (.ref b0), some (.ref (b 0)), some (.ref (a 0)), some (.int (nI i))]) (kk : ∀ (z : SX) (um q : Nat) (f fw fp fi fk fs ft : Row) (H : Heap) (locs : List Loc) (ls : Array Slot), InvZ z f fp fi fk fs um q (T + 20) → Hp g A s H locs (lwP g b a wa z (nI 0) um q f fw fp fi fk fs ft) → Lq ls 4 [some (.ref b0), some (.ref (b 0)), some (.ref (a 0)), some (.int (nI i))] → W p0 l e room_1 s m #[Value.ref b0] below meth c H locs 421 10004 Q (F0 m 678 ls [])) : W p0 l e room_1 s m #[Value.ref b0] below meth c H locs 421 10004 Q (F0 m 171 ls []) := by
  obtain ⟨V, pn, sa, sb, sr, rb⟩ := z
  obtain ⟨ans, f2, fp2, fi2, fk2, fs2, um2, q2, dX, dM, hdX, hdM, cX, cM⟩ := both_scans l g V pn sa sb sr rb f fp fi fk fs um q T (by omega) hI (xs (i + 1))
  refine r_aln K hl 1 dL_law_171 rfl rfl ?_
  refine r_aln K hl 0 dL_law_172 rfl rfl ?_
  refine r_iln K hl 3 dL_law_173 rfl rfl ?_
  refine r_ic K (nI 1) dL_law_174 k_1 ?_
  refine r_addN K dL_law_175 ?_
  refine r_scr K h hX hbl hbA (by omega) (by omega) dL_law_176 ?_
  refine r_callVWE K h hl (lwX (cX b wa) _) mc_X5_scans vm_X5_scans mlL_18 0 rfl rfl rfl (fun _ => lwX_fst) (by omega) (by decide) rfl rfl (Nat.le_of_ble_eq_true rfl) ⟨Nat.le_of_ble_eq_true rfl, Nat.le_of_ble_eq_true rfl⟩ dL_law_177 (fun u H locs h => ?_)
  refine W.eq (g2 := F0 m 180 ls [.int ans]) rfl ?_
  refine r_aln K hl 2 dL_law_180 rfl rfl ?_
  refine r_aln K hl 0 dL_law_181 rfl rfl ?_
  refine r_iln K hl 3 dL_law_182 rfl rfl ?_
  refine r_ic K (nI 1) dL_law_183 k_1 ?_
  refine r_addN K dL_law_184 ?_
  refine r_scr K h hX hbl hbA (by omega) (by omega) dL_law_185 ?_
  refine r_callVWE K h hl (lwM (cM a th fw ft) _) mc_X6_scans vm_X6_scans mlL_22 413 lwP_m rfl rfl (fun _ => by rw [List.map_append, List.map_append]; rfl) (by omega) (by decide) rfl rfl (Nat.le_of_ble_eq_true rfl) ⟨Nat.le_of_ble_eq_true rfl, Nat.le_of_ble_eq_true rfl⟩ dL_law_186 (fun v H locs h => ?_)
  refine W.eq (g2 := F0 m 189 ls [.int ans, .int ans]) rfl ?_
  refine r_ceq K 678 dL_law_189 (by decide) (fun _ => ?_) (fun z => absurd rfl z)
  exact kk u.1 um2 q2 f2 v.1 fp2 fi2 fk2 fs2 v.2 H locs ls u.2 h hl

set_option maxHeartbeats 4000000 in
set_option maxRecDepth 100000 in
theorem law_writes {p0 : Program} {l : Launch} {e : Env} {s : State} {m : MethodId} {below : List Frame} {meth : Method} {c : Code} {H : Heap} {locs : List Loc} {Q : State → Prop} {g : GG} {A : Nat → Prop} {ls : Array Slot} {b0 L : Nat} {xs : Nat → Int32} (K : Cx p0 l room_1 s m #[Value.ref b0] meth c g A code 4 RL ret 10) (hX : va_X b0 L xs s s.heap) (hbl : b0 < s.heap.size) (hbA : ¬ A b0) (hL : L ≤ 2048) {b a : Nat → Nat} {wa : Nat → Nat → Nat} {z : SX} {th : Int32} {um q T i : Nat} {f fw fp fi fk fs ft : Row} (hI : InvZ z f fp fi fk fs um q T) (hT : T < 700000) (hi : i + 4 ≤ L) (h : Hp g A s H locs (lwP g b a wa z th um q f fw fp fi fk fs ft)) (hl : Lq ls 4 [some (.ref b0), some (.ref (b 0)), some (.ref (a 0)), some (.int (nI i))]) (kk : ∀ (z : SX) (um q : Nat) (f fw fp fi fk fs ft : Row) (H : Heap) (locs : List Loc) (ls : Array Slot), InvZ z f fp fi fk fs um q (T + 20) → Hp g A s H locs (lwP g b a wa z (nI 0) um q f fw fp fi fk fs ft) → Lq ls 4 [some (.ref b0), some (.ref (b 0)), some (.ref (a 0)), some (.int (nI i))] → W p0 l e room_1 s m #[Value.ref b0] below meth c H locs 421 10004 Q (F0 m 678 ls [])) : W p0 l e room_1 s m #[Value.ref b0] below meth c H locs 421 10004 Q (F0 m 194 ls []) := by
  obtain ⟨V, pn, sa, sb, sr, rb⟩ := z
  obtain ⟨ans, f2, fp2, fi2, fk2, fs2, um2, q2, dX, dM, hdX, hdM, cX, cM⟩ := both_writes l g V pn sa sb sr rb f fp fi fk fs um q T (by omega) hI (xs (i + 1)) (xs (i + 2))
  refine r_aln K hl 1 dL_law_194 rfl rfl ?_
  refine r_aln K hl 0 dL_law_195 rfl rfl ?_
  refine r_iln K hl 3 dL_law_196 rfl rfl ?_
  refine r_ic K (nI 1) dL_law_197 k_1 ?_
  refine r_addN K dL_law_198 ?_
  refine r_scr K h hX hbl hbA (by omega) (by omega) dL_law_199 ?_
  refine r_aln K hl 0 dL_law_200 rfl rfl ?_
  refine r_iln K hl 3 dL_law_201 rfl rfl ?_
  refine r_ic K (nI 2) dL_law_202 k_2 ?_
  refine r_addN K dL_law_203 ?_
  refine r_scr K h hX hbl hbA (by omega) (by omega) dL_law_204 ?_
  refine r_callVWE K h hl (lwX (cX b wa) _) mc_X5_writes vm_X5_writes mlL_23 0 rfl rfl rfl (fun _ => lwX_fst) (by omega) (by decide) rfl rfl (Nat.le_of_ble_eq_true rfl) ⟨Nat.le_of_ble_eq_true rfl, Nat.le_of_ble_eq_true rfl⟩ dL_law_205 (fun u H locs h => ?_)
  refine W.eq (g2 := F0 m 208 ls [.int ans]) rfl ?_
  refine r_aln K hl 2 dL_law_208 rfl rfl ?_
  refine r_aln K hl 0 dL_law_209 rfl rfl ?_
  refine r_iln K hl 3 dL_law_210 rfl rfl ?_
  refine r_ic K (nI 1) dL_law_211 k_1 ?_
  refine r_addN K dL_law_212 ?_
  refine r_scr K h hX hbl hbA (by omega) (by omega) dL_law_213 ?_
  refine r_aln K hl 0 dL_law_214 rfl rfl ?_
  refine r_iln K hl 3 dL_law_215 rfl rfl ?_
  refine r_ic K (nI 2) dL_law_216 k_2 ?_
  refine r_addN K dL_law_217 ?_
  refine r_scr K h hX hbl hbA (by omega) (by omega) dL_law_218 ?_
  refine r_callVWE K h hl (lwM (cM a th fw ft) _) mc_X6_writes vm_X6_writes mlL_27 413 lwP_m rfl rfl (fun _ => by rw [List.map_append, List.map_append]; rfl) (by omega) (by decide) rfl rfl (Nat.le_of_ble_eq_true rfl) ⟨Nat.le_of_ble_eq_true rfl, Nat.le_of_ble_eq_true rfl⟩ dL_law_219 (fun v H locs h => ?_)
  refine W.eq (g2 := F0 m 222 ls [.int ans, .int ans]) rfl ?_
  refine r_ceq K 678 dL_law_222 (by decide) (fun _ => ?_) (fun z => absurd rfl z)
  exact kk u.1 um2 q2 f2 v.1 fp2 fi2 fk2 fs2 v.2 H locs ls u.2 h hl

set_option maxHeartbeats 4000000 in
set_option maxRecDepth 100000 in
theorem law_steps {p0 : Program} {l : Launch} {e : Env} {s : State} {m : MethodId} {below : List Frame} {meth : Method} {c : Code} {H : Heap} {locs : List Loc} {Q : State → Prop} {g : GG} {A : Nat → Prop} {ls : Array Slot} {b0 L : Nat} {xs : Nat → Int32} (K : Cx p0 l room_1 s m #[Value.ref b0] meth c g A code 4 RL ret 10) (hX : va_X b0 L xs s s.heap) (hbl : b0 < s.heap.size) (hbA : ¬ A b0) (hL : L ≤ 2048) {b a : Nat → Nat} {wa : Nat → Nat → Nat} {z : SX} {th : Int32} {um q T i : Nat} {f fw fp fi fk fs ft : Row} (hI : InvZ z f fp fi fk fs um q T) (hT : T < 700000) (hi : i + 4 ≤ L) (h : Hp g A s H locs (lwP g b a wa z th um q f fw fp fi fk fs ft)) (hl : Lq ls 4 [some (.ref b0), some (.ref (b 0)), some (.ref (a 0)), some (.int (nI i))]) (kk : ∀ (z : SX) (um q : Nat) (f fw fp fi fk fs ft : Row) (H : Heap) (locs : List Loc) (ls : Array Slot), InvZ z f fp fi fk fs um q (T + 20) → Hp g A s H locs (lwP g b a wa z (nI 0) um q f fw fp fi fk fs ft) → Lq ls 4 [some (.ref b0), some (.ref (b 0)), some (.ref (a 0)), some (.int (nI i))] → W p0 l e room_1 s m #[Value.ref b0] below meth c H locs 421 10004 Q (F0 m 678 ls [])) : W p0 l e room_1 s m #[Value.ref b0] below meth c H locs 421 10004 Q (F0 m 227 ls []) := by
  obtain ⟨V, pn, sa, sb, sr, rb⟩ := z
  obtain ⟨ans, f2, fp2, fi2, fk2, fs2, um2, q2, dX, dM, hdX, hdM, cX, cM⟩ := both_steps l g V pn sa sb sr rb f fp fi fk fs um q T (by omega) hI (xs (i + 1)) (xs (i + 2))
  refine r_aln K hl 1 dL_law_227 rfl rfl ?_
  refine r_aln K hl 0 dL_law_228 rfl rfl ?_
  refine r_iln K hl 3 dL_law_229 rfl rfl ?_
  refine r_ic K (nI 1) dL_law_230 k_1 ?_
  refine r_addN K dL_law_231 ?_
  refine r_scr K h hX hbl hbA (by omega) (by omega) dL_law_232 ?_
  refine r_aln K hl 0 dL_law_233 rfl rfl ?_
  refine r_iln K hl 3 dL_law_234 rfl rfl ?_
  refine r_ic K (nI 2) dL_law_235 k_2 ?_
  refine r_addN K dL_law_236 ?_
  refine r_scr K h hX hbl hbA (by omega) (by omega) dL_law_237 ?_
  refine r_callVWE K h hl (lwX (cX b wa) _) mc_X5_steps vm_X5_steps mlL_28 0 rfl rfl rfl (fun _ => lwX_fst) (by omega) (by decide) rfl rfl (Nat.le_of_ble_eq_true rfl) ⟨Nat.le_of_ble_eq_true rfl, Nat.le_of_ble_eq_true rfl⟩ dL_law_238 (fun u H locs h => ?_)
  refine W.eq (g2 := F0 m 241 ls [.int ans]) rfl ?_
  refine r_aln K hl 2 dL_law_241 rfl rfl ?_
  refine r_aln K hl 0 dL_law_242 rfl rfl ?_
  refine r_iln K hl 3 dL_law_243 rfl rfl ?_
  refine r_ic K (nI 1) dL_law_244 k_1 ?_
  refine r_addN K dL_law_245 ?_
  refine r_scr K h hX hbl hbA (by omega) (by omega) dL_law_246 ?_
  refine r_aln K hl 0 dL_law_247 rfl rfl ?_
  refine r_iln K hl 3 dL_law_248 rfl rfl ?_
  refine r_ic K (nI 2) dL_law_249 k_2 ?_
  refine r_addN K dL_law_250 ?_
  refine r_scr K h hX hbl hbA (by omega) (by omega) dL_law_251 ?_
  refine r_callVWE K h hl (lwM (cM a th fw ft) _) mc_X6_steps vm_X6_steps mlL_31 413 lwP_m rfl rfl (fun _ => by rw [List.map_append, List.map_append]; rfl) (by omega) (by decide) rfl rfl (Nat.le_of_ble_eq_true rfl) ⟨Nat.le_of_ble_eq_true rfl, Nat.le_of_ble_eq_true rfl⟩ dL_law_252 (fun v H locs h => ?_)
  refine W.eq (g2 := F0 m 255 ls [.int ans, .int ans]) rfl ?_
  refine r_ceq K 678 dL_law_255 (by decide) (fun _ => ?_) (fun z => absurd rfl z)
  exact kk u.1 um2 q2 f2 v.1 fp2 fi2 fk2 fs2 v.2 H locs ls u.2 h hl

set_option maxHeartbeats 4000000 in
set_option maxRecDepth 100000 in
theorem law_undo {p0 : Program} {l : Launch} {e : Env} {s : State} {m : MethodId} {below : List Frame} {meth : Method} {c : Code} {H : Heap} {locs : List Loc} {Q : State → Prop} {g : GG} {A : Nat → Prop} {ls : Array Slot} {b0 L : Nat} {xs : Nat → Int32} (K : Cx p0 l room_1 s m #[Value.ref b0] meth c g A code 4 RL ret 10) (hX : va_X b0 L xs s s.heap) (hbl : b0 < s.heap.size) (hbA : ¬ A b0) (hL : L ≤ 2048) {b a : Nat → Nat} {wa : Nat → Nat → Nat} {z : SX} {th : Int32} {um q T i : Nat} {f fw fp fi fk fs ft : Row} (hI : InvZ z f fp fi fk fs um q T) (hT : T < 700000) (hi : i + 4 ≤ L) (h : Hp g A s H locs (lwP g b a wa z th um q f fw fp fi fk fs ft)) (hl : Lq ls 4 [some (.ref b0), some (.ref (b 0)), some (.ref (a 0)), some (.int (nI i))]) (kk : ∀ (z : SX) (um q : Nat) (f fw fp fi fk fs ft : Row) (H : Heap) (locs : List Loc) (ls : Array Slot), InvZ z f fp fi fk fs um q (T + 20) → Hp g A s H locs (lwP g b a wa z (nI 0) um q f fw fp fi fk fs ft) → Lq ls 4 [some (.ref b0), some (.ref (b 0)), some (.ref (a 0)), some (.int (nI i))] → W p0 l e room_1 s m #[Value.ref b0] below meth c H locs 421 10004 Q (F0 m 678 ls [])) : W p0 l e room_1 s m #[Value.ref b0] below meth c H locs 421 10004 Q (F0 m 260 ls []) := by
  obtain ⟨V, pn, sa, sb, sr, rb⟩ := z
  obtain ⟨ans, f2, fp2, fi2, fk2, fs2, um2, q2, dX, dM, hdX, hdM, cX, cM⟩ := both_undo l g V pn sa sb sr rb f fp fi fk fs um q T (by omega) hI 
  refine r_aln K hl 1 dL_law_260 rfl rfl ?_
  refine r_callVWE K h hl (lwX (cX b wa) _) mc_X5_undo vm_X5_undo mlL_32 0 rfl rfl rfl (fun _ => lwX_fst) (by omega) (by decide) rfl rfl (Nat.le_of_ble_eq_true rfl) ⟨Nat.le_of_ble_eq_true rfl, Nat.le_of_ble_eq_true rfl⟩ dL_law_261 (fun u H locs h => ?_)
  refine W.eq (g2 := F0 m 264 ls [.int ans]) rfl ?_
  refine r_aln K hl 2 dL_law_264 rfl rfl ?_
  refine r_callVWE K h hl (lwM (cM a th fw ft) _) mc_X6_undo vm_X6_undo mlL_36 413 lwP_m rfl rfl (fun _ => by rw [List.map_append, List.map_append]; rfl) (by omega) (by decide) rfl rfl (Nat.le_of_ble_eq_true rfl) ⟨Nat.le_of_ble_eq_true rfl, Nat.le_of_ble_eq_true rfl⟩ dL_law_265 (fun v H locs h => ?_)
  refine W.eq (g2 := F0 m 268 ls [.int ans, .int ans]) rfl ?_
  refine r_ceq K 678 dL_law_268 (by decide) (fun _ => ?_) (fun z => absurd rfl z)
  exact kk u.1 um2 q2 f2 v.1 fp2 fi2 fk2 fs2 v.2 H locs ls u.2 h hl

set_option maxHeartbeats 4000000 in
set_option maxRecDepth 100000 in
theorem law_cell {p0 : Program} {l : Launch} {e : Env} {s : State} {m : MethodId} {below : List Frame} {meth : Method} {c : Code} {H : Heap} {locs : List Loc} {Q : State → Prop} {g : GG} {A : Nat → Prop} {ls : Array Slot} {b0 L : Nat} {xs : Nat → Int32} (K : Cx p0 l room_1 s m #[Value.ref b0] meth c g A code 4 RL ret 10) (hX : va_X b0 L xs s s.heap) (hbl : b0 < s.heap.size) (hbA : ¬ A b0) (hL : L ≤ 2048) {b a : Nat → Nat} {wa : Nat → Nat → Nat} {z : SX} {th : Int32} {um q T i : Nat} {f fw fp fi fk fs ft : Row} (hI : InvZ z f fp fi fk fs um q T) (hT : T < 700000) (hi : i + 4 ≤ L) (h : Hp g A s H locs (lwP g b a wa z th um q f fw fp fi fk fs ft)) (hl : Lq ls 4 [some (.ref b0), some (.ref (b 0)), some (.ref (a 0)), some (.int (nI i))]) (kk : ∀ (z : SX) (um q : Nat) (f fw fp fi fk fs ft : Row) (H : Heap) (locs : List Loc) (ls : Array Slot), InvZ z f fp fi fk fs um q (T + 20) → Hp g A s H locs (lwP g b a wa z (nI 0) um q f fw fp fi fk fs ft) → Lq ls 4 [some (.ref b0), some (.ref (b 0)), some (.ref (a 0)), some (.int (nI i))] → W p0 l e room_1 s m #[Value.ref b0] below meth c H locs 421 10004 Q (F0 m 678 ls [])) : W p0 l e room_1 s m #[Value.ref b0] below meth c H locs 421 10004 Q (F0 m 273 ls []) := by
  obtain ⟨V, pn, sa, sb, sr, rb⟩ := z
  obtain ⟨ans, f2, fp2, fi2, fk2, fs2, um2, q2, dX, dM, hdX, hdM, cX, cM⟩ := both_cell l g V pn sa sb sr rb f fp fi fk fs um q T (by omega) hI (xs (i + 1)) (xs (i + 2))
  refine r_aln K hl 1 dL_law_273 rfl rfl ?_
  refine r_aln K hl 0 dL_law_274 rfl rfl ?_
  refine r_iln K hl 3 dL_law_275 rfl rfl ?_
  refine r_ic K (nI 1) dL_law_276 k_1 ?_
  refine r_addN K dL_law_277 ?_
  refine r_scr K h hX hbl hbA (by omega) (by omega) dL_law_278 ?_
  refine r_aln K hl 0 dL_law_279 rfl rfl ?_
  refine r_iln K hl 3 dL_law_280 rfl rfl ?_
  refine r_ic K (nI 2) dL_law_281 k_2 ?_
  refine r_addN K dL_law_282 ?_
  refine r_scr K h hX hbl hbA (by omega) (by omega) dL_law_283 ?_
  refine r_callVWE K h hl (lwX (cX b wa) _) mc_X5_cell vm_X5_cell mlL_37 0 rfl rfl rfl (fun _ => lwX_fst) (by omega) (by decide) rfl rfl (Nat.le_of_ble_eq_true rfl) ⟨Nat.le_of_ble_eq_true rfl, Nat.le_of_ble_eq_true rfl⟩ dL_law_284 (fun u H locs h => ?_)
  refine W.eq (g2 := F0 m 287 ls [.int ans]) rfl ?_
  refine r_aln K hl 2 dL_law_287 rfl rfl ?_
  refine r_aln K hl 0 dL_law_288 rfl rfl ?_
  refine r_iln K hl 3 dL_law_289 rfl rfl ?_
  refine r_ic K (nI 1) dL_law_290 k_1 ?_
  refine r_addN K dL_law_291 ?_
  refine r_scr K h hX hbl hbA (by omega) (by omega) dL_law_292 ?_
  refine r_aln K hl 0 dL_law_293 rfl rfl ?_
  refine r_iln K hl 3 dL_law_294 rfl rfl ?_
  refine r_ic K (nI 2) dL_law_295 k_2 ?_
  refine r_addN K dL_law_296 ?_
  refine r_scr K h hX hbl hbA (by omega) (by omega) dL_law_297 ?_
  refine r_callVWE K h hl (lwM (cM a th fw ft) _) mc_X6_cell vm_X6_cell mlL_40 413 lwP_m rfl rfl (fun _ => by rw [List.map_append, List.map_append]; rfl) (by omega) (by decide) rfl rfl (Nat.le_of_ble_eq_true rfl) ⟨Nat.le_of_ble_eq_true rfl, Nat.le_of_ble_eq_true rfl⟩ dL_law_298 (fun v H locs h => ?_)
  refine W.eq (g2 := F0 m 301 ls [.int ans, .int ans]) rfl ?_
  refine r_ceq K 678 dL_law_301 (by decide) (fun _ => ?_) (fun z => absurd rfl z)
  exact kk u.1 um2 q2 f2 v.1 fp2 fi2 fk2 fs2 v.2 H locs ls u.2 h hl

set_option maxHeartbeats 4000000 in
set_option maxRecDepth 100000 in
theorem law_writer {p0 : Program} {l : Launch} {e : Env} {s : State} {m : MethodId} {below : List Frame} {meth : Method} {c : Code} {H : Heap} {locs : List Loc} {Q : State → Prop} {g : GG} {A : Nat → Prop} {ls : Array Slot} {b0 L : Nat} {xs : Nat → Int32} (K : Cx p0 l room_1 s m #[Value.ref b0] meth c g A code 4 RL ret 10) (hX : va_X b0 L xs s s.heap) (hbl : b0 < s.heap.size) (hbA : ¬ A b0) (hL : L ≤ 2048) {b a : Nat → Nat} {wa : Nat → Nat → Nat} {z : SX} {th : Int32} {um q T i : Nat} {f fw fp fi fk fs ft : Row} (hI : InvZ z f fp fi fk fs um q T) (hT : T < 700000) (hi : i + 4 ≤ L) (h : Hp g A s H locs (lwP g b a wa z th um q f fw fp fi fk fs ft)) (hl : Lq ls 4 [some (.ref b0), some (.ref (b 0)), some (.ref (a 0)), some (.int (nI i))]) (kk : ∀ (z : SX) (um q : Nat) (f fw fp fi fk fs ft : Row) (H : Heap) (locs : List Loc) (ls : Array Slot), InvZ z f fp fi fk fs um q (T + 20) → Hp g A s H locs (lwP g b a wa z (nI 0) um q f fw fp fi fk fs ft) → Lq ls 4 [some (.ref b0), some (.ref (b 0)), some (.ref (a 0)), some (.int (nI i))] → W p0 l e room_1 s m #[Value.ref b0] below meth c H locs 421 10004 Q (F0 m 678 ls [])) : W p0 l e room_1 s m #[Value.ref b0] below meth c H locs 421 10004 Q (F0 m 306 ls []) := by
  obtain ⟨V, pn, sa, sb, sr, rb⟩ := z
  obtain ⟨ans, f2, fp2, fi2, fk2, fs2, um2, q2, dX, dM, hdX, hdM, cX, cM⟩ := both_writer l g V pn sa sb sr rb f fp fi fk fs um q T (by omega) hI (xs (i + 1)) (xs (i + 2))
  refine r_aln K hl 1 dL_law_306 rfl rfl ?_
  refine r_aln K hl 0 dL_law_307 rfl rfl ?_
  refine r_iln K hl 3 dL_law_308 rfl rfl ?_
  refine r_ic K (nI 1) dL_law_309 k_1 ?_
  refine r_addN K dL_law_310 ?_
  refine r_scr K h hX hbl hbA (by omega) (by omega) dL_law_311 ?_
  refine r_aln K hl 0 dL_law_312 rfl rfl ?_
  refine r_iln K hl 3 dL_law_313 rfl rfl ?_
  refine r_ic K (nI 2) dL_law_314 k_2 ?_
  refine r_addN K dL_law_315 ?_
  refine r_scr K h hX hbl hbA (by omega) (by omega) dL_law_316 ?_
  refine r_callVWE K h hl (lwX (cX b wa) _) mc_X5_writer vm_X5_writer mlL_41 0 rfl rfl rfl (fun _ => lwX_fst) (by omega) (by decide) rfl rfl (Nat.le_of_ble_eq_true rfl) ⟨Nat.le_of_ble_eq_true rfl, Nat.le_of_ble_eq_true rfl⟩ dL_law_317 (fun u H locs h => ?_)
  refine W.eq (g2 := F0 m 320 ls [.int ans]) rfl ?_
  refine r_aln K hl 2 dL_law_320 rfl rfl ?_
  refine r_aln K hl 0 dL_law_321 rfl rfl ?_
  refine r_iln K hl 3 dL_law_322 rfl rfl ?_
  refine r_ic K (nI 1) dL_law_323 k_1 ?_
  refine r_addN K dL_law_324 ?_
  refine r_scr K h hX hbl hbA (by omega) (by omega) dL_law_325 ?_
  refine r_aln K hl 0 dL_law_326 rfl rfl ?_
  refine r_iln K hl 3 dL_law_327 rfl rfl ?_
  refine r_ic K (nI 2) dL_law_328 k_2 ?_
  refine r_addN K dL_law_329 ?_
  refine r_scr K h hX hbl hbA (by omega) (by omega) dL_law_330 ?_
  refine r_callVWE K h hl (lwM (cM a th fw ft) _) mc_X6_writer vm_X6_writer mlL_44 413 lwP_m rfl rfl (fun _ => by rw [List.map_append, List.map_append]; rfl) (by omega) (by decide) rfl rfl (Nat.le_of_ble_eq_true rfl) ⟨Nat.le_of_ble_eq_true rfl, Nat.le_of_ble_eq_true rfl⟩ dL_law_331 (fun v H locs h => ?_)
  refine W.eq (g2 := F0 m 334 ls [.int ans, .int ans]) rfl ?_
  refine r_ceq K 678 dL_law_334 (by decide) (fun _ => ?_) (fun z => absurd rfl z)
  exact kk u.1 um2 q2 f2 v.1 fp2 fi2 fk2 fs2 v.2 H locs ls u.2 h hl

set_option maxHeartbeats 4000000 in
set_option maxRecDepth 100000 in
theorem law_read {p0 : Program} {l : Launch} {e : Env} {s : State} {m : MethodId} {below : List Frame} {meth : Method} {c : Code} {H : Heap} {locs : List Loc} {Q : State → Prop} {g : GG} {A : Nat → Prop} {ls : Array Slot} {b0 L : Nat} {xs : Nat → Int32} (K : Cx p0 l room_1 s m #[Value.ref b0] meth c g A code 4 RL ret 10) (hX : va_X b0 L xs s s.heap) (hbl : b0 < s.heap.size) (hbA : ¬ A b0) (hL : L ≤ 2048) {b a : Nat → Nat} {wa : Nat → Nat → Nat} {z : SX} {th : Int32} {um q T i : Nat} {f fw fp fi fk fs ft : Row} (hI : InvZ z f fp fi fk fs um q T) (hT : T < 700000) (hi : i + 4 ≤ L) (h : Hp g A s H locs (lwP g b a wa z th um q f fw fp fi fk fs ft)) (hl : Lq ls 4 [some (.ref b0), some (.ref (b 0)), some (.ref (a 0)), some (.int (nI i))]) (kk : ∀ (z : SX) (um q : Nat) (f fw fp fi fk fs ft : Row) (H : Heap) (locs : List Loc) (ls : Array Slot), InvZ z f fp fi fk fs um q (T + 20) → Hp g A s H locs (lwP g b a wa z (nI 0) um q f fw fp fi fk fs ft) → Lq ls 4 [some (.ref b0), some (.ref (b 0)), some (.ref (a 0)), some (.int (nI i))] → W p0 l e room_1 s m #[Value.ref b0] below meth c H locs 421 10004 Q (F0 m 678 ls [])) : W p0 l e room_1 s m #[Value.ref b0] below meth c H locs 421 10004 Q (F0 m 339 ls []) := by
  obtain ⟨V, pn, sa, sb, sr, rb⟩ := z
  obtain ⟨ans, f2, fp2, fi2, fk2, fs2, um2, q2, dX, dM, hdX, hdM, cX, cM⟩ := both_read l g V pn sa sb sr rb f fp fi fk fs um q T (by omega) hI (xs (i + 1)) (xs (i + 2)) (xs (i + 3))
  refine r_aln K hl 1 dL_law_339 rfl rfl ?_
  refine r_aln K hl 0 dL_law_340 rfl rfl ?_
  refine r_iln K hl 3 dL_law_341 rfl rfl ?_
  refine r_ic K (nI 1) dL_law_342 k_1 ?_
  refine r_addN K dL_law_343 ?_
  refine r_scr K h hX hbl hbA (by omega) (by omega) dL_law_344 ?_
  refine r_aln K hl 0 dL_law_345 rfl rfl ?_
  refine r_iln K hl 3 dL_law_346 rfl rfl ?_
  refine r_ic K (nI 2) dL_law_347 k_2 ?_
  refine r_addN K dL_law_348 ?_
  refine r_scr K h hX hbl hbA (by omega) (by omega) dL_law_349 ?_
  refine r_aln K hl 0 dL_law_350 rfl rfl ?_
  refine r_iln K hl 3 dL_law_351 rfl rfl ?_
  refine r_ic K (nI 3) dL_law_352 k_3 ?_
  refine r_addN K dL_law_353 ?_
  refine r_scr K h hX hbl hbA (by omega) (by omega) dL_law_354 ?_
  refine r_callVWE K h hl (lwX (cX b wa) _) mc_X5_read vm_X5_read mlL_45 0 rfl rfl rfl (fun _ => lwX_fst) (by omega) (by decide) rfl rfl (Nat.le_of_ble_eq_true rfl) ⟨Nat.le_of_ble_eq_true rfl, Nat.le_of_ble_eq_true rfl⟩ dL_law_355 (fun u H locs h => ?_)
  refine W.eq (g2 := F0 m 358 ls [.int ans]) rfl ?_
  refine r_aln K hl 2 dL_law_358 rfl rfl ?_
  refine r_aln K hl 0 dL_law_359 rfl rfl ?_
  refine r_iln K hl 3 dL_law_360 rfl rfl ?_
  refine r_ic K (nI 1) dL_law_361 k_1 ?_
  refine r_addN K dL_law_362 ?_
  refine r_scr K h hX hbl hbA (by omega) (by omega) dL_law_363 ?_
  refine r_aln K hl 0 dL_law_364 rfl rfl ?_
  refine r_iln K hl 3 dL_law_365 rfl rfl ?_
  refine r_ic K (nI 2) dL_law_366 k_2 ?_
  refine r_addN K dL_law_367 ?_
  refine r_scr K h hX hbl hbA (by omega) (by omega) dL_law_368 ?_
  refine r_aln K hl 0 dL_law_369 rfl rfl ?_
  refine r_iln K hl 3 dL_law_370 rfl rfl ?_
  refine r_ic K (nI 3) dL_law_371 k_3 ?_
  refine r_addN K dL_law_372 ?_
  refine r_scr K h hX hbl hbA (by omega) (by omega) dL_law_373 ?_
  refine r_callVWE K h hl (lwM (cM a th fw ft) _) mc_X6_read vm_X6_read mlL_48 413 lwP_m rfl rfl (fun _ => by rw [List.map_append, List.map_append]; rfl) (by omega) (by decide) rfl rfl (Nat.le_of_ble_eq_true rfl) ⟨Nat.le_of_ble_eq_true rfl, Nat.le_of_ble_eq_true rfl⟩ dL_law_374 (fun v H locs h => ?_)
  refine W.eq (g2 := F0 m 377 ls [.int ans, .int ans]) rfl ?_
  refine r_ceq K 678 dL_law_377 (by decide) (fun _ => ?_) (fun z => absurd rfl z)
  exact kk u.1 um2 q2 f2 v.1 fp2 fi2 fk2 fs2 v.2 H locs ls u.2 h hl

set_option maxHeartbeats 4000000 in
set_option maxRecDepth 100000 in
theorem law_photo {p0 : Program} {l : Launch} {e : Env} {s : State} {m : MethodId} {below : List Frame} {meth : Method} {c : Code} {H : Heap} {locs : List Loc} {Q : State → Prop} {g : GG} {A : Nat → Prop} {ls : Array Slot} {b0 L : Nat} {xs : Nat → Int32} (K : Cx p0 l room_1 s m #[Value.ref b0] meth c g A code 4 RL ret 10) (hX : va_X b0 L xs s s.heap) (hbl : b0 < s.heap.size) (hbA : ¬ A b0) (hL : L ≤ 2048) {b a : Nat → Nat} {wa : Nat → Nat → Nat} {z : SX} {th : Int32} {um q T i : Nat} {f fw fp fi fk fs ft : Row} (hI : InvZ z f fp fi fk fs um q T) (hT : T < 700000) (hi : i + 4 ≤ L) (h : Hp g A s H locs (lwP g b a wa z th um q f fw fp fi fk fs ft)) (hl : Lq ls 4 [some (.ref b0), some (.ref (b 0)), some (.ref (a 0)), some (.int (nI i))]) (kk : ∀ (z : SX) (um q : Nat) (f fw fp fi fk fs ft : Row) (H : Heap) (locs : List Loc) (ls : Array Slot), InvZ z f fp fi fk fs um q (T + 20) → Hp g A s H locs (lwP g b a wa z (nI 0) um q f fw fp fi fk fs ft) → Lq ls 4 [some (.ref b0), some (.ref (b 0)), some (.ref (a 0)), some (.int (nI i))] → W p0 l e room_1 s m #[Value.ref b0] below meth c H locs 421 10004 Q (F0 m 678 ls [])) : W p0 l e room_1 s m #[Value.ref b0] below meth c H locs 421 10004 Q (F0 m 382 ls []) := by
  obtain ⟨V, pn, sa, sb, sr, rb⟩ := z
  obtain ⟨ans, f2, fp2, fi2, fk2, fs2, um2, q2, dX, dM, hdX, hdM, cX, cM⟩ := both_photo l g V pn sa sb sr rb f fp fi fk fs um q T (by omega) hI (xs (i + 1)) (xs (i + 2))
  refine r_aln K hl 1 dL_law_382 rfl rfl ?_
  refine r_aln K hl 0 dL_law_383 rfl rfl ?_
  refine r_iln K hl 3 dL_law_384 rfl rfl ?_
  refine r_ic K (nI 1) dL_law_385 k_1 ?_
  refine r_addN K dL_law_386 ?_
  refine r_scr K h hX hbl hbA (by omega) (by omega) dL_law_387 ?_
  refine r_aln K hl 0 dL_law_388 rfl rfl ?_
  refine r_iln K hl 3 dL_law_389 rfl rfl ?_
  refine r_ic K (nI 2) dL_law_390 k_2 ?_
  refine r_addN K dL_law_391 ?_
  refine r_scr K h hX hbl hbA (by omega) (by omega) dL_law_392 ?_
  refine r_callVWE K h hl (lwX (cX b wa) _) mc_X5_photo vm_X5_photo mlL_49 0 rfl rfl rfl (fun _ => lwX_fst) (by omega) (by decide) rfl rfl (Nat.le_of_ble_eq_true rfl) ⟨Nat.le_of_ble_eq_true rfl, Nat.le_of_ble_eq_true rfl⟩ dL_law_393 (fun u H locs h => ?_)
  refine W.eq (g2 := F0 m 396 ls [.int ans]) rfl ?_
  refine r_aln K hl 2 dL_law_396 rfl rfl ?_
  refine r_aln K hl 0 dL_law_397 rfl rfl ?_
  refine r_iln K hl 3 dL_law_398 rfl rfl ?_
  refine r_ic K (nI 1) dL_law_399 k_1 ?_
  refine r_addN K dL_law_400 ?_
  refine r_scr K h hX hbl hbA (by omega) (by omega) dL_law_401 ?_
  refine r_aln K hl 0 dL_law_402 rfl rfl ?_
  refine r_iln K hl 3 dL_law_403 rfl rfl ?_
  refine r_ic K (nI 2) dL_law_404 k_2 ?_
  refine r_addN K dL_law_405 ?_
  refine r_scr K h hX hbl hbA (by omega) (by omega) dL_law_406 ?_
  refine r_callVWE K h hl (lwM (cM a th fw ft) _) mc_X6_photo vm_X6_photo mlL_52 413 lwP_m rfl rfl (fun _ => by rw [List.map_append, List.map_append]; rfl) (by omega) (by decide) rfl rfl (Nat.le_of_ble_eq_true rfl) ⟨Nat.le_of_ble_eq_true rfl, Nat.le_of_ble_eq_true rfl⟩ dL_law_407 (fun v H locs h => ?_)
  refine W.eq (g2 := F0 m 410 ls [.int ans, .int ans]) rfl ?_
  refine r_ceq K 678 dL_law_410 (by decide) (fun _ => ?_) (fun z => absurd rfl z)
  exact kk u.1 um2 q2 f2 v.1 fp2 fi2 fk2 fs2 v.2 H locs ls u.2 h hl

set_option maxHeartbeats 4000000 in
set_option maxRecDepth 100000 in
theorem law_lone {p0 : Program} {l : Launch} {e : Env} {s : State} {m : MethodId} {below : List Frame} {meth : Method} {c : Code} {H : Heap} {locs : List Loc} {Q : State → Prop} {g : GG} {A : Nat → Prop} {ls : Array Slot} {b0 L : Nat} {xs : Nat → Int32} (K : Cx p0 l room_1 s m #[Value.ref b0] meth c g A code 4 RL ret 10) (hX : va_X b0 L xs s s.heap) (hbl : b0 < s.heap.size) (hbA : ¬ A b0) (hL : L ≤ 2048) {b a : Nat → Nat} {wa : Nat → Nat → Nat} {z : SX} {th : Int32} {um q T i : Nat} {f fw fp fi fk fs ft : Row} (hI : InvZ z f fp fi fk fs um q T) (hT : T < 700000) (hi : i + 4 ≤ L) (h : Hp g A s H locs (lwP g b a wa z th um q f fw fp fi fk fs ft)) (hl : Lq ls 4 [some (.ref b0), some (.ref (b 0)), some (.ref (a 0)), some (.int (nI i))]) (kk : ∀ (z : SX) (um q : Nat) (f fw fp fi fk fs ft : Row) (H : Heap) (locs : List Loc) (ls : Array Slot), InvZ z f fp fi fk fs um q (T + 20) → Hp g A s H locs (lwP g b a wa z (nI 0) um q f fw fp fi fk fs ft) → Lq ls 4 [some (.ref b0), some (.ref (b 0)), some (.ref (a 0)), some (.int (nI i))] → W p0 l e room_1 s m #[Value.ref b0] below meth c H locs 421 10004 Q (F0 m 678 ls [])) : W p0 l e room_1 s m #[Value.ref b0] below meth c H locs 421 10004 Q (F0 m 415 ls []) := by
  obtain ⟨V, pn, sa, sb, sr, rb⟩ := z
  obtain ⟨ans, f2, fp2, fi2, fk2, fs2, um2, q2, dX, dM, hdX, hdM, cX, cM⟩ := both_lone l g V pn sa sb sr rb f fp fi fk fs um q T (by omega) hI (xs (i + 1))
  refine r_aln K hl 1 dL_law_415 rfl rfl ?_
  refine r_aln K hl 0 dL_law_416 rfl rfl ?_
  refine r_iln K hl 3 dL_law_417 rfl rfl ?_
  refine r_ic K (nI 1) dL_law_418 k_1 ?_
  refine r_addN K dL_law_419 ?_
  refine r_scr K h hX hbl hbA (by omega) (by omega) dL_law_420 ?_
  refine r_callVWE K h hl (lwX (cX b wa) _) mc_X5_lone vm_X5_lone mlL_53 0 rfl rfl rfl (fun _ => lwX_fst) (by omega) (by decide) rfl rfl (Nat.le_of_ble_eq_true rfl) ⟨Nat.le_of_ble_eq_true rfl, Nat.le_of_ble_eq_true rfl⟩ dL_law_421 (fun u H locs h => ?_)
  refine W.eq (g2 := F0 m 424 ls [.int ans]) rfl ?_
  refine r_aln K hl 2 dL_law_424 rfl rfl ?_
  refine r_aln K hl 0 dL_law_425 rfl rfl ?_
  refine r_iln K hl 3 dL_law_426 rfl rfl ?_
  refine r_ic K (nI 1) dL_law_427 k_1 ?_
  refine r_addN K dL_law_428 ?_
  refine r_scr K h hX hbl hbA (by omega) (by omega) dL_law_429 ?_
  refine r_callVWE K h hl (lwM (cM a th fw ft) _) mc_X6_lone vm_X6_lone mlL_56 413 lwP_m rfl rfl (fun _ => by rw [List.map_append, List.map_append]; rfl) (by omega) (by decide) rfl rfl (Nat.le_of_ble_eq_true rfl) ⟨Nat.le_of_ble_eq_true rfl, Nat.le_of_ble_eq_true rfl⟩ dL_law_430 (fun v H locs h => ?_)
  refine W.eq (g2 := F0 m 433 ls [.int ans, .int ans]) rfl ?_
  refine r_ceq K 678 dL_law_433 (by decide) (fun _ => ?_) (fun z => absurd rfl z)
  exact kk u.1 um2 q2 f2 v.1 fp2 fi2 fk2 fs2 v.2 H locs ls u.2 h hl

set_option maxHeartbeats 4000000 in
set_option maxRecDepth 100000 in
theorem law_byTurns {p0 : Program} {l : Launch} {e : Env} {s : State} {m : MethodId} {below : List Frame} {meth : Method} {c : Code} {H : Heap} {locs : List Loc} {Q : State → Prop} {g : GG} {A : Nat → Prop} {ls : Array Slot} {b0 L : Nat} {xs : Nat → Int32} (K : Cx p0 l room_1 s m #[Value.ref b0] meth c g A code 4 RL ret 10) (hX : va_X b0 L xs s s.heap) (hbl : b0 < s.heap.size) (hbA : ¬ A b0) (hL : L ≤ 2048) {b a : Nat → Nat} {wa : Nat → Nat → Nat} {z : SX} {th : Int32} {um q T i : Nat} {f fw fp fi fk fs ft : Row} (hI : InvZ z f fp fi fk fs um q T) (hT : T < 700000) (hi : i + 4 ≤ L) (h : Hp g A s H locs (lwP g b a wa z th um q f fw fp fi fk fs ft)) (hl : Lq ls 4 [some (.ref b0), some (.ref (b 0)), some (.ref (a 0)), some (.int (nI i))]) (kk : ∀ (z : SX) (um q : Nat) (f fw fp fi fk fs ft : Row) (H : Heap) (locs : List Loc) (ls : Array Slot), InvZ z f fp fi fk fs um q (T + 20) → Hp g A s H locs (lwP g b a wa z (nI 0) um q f fw fp fi fk fs ft) → Lq ls 4 [some (.ref b0), some (.ref (b 0)), some (.ref (a 0)), some (.int (nI i))] → W p0 l e room_1 s m #[Value.ref b0] below meth c H locs 421 10004 Q (F0 m 678 ls [])) : W p0 l e room_1 s m #[Value.ref b0] below meth c H locs 421 10004 Q (F0 m 438 ls []) := by
  obtain ⟨V, pn, sa, sb, sr, rb⟩ := z
  obtain ⟨ans, f2, fp2, fi2, fk2, fs2, um2, q2, dX, dM, hdX, hdM, cX, cM⟩ := both_byTurns l g V pn sa sb sr rb f fp fi fk fs um q T (by omega) hI 
  refine r_aln K hl 1 dL_law_438 rfl rfl ?_
  refine r_callVWE K h hl (lwX (cX b wa) _) mc_X5_byTurns vm_X5_byTurns mlL_57 0 rfl rfl rfl (fun _ => lwX_fst) (by omega) (by decide) rfl rfl (Nat.le_of_ble_eq_true rfl) ⟨Nat.le_of_ble_eq_true rfl, Nat.le_of_ble_eq_true rfl⟩ dL_law_439 (fun u H locs h => ?_)
  refine W.eq (g2 := F0 m 442 ls [.int ans]) rfl ?_
  refine r_aln K hl 2 dL_law_442 rfl rfl ?_
  refine r_callVWE K h hl (lwM (cM a th fw ft) _) mc_X6_byTurns vm_X6_byTurns mlL_60 413 lwP_m rfl rfl (fun _ => by rw [List.map_append, List.map_append]; rfl) (by omega) (by decide) rfl rfl (Nat.le_of_ble_eq_true rfl) ⟨Nat.le_of_ble_eq_true rfl, Nat.le_of_ble_eq_true rfl⟩ dL_law_443 (fun v H locs h => ?_)
  refine W.eq (g2 := F0 m 446 ls [.int ans, .int ans]) rfl ?_
  refine r_ceq K 678 dL_law_446 (by decide) (fun _ => ?_) (fun z => absurd rfl z)
  exact kk u.1 um2 q2 f2 v.1 fp2 fi2 fk2 fs2 v.2 H locs ls u.2 h hl

set_option maxHeartbeats 4000000 in
set_option maxRecDepth 100000 in
theorem law_reads {p0 : Program} {l : Launch} {e : Env} {s : State} {m : MethodId} {below : List Frame} {meth : Method} {c : Code} {H : Heap} {locs : List Loc} {Q : State → Prop} {g : GG} {A : Nat → Prop} {ls : Array Slot} {b0 L : Nat} {xs : Nat → Int32} (K : Cx p0 l room_1 s m #[Value.ref b0] meth c g A code 4 RL ret 10) (hX : va_X b0 L xs s s.heap) (hbl : b0 < s.heap.size) (hbA : ¬ A b0) (hL : L ≤ 2048) {b a : Nat → Nat} {wa : Nat → Nat → Nat} {z : SX} {th : Int32} {um q T i : Nat} {f fw fp fi fk fs ft : Row} (hI : InvZ z f fp fi fk fs um q T) (hT : T < 700000) (hi : i + 4 ≤ L) (h : Hp g A s H locs (lwP g b a wa z th um q f fw fp fi fk fs ft)) (hl : Lq ls 4 [some (.ref b0), some (.ref (b 0)), some (.ref (a 0)), some (.int (nI i))]) (kk : ∀ (z : SX) (um q : Nat) (f fw fp fi fk fs ft : Row) (H : Heap) (locs : List Loc) (ls : Array Slot), InvZ z f fp fi fk fs um q (T + 20) → Hp g A s H locs (lwP g b a wa z (nI 0) um q f fw fp fi fk fs ft) → Lq ls 4 [some (.ref b0), some (.ref (b 0)), some (.ref (a 0)), some (.int (nI i))] → W p0 l e room_1 s m #[Value.ref b0] below meth c H locs 421 10004 Q (F0 m 678 ls [])) : W p0 l e room_1 s m #[Value.ref b0] below meth c H locs 421 10004 Q (F0 m 451 ls []) := by
  obtain ⟨V, pn, sa, sb, sr, rb⟩ := z
  obtain ⟨ans, f2, fp2, fi2, fk2, fs2, um2, q2, dX, dM, hdX, hdM, cX, cM⟩ := both_reads l g V pn sa sb sr rb f fp fi fk fs um q T (by omega) hI (xs (i + 1)) (xs (i + 2))
  refine r_aln K hl 1 dL_law_451 rfl rfl ?_
  refine r_aln K hl 0 dL_law_452 rfl rfl ?_
  refine r_iln K hl 3 dL_law_453 rfl rfl ?_
  refine r_ic K (nI 1) dL_law_454 k_1 ?_
  refine r_addN K dL_law_455 ?_
  refine r_scr K h hX hbl hbA (by omega) (by omega) dL_law_456 ?_
  refine r_aln K hl 0 dL_law_457 rfl rfl ?_
  refine r_iln K hl 3 dL_law_458 rfl rfl ?_
  refine r_ic K (nI 2) dL_law_459 k_2 ?_
  refine r_addN K dL_law_460 ?_
  refine r_scr K h hX hbl hbA (by omega) (by omega) dL_law_461 ?_
  refine r_callVWE K h hl (lwX (cX b wa) _) mc_X5_reads vm_X5_reads mlL_61 0 rfl rfl rfl (fun _ => lwX_fst) (by omega) (by decide) rfl rfl (Nat.le_of_ble_eq_true rfl) ⟨Nat.le_of_ble_eq_true rfl, Nat.le_of_ble_eq_true rfl⟩ dL_law_462 (fun u H locs h => ?_)
  refine W.eq (g2 := F0 m 465 ls [.int ans]) rfl ?_
  refine r_aln K hl 2 dL_law_465 rfl rfl ?_
  refine r_aln K hl 0 dL_law_466 rfl rfl ?_
  refine r_iln K hl 3 dL_law_467 rfl rfl ?_
  refine r_ic K (nI 1) dL_law_468 k_1 ?_
  refine r_addN K dL_law_469 ?_
  refine r_scr K h hX hbl hbA (by omega) (by omega) dL_law_470 ?_
  refine r_aln K hl 0 dL_law_471 rfl rfl ?_
  refine r_iln K hl 3 dL_law_472 rfl rfl ?_
  refine r_ic K (nI 2) dL_law_473 k_2 ?_
  refine r_addN K dL_law_474 ?_
  refine r_scr K h hX hbl hbA (by omega) (by omega) dL_law_475 ?_
  refine r_callVWE K h hl (lwM (cM a th fw ft) _) mc_X6_reads vm_X6_reads mlL_64 413 lwP_m rfl rfl (fun _ => by rw [List.map_append, List.map_append]; rfl) (by omega) (by decide) rfl rfl (Nat.le_of_ble_eq_true rfl) ⟨Nat.le_of_ble_eq_true rfl, Nat.le_of_ble_eq_true rfl⟩ dL_law_476 (fun v H locs h => ?_)
  refine W.eq (g2 := F0 m 479 ls [.int ans, .int ans]) rfl ?_
  refine r_ceq K 678 dL_law_479 (by decide) (fun _ => ?_) (fun z => absurd rfl z)
  exact kk u.1 um2 q2 f2 v.1 fp2 fi2 fk2 fs2 v.2 H locs ls u.2 h hl

set_option maxHeartbeats 4000000 in
set_option maxRecDepth 100000 in
theorem law_trial {p0 : Program} {l : Launch} {e : Env} {s : State} {m : MethodId} {below : List Frame} {meth : Method} {c : Code} {H : Heap} {locs : List Loc} {Q : State → Prop} {g : GG} {A : Nat → Prop} {ls : Array Slot} {b0 L : Nat} {xs : Nat → Int32} (K : Cx p0 l room_1 s m #[Value.ref b0] meth c g A code 4 RL ret 10) (hX : va_X b0 L xs s s.heap) (hbl : b0 < s.heap.size) (hbA : ¬ A b0) (hL : L ≤ 2048) {b a : Nat → Nat} {wa : Nat → Nat → Nat} {z : SX} {th : Int32} {um q T i : Nat} {f fw fp fi fk fs ft : Row} (hI : InvZ z f fp fi fk fs um q T) (hT : T < 700000) (hi : i + 4 ≤ L) (h : Hp g A s H locs (lwP g b a wa z th um q f fw fp fi fk fs ft)) (hl : Lq ls 4 [some (.ref b0), some (.ref (b 0)), some (.ref (a 0)), some (.int (nI i))]) (kk : ∀ (z : SX) (um q : Nat) (f fw fp fi fk fs ft : Row) (H : Heap) (locs : List Loc) (ls : Array Slot), InvZ z f fp fi fk fs um q (T + 20) → Hp g A s H locs (lwP g b a wa z (nI 0) um q f fw fp fi fk fs ft) → Lq ls 4 [some (.ref b0), some (.ref (b 0)), some (.ref (a 0)), some (.int (nI i))] → W p0 l e room_1 s m #[Value.ref b0] below meth c H locs 421 10004 Q (F0 m 678 ls [])) : W p0 l e room_1 s m #[Value.ref b0] below meth c H locs 421 10004 Q (F0 m 484 ls []) := by
  obtain ⟨V, pn, sa, sb, sr, rb⟩ := z
  obtain ⟨ans, f2, fp2, fi2, fk2, fs2, um2, q2, dX, dM, hdX, hdM, cX, cM⟩ := both_trial l g V pn sa sb sr rb f fp fi fk fs um q T (by omega) hI (xs (i + 1)) (xs (i + 2)) (xs (i + 3))
  refine r_aln K hl 1 dL_law_484 rfl rfl ?_
  refine r_aln K hl 0 dL_law_485 rfl rfl ?_
  refine r_iln K hl 3 dL_law_486 rfl rfl ?_
  refine r_ic K (nI 1) dL_law_487 k_1 ?_
  refine r_addN K dL_law_488 ?_
  refine r_scr K h hX hbl hbA (by omega) (by omega) dL_law_489 ?_
  refine r_aln K hl 0 dL_law_490 rfl rfl ?_
  refine r_iln K hl 3 dL_law_491 rfl rfl ?_
  refine r_ic K (nI 2) dL_law_492 k_2 ?_
  refine r_addN K dL_law_493 ?_
  refine r_scr K h hX hbl hbA (by omega) (by omega) dL_law_494 ?_
  refine r_aln K hl 0 dL_law_495 rfl rfl ?_
  refine r_iln K hl 3 dL_law_496 rfl rfl ?_
  refine r_ic K (nI 3) dL_law_497 k_3 ?_
  refine r_addN K dL_law_498 ?_
  refine r_scr K h hX hbl hbA (by omega) (by omega) dL_law_499 ?_
  refine r_callVWE K h hl (lwX (cX b wa) _) mc_X5_trial vm_X5_trial mlL_65 0 rfl rfl rfl (fun _ => lwX_fst) (by omega) (by decide) rfl rfl (Nat.le_of_ble_eq_true rfl) ⟨Nat.le_of_ble_eq_true rfl, Nat.le_of_ble_eq_true rfl⟩ dL_law_500 (fun u H locs h => ?_)
  refine W.eq (g2 := F0 m 503 ls [.int ans]) rfl ?_
  refine r_aln K hl 2 dL_law_503 rfl rfl ?_
  refine r_aln K hl 0 dL_law_504 rfl rfl ?_
  refine r_iln K hl 3 dL_law_505 rfl rfl ?_
  refine r_ic K (nI 1) dL_law_506 k_1 ?_
  refine r_addN K dL_law_507 ?_
  refine r_scr K h hX hbl hbA (by omega) (by omega) dL_law_508 ?_
  refine r_aln K hl 0 dL_law_509 rfl rfl ?_
  refine r_iln K hl 3 dL_law_510 rfl rfl ?_
  refine r_ic K (nI 2) dL_law_511 k_2 ?_
  refine r_addN K dL_law_512 ?_
  refine r_scr K h hX hbl hbA (by omega) (by omega) dL_law_513 ?_
  refine r_aln K hl 0 dL_law_514 rfl rfl ?_
  refine r_iln K hl 3 dL_law_515 rfl rfl ?_
  refine r_ic K (nI 3) dL_law_516 k_3 ?_
  refine r_addN K dL_law_517 ?_
  refine r_scr K h hX hbl hbA (by omega) (by omega) dL_law_518 ?_
  refine r_callVWE K h hl (lwM (cM a th fw ft) _) mc_X6_trial vm_X6_trial mlL_68 413 lwP_m rfl rfl (fun _ => by rw [List.map_append, List.map_append]; rfl) (by omega) (by decide) rfl rfl (Nat.le_of_ble_eq_true rfl) ⟨Nat.le_of_ble_eq_true rfl, Nat.le_of_ble_eq_true rfl⟩ dL_law_519 (fun v H locs h => ?_)
  refine W.eq (g2 := F0 m 522 ls [.int ans, .int ans]) rfl ?_
  refine r_ceq K 678 dL_law_522 (by decide) (fun _ => ?_) (fun z => absurd rfl z)
  exact kk u.1 um2 q2 f2 v.1 fp2 fi2 fk2 fs2 v.2 H locs ls u.2 h hl

set_option maxHeartbeats 4000000 in
set_option maxRecDepth 100000 in
theorem law_sees {p0 : Program} {l : Launch} {e : Env} {s : State} {m : MethodId} {below : List Frame} {meth : Method} {c : Code} {H : Heap} {locs : List Loc} {Q : State → Prop} {g : GG} {A : Nat → Prop} {ls : Array Slot} {b0 L : Nat} {xs : Nat → Int32} (K : Cx p0 l room_1 s m #[Value.ref b0] meth c g A code 4 RL ret 10) (hX : va_X b0 L xs s s.heap) (hbl : b0 < s.heap.size) (hbA : ¬ A b0) (hL : L ≤ 2048) {b a : Nat → Nat} {wa : Nat → Nat → Nat} {z : SX} {th : Int32} {um q T i : Nat} {f fw fp fi fk fs ft : Row} (hI : InvZ z f fp fi fk fs um q T) (hT : T < 700000) (hi : i + 4 ≤ L) (h : Hp g A s H locs (lwP g b a wa z th um q f fw fp fi fk fs ft)) (hl : Lq ls 4 [some (.ref b0), some (.ref (b 0)), some (.ref (a 0)), some (.int (nI i))]) (kk : ∀ (z : SX) (um q : Nat) (f fw fp fi fk fs ft : Row) (H : Heap) (locs : List Loc) (ls : Array Slot), InvZ z f fp fi fk fs um q (T + 20) → Hp g A s H locs (lwP g b a wa z (nI 0) um q f fw fp fi fk fs ft) → Lq ls 4 [some (.ref b0), some (.ref (b 0)), some (.ref (a 0)), some (.int (nI i))] → W p0 l e room_1 s m #[Value.ref b0] below meth c H locs 421 10004 Q (F0 m 678 ls [])) : W p0 l e room_1 s m #[Value.ref b0] below meth c H locs 421 10004 Q (F0 m 527 ls []) := by
  obtain ⟨V, pn, sa, sb, sr, rb⟩ := z
  obtain ⟨ans, f2, fp2, fi2, fk2, fs2, um2, q2, dX, dM, hdX, hdM, cX, cM⟩ := both_sees l g V pn sa sb sr rb f fp fi fk fs um q T (by omega) hI (xs (i + 1)) (xs (i + 2)) (xs (i + 3))
  refine r_aln K hl 1 dL_law_527 rfl rfl ?_
  refine r_aln K hl 0 dL_law_528 rfl rfl ?_
  refine r_iln K hl 3 dL_law_529 rfl rfl ?_
  refine r_ic K (nI 1) dL_law_530 k_1 ?_
  refine r_addN K dL_law_531 ?_
  refine r_scr K h hX hbl hbA (by omega) (by omega) dL_law_532 ?_
  refine r_aln K hl 0 dL_law_533 rfl rfl ?_
  refine r_iln K hl 3 dL_law_534 rfl rfl ?_
  refine r_ic K (nI 2) dL_law_535 k_2 ?_
  refine r_addN K dL_law_536 ?_
  refine r_scr K h hX hbl hbA (by omega) (by omega) dL_law_537 ?_
  refine r_aln K hl 0 dL_law_538 rfl rfl ?_
  refine r_iln K hl 3 dL_law_539 rfl rfl ?_
  refine r_ic K (nI 3) dL_law_540 k_3 ?_
  refine r_addN K dL_law_541 ?_
  refine r_scr K h hX hbl hbA (by omega) (by omega) dL_law_542 ?_
  refine r_callVWE K h hl (lwX (cX b wa) _) mc_X5_sees vm_X5_sees mlL_69 0 rfl rfl rfl (fun _ => lwX_fst) (by omega) (by decide) rfl rfl (Nat.le_of_ble_eq_true rfl) ⟨Nat.le_of_ble_eq_true rfl, Nat.le_of_ble_eq_true rfl⟩ dL_law_543 (fun u H locs h => ?_)
  refine W.eq (g2 := F0 m 546 ls [.int ans]) rfl ?_
  refine r_aln K hl 2 dL_law_546 rfl rfl ?_
  refine r_aln K hl 0 dL_law_547 rfl rfl ?_
  refine r_iln K hl 3 dL_law_548 rfl rfl ?_
  refine r_ic K (nI 1) dL_law_549 k_1 ?_
  refine r_addN K dL_law_550 ?_
  refine r_scr K h hX hbl hbA (by omega) (by omega) dL_law_551 ?_
  refine r_aln K hl 0 dL_law_552 rfl rfl ?_
  refine r_iln K hl 3 dL_law_553 rfl rfl ?_
  refine r_ic K (nI 2) dL_law_554 k_2 ?_
  refine r_addN K dL_law_555 ?_
  refine r_scr K h hX hbl hbA (by omega) (by omega) dL_law_556 ?_
  refine r_aln K hl 0 dL_law_557 rfl rfl ?_
  refine r_iln K hl 3 dL_law_558 rfl rfl ?_
  refine r_ic K (nI 3) dL_law_559 k_3 ?_
  refine r_addN K dL_law_560 ?_
  refine r_scr K h hX hbl hbA (by omega) (by omega) dL_law_561 ?_
  refine r_callVWE K h hl (lwM (cM a th fw ft) _) mc_X6_sees vm_X6_sees mlL_72 413 lwP_m rfl rfl (fun _ => by rw [List.map_append, List.map_append]; rfl) (by omega) (by decide) rfl rfl (Nat.le_of_ble_eq_true rfl) ⟨Nat.le_of_ble_eq_true rfl, Nat.le_of_ble_eq_true rfl⟩ dL_law_562 (fun v H locs h => ?_)
  refine W.eq (g2 := F0 m 565 ls [.int ans, .int ans]) rfl ?_
  refine r_ceq K 678 dL_law_565 (by decide) (fun _ => ?_) (fun z => absurd rfl z)
  exact kk u.1 um2 q2 f2 v.1 fp2 fi2 fk2 fs2 v.2 H locs ls u.2 h hl

set_option maxHeartbeats 4000000 in
set_option maxRecDepth 100000 in
theorem law_forget {p0 : Program} {l : Launch} {e : Env} {s : State} {m : MethodId} {below : List Frame} {meth : Method} {c : Code} {H : Heap} {locs : List Loc} {Q : State → Prop} {g : GG} {A : Nat → Prop} {ls : Array Slot} {b0 L : Nat} {xs : Nat → Int32} (K : Cx p0 l room_1 s m #[Value.ref b0] meth c g A code 4 RL ret 10) (hX : va_X b0 L xs s s.heap) (hbl : b0 < s.heap.size) (hbA : ¬ A b0) (hL : L ≤ 2048) {b a : Nat → Nat} {wa : Nat → Nat → Nat} {z : SX} {th : Int32} {um q T i : Nat} {f fw fp fi fk fs ft : Row} (hI : InvZ z f fp fi fk fs um q T) (hT : T < 700000) (hi : i + 4 ≤ L) (h : Hp g A s H locs (lwP g b a wa z th um q f fw fp fi fk fs ft)) (hl : Lq ls 4 [some (.ref b0), some (.ref (b 0)), some (.ref (a 0)), some (.int (nI i))]) (kk : ∀ (z : SX) (um q : Nat) (f fw fp fi fk fs ft : Row) (H : Heap) (locs : List Loc) (ls : Array Slot), InvZ z f fp fi fk fs um q (T + 20) → Hp g A s H locs (lwP g b a wa z (nI 0) um q f fw fp fi fk fs ft) → Lq ls 4 [some (.ref b0), some (.ref (b 0)), some (.ref (a 0)), some (.int (nI i))] → W p0 l e room_1 s m #[Value.ref b0] below meth c H locs 421 10004 Q (F0 m 678 ls [])) : W p0 l e room_1 s m #[Value.ref b0] below meth c H locs 421 10004 Q (F0 m 570 ls []) := by
  obtain ⟨V, pn, sa, sb, sr, rb⟩ := z
  obtain ⟨ans, f2, fp2, fi2, fk2, fs2, um2, q2, dX, dM, hdX, hdM, cX, cM⟩ := both_forget l g V pn sa sb sr rb f fp fi fk fs um q T (by omega) hI 
  refine r_aln K hl 1 dL_law_570 rfl rfl ?_
  refine r_callVWE K h hl (lwX (cX b wa) _) mc_X5_forget vm_X5_forget mlL_73 0 rfl rfl rfl (fun _ => lwX_fst) (by omega) (by decide) rfl rfl (Nat.le_of_ble_eq_true rfl) ⟨Nat.le_of_ble_eq_true rfl, Nat.le_of_ble_eq_true rfl⟩ dL_law_571 (fun u H locs h => ?_)
  refine W.eq (g2 := F0 m 574 ls [.int ans]) rfl ?_
  refine r_aln K hl 2 dL_law_574 rfl rfl ?_
  refine r_callVWE K h hl (lwM (cM a th fw ft) _) mc_X6_forget vm_X6_forget mlL_76 413 lwP_m rfl rfl (fun _ => by rw [List.map_append, List.map_append]; rfl) (by omega) (by decide) rfl rfl (Nat.le_of_ble_eq_true rfl) ⟨Nat.le_of_ble_eq_true rfl, Nat.le_of_ble_eq_true rfl⟩ dL_law_575 (fun v H locs h => ?_)
  refine W.eq (g2 := F0 m 578 ls [.int ans, .int ans]) rfl ?_
  refine r_ceq K 678 dL_law_578 (by decide) (fun _ => ?_) (fun z => absurd rfl z)
  exact kk u.1 um2 q2 f2 v.1 fp2 fi2 fk2 fs2 v.2 H locs ls u.2 h hl

set_option maxHeartbeats 4000000 in
set_option maxRecDepth 100000 in
theorem law_which {p0 : Program} {l : Launch} {e : Env} {s : State} {m : MethodId} {below : List Frame} {meth : Method} {c : Code} {H : Heap} {locs : List Loc} {Q : State → Prop} {g : GG} {A : Nat → Prop} {ls : Array Slot} {b0 L : Nat} {xs : Nat → Int32} (K : Cx p0 l room_1 s m #[Value.ref b0] meth c g A code 4 RL ret 10) (hX : va_X b0 L xs s s.heap) (hbl : b0 < s.heap.size) (hbA : ¬ A b0) (hL : L ≤ 2048) {b a : Nat → Nat} {wa : Nat → Nat → Nat} {z : SX} {th : Int32} {um q T i : Nat} {f fw fp fi fk fs ft : Row} (hI : InvZ z f fp fi fk fs um q T) (hT : T < 700000) (hi : i + 4 ≤ L) (h : Hp g A s H locs (lwP g b a wa z th um q f fw fp fi fk fs ft)) (hl : Lq ls 4 [some (.ref b0), some (.ref (b 0)), some (.ref (a 0)), some (.int (nI i))]) (kk : ∀ (z : SX) (um q : Nat) (f fw fp fi fk fs ft : Row) (H : Heap) (locs : List Loc) (ls : Array Slot), InvZ z f fp fi fk fs um q (T + 20) → Hp g A s H locs (lwP g b a wa z (nI 0) um q f fw fp fi fk fs ft) → Lq ls 4 [some (.ref b0), some (.ref (b 0)), some (.ref (a 0)), some (.int (nI i))] → W p0 l e room_1 s m #[Value.ref b0] below meth c H locs 421 10004 Q (F0 m 678 ls [])) : W p0 l e room_1 s m #[Value.ref b0] below meth c H locs 421 10004 Q (F0 m 583 ls []) := by
  obtain ⟨V, pn, sa, sb, sr, rb⟩ := z
  obtain ⟨ans, f2, fp2, fi2, fk2, fs2, um2, q2, dX, dM, hdX, hdM, cX, cM⟩ := both_which l g V pn sa sb sr rb f fp fi fk fs um q T (by omega) hI 
  refine r_aln K hl 1 dL_law_583 rfl rfl ?_
  refine r_callVWE K h hl (lwX (cX b wa) _) mc_X5_which vm_X5_which mlL_77 0 rfl rfl rfl (fun _ => lwX_fst) (by omega) (by decide) rfl rfl (Nat.le_of_ble_eq_true rfl) ⟨Nat.le_of_ble_eq_true rfl, Nat.le_of_ble_eq_true rfl⟩ dL_law_584 (fun u H locs h => ?_)
  refine W.eq (g2 := F0 m 587 ls [.int ans]) rfl ?_
  refine r_aln K hl 2 dL_law_587 rfl rfl ?_
  refine r_callVWE K h hl (lwM (cM a th fw ft) _) mc_X6_which vm_X6_which mlL_80 413 lwP_m rfl rfl (fun _ => by rw [List.map_append, List.map_append]; rfl) (by omega) (by decide) rfl rfl (Nat.le_of_ble_eq_true rfl) ⟨Nat.le_of_ble_eq_true rfl, Nat.le_of_ble_eq_true rfl⟩ dL_law_588 (fun v H locs h => ?_)
  refine W.eq (g2 := F0 m 591 ls [.int ans, .int ans]) rfl ?_
  refine r_ceq K 678 dL_law_591 (by decide) (fun _ => ?_) (fun z => absurd rfl z)
  exact kk u.1 um2 q2 f2 v.1 fp2 fi2 fk2 fs2 v.2 H locs ls u.2 h hl

set_option maxHeartbeats 4000000 in
set_option maxRecDepth 100000 in
theorem law_ask {p0 : Program} {l : Launch} {e : Env} {s : State} {m : MethodId} {below : List Frame} {meth : Method} {c : Code} {H : Heap} {locs : List Loc} {Q : State → Prop} {g : GG} {A : Nat → Prop} {ls : Array Slot} {b0 L : Nat} {xs : Nat → Int32} (K : Cx p0 l room_1 s m #[Value.ref b0] meth c g A code 4 RL ret 10) (hX : va_X b0 L xs s s.heap) (hbl : b0 < s.heap.size) (hbA : ¬ A b0) (hL : L ≤ 2048) {b a : Nat → Nat} {wa : Nat → Nat → Nat} {z : SX} {th : Int32} {um q T i : Nat} {f fw fp fi fk fs ft : Row} (hI : InvZ z f fp fi fk fs um q T) (hT : T < 700000) (hi : i + 4 ≤ L) (h : Hp g A s H locs (lwP g b a wa z th um q f fw fp fi fk fs ft)) (hl : Lq ls 4 [some (.ref b0), some (.ref (b 0)), some (.ref (a 0)), some (.int (nI i))]) (kk : ∀ (z : SX) (um q : Nat) (f fw fp fi fk fs ft : Row) (H : Heap) (locs : List Loc) (ls : Array Slot), InvZ z f fp fi fk fs um q (T + 20) → Hp g A s H locs (lwP g b a wa z (nI 0) um q f fw fp fi fk fs ft) → Lq ls 4 [some (.ref b0), some (.ref (b 0)), some (.ref (a 0)), some (.int (nI i))] → W p0 l e room_1 s m #[Value.ref b0] below meth c H locs 421 10004 Q (F0 m 678 ls [])) : W p0 l e room_1 s m #[Value.ref b0] below meth c H locs 421 10004 Q (F0 m 596 ls []) := by
  obtain ⟨V, pn, sa, sb, sr, rb⟩ := z
  obtain ⟨ans, f2, fp2, fi2, fk2, fs2, um2, q2, dX, dM, hdX, hdM, cX, cM⟩ := both_ask l g V pn sa sb sr rb f fp fi fk fs um q T (by omega) hI 
  refine r_aln K hl 1 dL_law_596 rfl rfl ?_
  refine r_callVWE K h hl (lwX (cX b wa) _) mc_X5_ask vm_X5_ask mlL_81 0 rfl rfl rfl (fun _ => lwX_fst) (by omega) (by decide) rfl rfl (Nat.le_of_ble_eq_true rfl) ⟨Nat.le_of_ble_eq_true rfl, Nat.le_of_ble_eq_true rfl⟩ dL_law_597 (fun u H locs h => ?_)
  refine W.eq (g2 := F0 m 600 ls [.int ans]) rfl ?_
  refine r_aln K hl 2 dL_law_600 rfl rfl ?_
  refine r_callVWE K h hl (lwM (cM a th fw ft) _) mc_X6_ask vm_X6_ask mlL_84 413 lwP_m rfl rfl (fun _ => by rw [List.map_append, List.map_append]; rfl) (by omega) (by decide) rfl rfl (Nat.le_of_ble_eq_true rfl) ⟨Nat.le_of_ble_eq_true rfl, Nat.le_of_ble_eq_true rfl⟩ dL_law_601 (fun v H locs h => ?_)
  refine W.eq (g2 := F0 m 604 ls [.int ans, .int ans]) rfl ?_
  refine r_ceq K 678 dL_law_604 (by decide) (fun _ => ?_) (fun z => absurd rfl z)
  exact kk u.1 um2 q2 f2 v.1 fp2 fi2 fk2 fs2 v.2 H locs ls u.2 h hl

set_option maxHeartbeats 4000000 in
set_option maxRecDepth 100000 in
theorem law_keep {p0 : Program} {l : Launch} {e : Env} {s : State} {m : MethodId} {below : List Frame} {meth : Method} {c : Code} {H : Heap} {locs : List Loc} {Q : State → Prop} {g : GG} {A : Nat → Prop} {ls : Array Slot} {b0 L : Nat} {xs : Nat → Int32} (K : Cx p0 l room_1 s m #[Value.ref b0] meth c g A code 4 RL ret 10) (hX : va_X b0 L xs s s.heap) (hbl : b0 < s.heap.size) (hbA : ¬ A b0) (hL : L ≤ 2048) {b a : Nat → Nat} {wa : Nat → Nat → Nat} {z : SX} {th : Int32} {um q T i : Nat} {f fw fp fi fk fs ft : Row} (hI : InvZ z f fp fi fk fs um q T) (hT : T < 700000) (hi : i + 4 ≤ L) (h : Hp g A s H locs (lwP g b a wa z th um q f fw fp fi fk fs ft)) (hl : Lq ls 4 [some (.ref b0), some (.ref (b 0)), some (.ref (a 0)), some (.int (nI i))]) (kk : ∀ (z : SX) (um q : Nat) (f fw fp fi fk fs ft : Row) (H : Heap) (locs : List Loc) (ls : Array Slot), InvZ z f fp fi fk fs um q (T + 20) → Hp g A s H locs (lwP g b a wa z (nI 0) um q f fw fp fi fk fs ft) → Lq ls 4 [some (.ref b0), some (.ref (b 0)), some (.ref (a 0)), some (.int (nI i))] → W p0 l e room_1 s m #[Value.ref b0] below meth c H locs 421 10004 Q (F0 m 678 ls [])) : W p0 l e room_1 s m #[Value.ref b0] below meth c H locs 421 10004 Q (F0 m 609 ls []) := by
  obtain ⟨V, pn, sa, sb, sr, rb⟩ := z
  obtain ⟨ans, f2, fp2, fi2, fk2, fs2, um2, q2, dX, dM, hdX, hdM, cX, cM⟩ := both_keep l g V pn sa sb sr rb f fp fi fk fs um q T (by omega) hI (xs (i + 1))
  refine r_aln K hl 1 dL_law_609 rfl rfl ?_
  refine r_aln K hl 0 dL_law_610 rfl rfl ?_
  refine r_iln K hl 3 dL_law_611 rfl rfl ?_
  refine r_ic K (nI 1) dL_law_612 k_1 ?_
  refine r_addN K dL_law_613 ?_
  refine r_scr K h hX hbl hbA (by omega) (by omega) dL_law_614 ?_
  refine r_callVWE K h hl (lwX (cX b wa) _) mc_X5_keep vm_X5_keep mlL_85 0 rfl rfl rfl (fun _ => lwX_fst) (by omega) (by decide) rfl rfl (Nat.le_of_ble_eq_true rfl) ⟨Nat.le_of_ble_eq_true rfl, Nat.le_of_ble_eq_true rfl⟩ dL_law_615 (fun u H locs h => ?_)
  refine W.eq (g2 := F0 m 618 ls [.int ans]) rfl ?_
  refine r_aln K hl 2 dL_law_618 rfl rfl ?_
  refine r_aln K hl 0 dL_law_619 rfl rfl ?_
  refine r_iln K hl 3 dL_law_620 rfl rfl ?_
  refine r_ic K (nI 1) dL_law_621 k_1 ?_
  refine r_addN K dL_law_622 ?_
  refine r_scr K h hX hbl hbA (by omega) (by omega) dL_law_623 ?_
  refine r_callVWE K h hl (lwM (cM a th fw ft) _) mc_X6_keep vm_X6_keep mlL_88 413 lwP_m rfl rfl (fun _ => by rw [List.map_append, List.map_append]; rfl) (by omega) (by decide) rfl rfl (Nat.le_of_ble_eq_true rfl) ⟨Nat.le_of_ble_eq_true rfl, Nat.le_of_ble_eq_true rfl⟩ dL_law_624 (fun v H locs h => ?_)
  refine W.eq (g2 := F0 m 627 ls [.int ans, .int ans]) rfl ?_
  refine r_ceq K 678 dL_law_627 (by decide) (fun _ => ?_) (fun z => absurd rfl z)
  exact kk u.1 um2 q2 f2 v.1 fp2 fi2 fk2 fs2 v.2 H locs ls u.2 h hl

set_option maxHeartbeats 4000000 in
set_option maxRecDepth 100000 in
theorem law_back {p0 : Program} {l : Launch} {e : Env} {s : State} {m : MethodId} {below : List Frame} {meth : Method} {c : Code} {H : Heap} {locs : List Loc} {Q : State → Prop} {g : GG} {A : Nat → Prop} {ls : Array Slot} {b0 L : Nat} {xs : Nat → Int32} (K : Cx p0 l room_1 s m #[Value.ref b0] meth c g A code 4 RL ret 10) (hX : va_X b0 L xs s s.heap) (hbl : b0 < s.heap.size) (hbA : ¬ A b0) (hL : L ≤ 2048) {b a : Nat → Nat} {wa : Nat → Nat → Nat} {z : SX} {th : Int32} {um q T i : Nat} {f fw fp fi fk fs ft : Row} (hI : InvZ z f fp fi fk fs um q T) (hT : T < 700000) (hi : i + 4 ≤ L) (h : Hp g A s H locs (lwP g b a wa z th um q f fw fp fi fk fs ft)) (hl : Lq ls 4 [some (.ref b0), some (.ref (b 0)), some (.ref (a 0)), some (.int (nI i))]) (kk : ∀ (z : SX) (um q : Nat) (f fw fp fi fk fs ft : Row) (H : Heap) (locs : List Loc) (ls : Array Slot), InvZ z f fp fi fk fs um q (T + 20) → Hp g A s H locs (lwP g b a wa z (nI 0) um q f fw fp fi fk fs ft) → Lq ls 4 [some (.ref b0), some (.ref (b 0)), some (.ref (a 0)), some (.int (nI i))] → W p0 l e room_1 s m #[Value.ref b0] below meth c H locs 421 10004 Q (F0 m 678 ls [])) : W p0 l e room_1 s m #[Value.ref b0] below meth c H locs 421 10004 Q (F0 m 632 ls []) := by
  obtain ⟨V, pn, sa, sb, sr, rb⟩ := z
  obtain ⟨ans, f2, fp2, fi2, fk2, fs2, um2, q2, dX, dM, hdX, hdM, cX, cM⟩ := both_back l g V pn sa sb sr rb f fp fi fk fs um q T (by omega) hI (xs (i + 1))
  refine r_aln K hl 1 dL_law_632 rfl rfl ?_
  refine r_aln K hl 0 dL_law_633 rfl rfl ?_
  refine r_iln K hl 3 dL_law_634 rfl rfl ?_
  refine r_ic K (nI 1) dL_law_635 k_1 ?_
  refine r_addN K dL_law_636 ?_
  refine r_scr K h hX hbl hbA (by omega) (by omega) dL_law_637 ?_
  refine r_callVWE K h hl (lwX (cX b wa) _) mc_X5_back vm_X5_back mlL_89 0 rfl rfl rfl (fun _ => lwX_fst) (by omega) (by decide) rfl rfl (Nat.le_of_ble_eq_true rfl) ⟨Nat.le_of_ble_eq_true rfl, Nat.le_of_ble_eq_true rfl⟩ dL_law_638 (fun u H locs h => ?_)
  refine W.eq (g2 := F0 m 641 ls [.int ans]) rfl ?_
  refine r_aln K hl 2 dL_law_641 rfl rfl ?_
  refine r_aln K hl 0 dL_law_642 rfl rfl ?_
  refine r_iln K hl 3 dL_law_643 rfl rfl ?_
  refine r_ic K (nI 1) dL_law_644 k_1 ?_
  refine r_addN K dL_law_645 ?_
  refine r_scr K h hX hbl hbA (by omega) (by omega) dL_law_646 ?_
  refine r_callVWE K h hl (lwM (cM a th fw ft) _) mc_X6_back vm_X6_back mlL_92 413 lwP_m rfl rfl (fun _ => by rw [List.map_append, List.map_append]; rfl) (by omega) (by decide) rfl rfl (Nat.le_of_ble_eq_true rfl) ⟨Nat.le_of_ble_eq_true rfl, Nat.le_of_ble_eq_true rfl⟩ dL_law_647 (fun v H locs h => ?_)
  refine W.eq (g2 := F0 m 650 ls [.int ans, .int ans]) rfl ?_
  refine r_ceq K 678 dL_law_650 (by decide) (fun _ => ?_) (fun z => absurd rfl z)
  exact kk u.1 um2 q2 f2 v.1 fp2 fi2 fk2 fs2 v.2 H locs ls u.2 h hl

set_option maxHeartbeats 4000000 in
set_option maxRecDepth 100000 in
theorem law_count {p0 : Program} {l : Launch} {e : Env} {s : State} {m : MethodId} {below : List Frame} {meth : Method} {c : Code} {H : Heap} {locs : List Loc} {Q : State → Prop} {g : GG} {A : Nat → Prop} {ls : Array Slot} {b0 L : Nat} {xs : Nat → Int32} (K : Cx p0 l room_1 s m #[Value.ref b0] meth c g A code 4 RL ret 10) (hX : va_X b0 L xs s s.heap) (hbl : b0 < s.heap.size) (hbA : ¬ A b0) (hL : L ≤ 2048) {b a : Nat → Nat} {wa : Nat → Nat → Nat} {z : SX} {th : Int32} {um q T i : Nat} {f fw fp fi fk fs ft : Row} (hI : InvZ z f fp fi fk fs um q T) (hT : T < 700000) (hi : i + 4 ≤ L) (h : Hp g A s H locs (lwP g b a wa z th um q f fw fp fi fk fs ft)) (hl : Lq ls 4 [some (.ref b0), some (.ref (b 0)), some (.ref (a 0)), some (.int (nI i))]) (kk : ∀ (z : SX) (um q : Nat) (f fw fp fi fk fs ft : Row) (H : Heap) (locs : List Loc) (ls : Array Slot), InvZ z f fp fi fk fs um q (T + 20) → Hp g A s H locs (lwP g b a wa z (nI 0) um q f fw fp fi fk fs ft) → Lq ls 4 [some (.ref b0), some (.ref (b 0)), some (.ref (a 0)), some (.int (nI i))] → W p0 l e room_1 s m #[Value.ref b0] below meth c H locs 421 10004 Q (F0 m 678 ls [])) : W p0 l e room_1 s m #[Value.ref b0] below meth c H locs 421 10004 Q (F0 m 655 ls []) := by
  obtain ⟨V, pn, sa, sb, sr, rb⟩ := z
  obtain ⟨ans, f2, fp2, fi2, fk2, fs2, um2, q2, dX, dM, hdX, hdM, cX, cM⟩ := both_count l g V pn sa sb sr rb f fp fi fk fs um q T (by omega) hI (xs (i + 1))
  refine r_aln K hl 1 dL_law_655 rfl rfl ?_
  refine r_aln K hl 0 dL_law_656 rfl rfl ?_
  refine r_iln K hl 3 dL_law_657 rfl rfl ?_
  refine r_ic K (nI 1) dL_law_658 k_1 ?_
  refine r_addN K dL_law_659 ?_
  refine r_scr K h hX hbl hbA (by omega) (by omega) dL_law_660 ?_
  refine r_callVWE K h hl (lwX (cX b wa) _) mc_X5_count vm_X5_count mlL_93 0 rfl rfl rfl (fun _ => lwX_fst) (by omega) (by decide) rfl rfl (Nat.le_of_ble_eq_true rfl) ⟨Nat.le_of_ble_eq_true rfl, Nat.le_of_ble_eq_true rfl⟩ dL_law_661 (fun u H locs h => ?_)
  refine W.eq (g2 := F0 m 664 ls [.int ans]) rfl ?_
  refine r_aln K hl 2 dL_law_664 rfl rfl ?_
  refine r_aln K hl 0 dL_law_665 rfl rfl ?_
  refine r_iln K hl 3 dL_law_666 rfl rfl ?_
  refine r_ic K (nI 1) dL_law_667 k_1 ?_
  refine r_addN K dL_law_668 ?_
  refine r_scr K h hX hbl hbA (by omega) (by omega) dL_law_669 ?_
  refine r_callVWE K h hl (lwM (cM a th fw ft) _) mc_X6_count vm_X6_count mlL_96 413 lwP_m rfl rfl (fun _ => by rw [List.map_append, List.map_append]; rfl) (by omega) (by decide) rfl rfl (Nat.le_of_ble_eq_true rfl) ⟨Nat.le_of_ble_eq_true rfl, Nat.le_of_ble_eq_true rfl⟩ dL_law_670 (fun v H locs h => ?_)
  refine W.eq (g2 := F0 m 673 ls [.int ans, .int ans]) rfl ?_
  refine r_ceq K 678 dL_law_673 (by decide) (fun _ => ?_) (fun z => absurd rfl z)
  exact kk u.1 um2 q2 f2 v.1 fp2 fi2 fk2 fs2 v.2 H locs ls u.2 h hl

