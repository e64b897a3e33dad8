set_option maxHeartbeats 4000000 in
set_option maxRecDepth 100000 in
theorem law_island {p : Program} {l : Launch} {e : Env} {s : State} {m : MethodId} {below : List Frame} {meth : Method} {c : Code} {Q : State → Prop} {G : va_G} {cI cB cZ cO : ClassId} {ad : Nat → Nat} {w : Nat → va_E} {b : Nat} {xs : Nat → Int32} (X : Fx p m c code 4 s #[Value.ref b] "NoonShadeLaw" G (tyq cI cB cZ cO) (fun q => s.heap.size ≤ q)) (hD : WD (fun q => s.heap.size ≤ q) 74 ad) (hN : NW s) (F : ∀ k, k < 74 → w k = fr0 cI cB cZ cO ad k) (hX : va_X b 5 xs s s.heap) (hbl : b < s.heap.size) {H : Heap} {locs : List Loc} {ls : Array Slot} (h : St G 74 ad (fun q => s.heap.size ≤ q) s.heap w H locs) (hl : lv_has ls 4 [(0, .ref b), (1, .ref (ad 0)), (2, .ref (ad 64)), (3, .int 0)]) (hend : ∀ (H : Heap) (locs : List Loc), va_S (fun q => s.heap.size ≤ q) s.heap H locs → W p l e room_1 s m #[Value.ref b] below meth c H locs 74 2063 Q (F0 m 1232 ls [])) : W p l e room_1 s m #[Value.ref b] below meth c H locs 74 2063 Q (F0 m 192 ls []) := by
  have hx := X.1.1
  have hb := X.1.2.1
  have hbA : ¬ (fun q => s.heap.size ≤ q) b := Nat.not_le.mpr hbl
  have f0 : w 0 = .inr (6, [.ref (ad 1), .ref (ad 14), .ref (ad 27), .ref (ad 54), .ref (ad 55), .ref (ad 58), .ref (ad 62), .long 0, .long 1, .int 0, .int 0, .int 0]) := F 0 (by decide)
  refine lv_aload_n hx hb dL_law_192 rfl (lv_at hl 1 rfl) ?_
  refine lv_aload_n hx hb dL_law_193 rfl (lv_at hl 0 rfl) ?_
  refine lv_iload_n hx hb dL_law_194 rfl (lv_at hl 3 rfl) ?_
  refine lv_iconst (v := 1) hx hb dL_law_195 (by decide) ?_
  refine o_iadd (z := 1) hx hb dL_law_196 rfl ?_
  refine o_sld (v := xs 1) hx hb hX hbl hbA h.2 (by unfold vp_in; decide) rfl dL_law_197 ?_
  refine q_Vi (na := 1) (As := [.int (xs 1)]) (rest := []) X hD hN h rfl (c_X_island l G cI cB cZ cO ad w F (xs 1)) ⟨kw_344, kw_345, kw_346, kw_14, kw_347⟩ rfl ⟨by decide, by decide, by decide⟩ ⟨Nat.le_of_ble_eq_true rfl, Nat.le_of_ble_eq_true rfl⟩ ⟨Nat.le_of_ble_eq_true rfl, Nat.le_of_ble_eq_true rfl⟩ (by decide) f0 rfl rfl hl.1 rfl (Nat.le_of_ble_eq_true rfl) dL_law_198 (fun r1 w1 H locs hp1 h => ?_)
  obtain ⟨a0, a1, hfr⟩ := hp1
  have F1 : ∀ k, k < 74 → 64 ≤ k → w1 k = fr0 cI cB cZ cO ad k := fun k h1 h2 => (hfr k h2).trans (F k h1)
  have f64 : w1 64 = .inr (7, [.ref (ad 65), .ref (ad 66), .ref (ad 67), .ref (ad 68), .long 0, .long 1, .ref (ad 69), .int 0, .ref (ad 70), .ref (ad 71), .int 0, .int 0, .int 0, .int 0, .int 0, .ref (ad 72), .ref (ad 73)]) := F1 64 (by decide) (by decide)
  refine lv_aload_n hx hb dL_law_201 rfl (lv_at hl 2 rfl) ?_
  refine lv_aload_n hx hb dL_law_202 rfl (lv_at hl 0 rfl) ?_
  refine lv_iload_n hx hb dL_law_203 rfl (lv_at hl 3 rfl) ?_
  refine lv_iconst (v := 1) hx hb dL_law_204 (by decide) ?_
  refine o_iadd (z := 1) hx hb dL_law_205 rfl ?_
  refine o_sld (v := xs 1) hx hb hX hbl hbA h.2 (by unfold vp_in; decide) rfl dL_law_206 ?_
  refine q_Vi (na := 1) (As := [.int (xs 1)]) (rest := [.int r1]) X hD hN h rfl (c_M_island l G cI cB cZ cO ad w1 F1 (xs 1)) ⟨kw_348, kw_349, kw_350, kw_190, kw_351⟩ rfl ⟨by decide, by decide, by decide⟩ ⟨Nat.le_of_ble_eq_true rfl, Nat.le_of_ble_eq_true rfl⟩ ⟨Nat.le_of_ble_eq_true rfl, Nat.le_of_ble_eq_true rfl⟩ (by decide) f64 rfl rfl hl.1 rfl (Nat.le_of_ble_eq_true rfl) dL_law_207 (fun r2 w2 H locs hp2 h => ?_)
  obtain ⟨b0, b1⟩ := hp2
  have he : r1 = r2 := by
    by_cases g0 : 0 ≤ (xs 1).toInt ∧ (xs 1).toInt ≤ 99
    · exact (a0 g0).trans (b0 g0).symm
    exact (a1 (by omega)).trans (b1 (by omega)).symm
  refine lv_icmp_eq (tgt := 1232) hx hb dL_law_210 (by decide) (fun _ => hend H locs h.2) (fun hc => absurd he hc)

set_option maxHeartbeats 4000000 in
set_option maxRecDepth 100000 in
theorem law_caster {p : Program} {l : Launch} {e : Env} {s : State} {m : MethodId} {below : List Frame} {meth : Method} {c : Code} {Q : State → Prop} {G : va_G} {cI cB cZ cO : ClassId} {ad : Nat → Nat} {w : Nat → va_E} {b : Nat} {xs : Nat → Int32} (X : Fx p m c code 4 s #[Value.ref b] "NoonShadeLaw" G (tyq cI cB cZ cO) (fun q => s.heap.size ≤ q)) (hD : WD (fun q => s.heap.size ≤ q) 74 ad) (hN : NW s) (F : ∀ k, k < 74 → w k = fr0 cI cB cZ cO ad k) (hX : va_X b 5 xs s s.heap) (hbl : b < s.heap.size) {H : Heap} {locs : List Loc} {ls : Array Slot} (h : St G 74 ad (fun q => s.heap.size ≤ q) s.heap w H locs) (hl : lv_has ls 4 [(0, .ref b), (1, .ref (ad 0)), (2, .ref (ad 64)), (3, .int 0)]) (hend : ∀ (H : Heap) (locs : List Loc), va_S (fun q => s.heap.size ≤ q) s.heap H locs → W p l e room_1 s m #[Value.ref b] below meth c H locs 74 2063 Q (F0 m 1232 ls [])) : W p l e room_1 s m #[Value.ref b] below meth c H locs 74 2063 Q (F0 m 215 ls []) := by
  have hx := X.1.1
  have hb := X.1.2.1
  have hbA : ¬ (fun q => s.heap.size ≤ q) b := Nat.not_le.mpr hbl
  have f0 : w 0 = .inr (6, [.ref (ad 1), .ref (ad 14), .ref (ad 27), .ref (ad 54), .ref (ad 55), .ref (ad 58), .ref (ad 62), .long 0, .long 1, .int 0, .int 0, .int 0]) := F 0 (by decide)
  refine lv_aload_n hx hb dL_law_215 rfl (lv_at hl 1 rfl) ?_
  refine lv_aload_n hx hb dL_law_216 rfl (lv_at hl 0 rfl) ?_
  refine lv_iload_n hx hb dL_law_217 rfl (lv_at hl 3 rfl) ?_
  refine lv_iconst (v := 1) hx hb dL_law_218 (by decide) ?_
  refine o_iadd (z := 1) hx hb dL_law_219 rfl ?_
  refine o_sld (v := xs 1) hx hb hX hbl hbA h.2 (by unfold vp_in; decide) rfl dL_law_220 ?_
  refine lv_aload_n hx hb dL_law_221 rfl (lv_at hl 0 rfl) ?_
  refine lv_iload_n hx hb dL_law_222 rfl (lv_at hl 3 rfl) ?_
  refine lv_iconst (v := 2) hx hb dL_law_223 (by decide) ?_
  refine o_iadd (z := 2) hx hb dL_law_224 rfl ?_
  refine o_sld (v := xs 2) hx hb hX hbl hbA h.2 (by unfold vp_in; decide) rfl dL_law_225 ?_
  refine lv_aload_n hx hb dL_law_226 rfl (lv_at hl 0 rfl) ?_
  refine lv_iload_n hx hb dL_law_227 rfl (lv_at hl 3 rfl) ?_
  refine lv_iconst (v := 3) hx hb dL_law_228 (by decide) ?_
  refine o_iadd (z := 3) hx hb dL_law_229 rfl ?_
  refine o_sld (v := xs 3) hx hb hX hbl hbA h.2 (by unfold vp_in; decide) rfl dL_law_230 ?_
  refine q_Vi (na := 3) (As := [.int (xs 1), .int (xs 2), .int (xs 3)]) (rest := []) X hD hN h rfl (c_X_caster l G cI cB cZ cO ad w F (xs 1) (xs 2) (xs 3)) ⟨kw_352, kw_353, kw_354, kw_14, kw_355⟩ rfl ⟨by decide, by decide, by decide⟩ ⟨Nat.le_of_ble_eq_true rfl, Nat.le_of_ble_eq_true rfl⟩ ⟨Nat.le_of_ble_eq_true rfl, Nat.le_of_ble_eq_true rfl⟩ (by decide) f0 rfl rfl hl.1 rfl (Nat.le_of_ble_eq_true rfl) dL_law_231 (fun r1 w1 H locs hp1 h => ?_)
  obtain ⟨a0, a1, hfr⟩ := hp1
  have F1 : ∀ k, k < 74 → 64 ≤ k → w1 k = fr0 cI cB cZ cO ad k := fun k h1 h2 => (hfr k h2).trans (F k h1)
  have f64 : w1 64 = .inr (7, [.ref (ad 65), .ref (ad 66), .ref (ad 67), .ref (ad 68), .long 0, .long 1, .ref (ad 69), .int 0, .ref (ad 70), .ref (ad 71), .int 0, .int 0, .int 0, .int 0, .int 0, .ref (ad 72), .ref (ad 73)]) := F1 64 (by decide) (by decide)
  refine lv_aload_n hx hb dL_law_234 rfl (lv_at hl 2 rfl) ?_
  refine lv_aload_n hx hb dL_law_235 rfl (lv_at hl 0 rfl) ?_
  refine lv_iload_n hx hb dL_law_236 rfl (lv_at hl 3 rfl) ?_
  refine lv_iconst (v := 1) hx hb dL_law_237 (by decide) ?_
  refine o_iadd (z := 1) hx hb dL_law_238 rfl ?_
  refine o_sld (v := xs 1) hx hb hX hbl hbA h.2 (by unfold vp_in; decide) rfl dL_law_239 ?_
  refine lv_aload_n hx hb dL_law_240 rfl (lv_at hl 0 rfl) ?_
  refine lv_iload_n hx hb dL_law_241 rfl (lv_at hl 3 rfl) ?_
  refine lv_iconst (v := 2) hx hb dL_law_242 (by decide) ?_
  refine o_iadd (z := 2) hx hb dL_law_243 rfl ?_
  refine o_sld (v := xs 2) hx hb hX hbl hbA h.2 (by unfold vp_in; decide) rfl dL_law_244 ?_
  refine lv_aload_n hx hb dL_law_245 rfl (lv_at hl 0 rfl) ?_
  refine lv_iload_n hx hb dL_law_246 rfl (lv_at hl 3 rfl) ?_
  refine lv_iconst (v := 3) hx hb dL_law_247 (by decide) ?_
  refine o_iadd (z := 3) hx hb dL_law_248 rfl ?_
  refine o_sld (v := xs 3) hx hb hX hbl hbA h.2 (by unfold vp_in; decide) rfl dL_law_249 ?_
  refine q_Vi (na := 3) (As := [.int (xs 1), .int (xs 2), .int (xs 3)]) (rest := [.int r1]) X hD hN h rfl (c_M_caster l G cI cB cZ cO ad w1 F1 (xs 1) (xs 2) (xs 3)) ⟨kw_356, kw_357, kw_358, kw_190, kw_359⟩ rfl ⟨by decide, by decide, by decide⟩ ⟨Nat.le_of_ble_eq_true rfl, Nat.le_of_ble_eq_true rfl⟩ ⟨Nat.le_of_ble_eq_true rfl, Nat.le_of_ble_eq_true rfl⟩ (by decide) f64 rfl rfl hl.1 rfl (Nat.le_of_ble_eq_true rfl) dL_law_250 (fun r2 w2 H locs hp2 h => ?_)
  obtain ⟨b0, b1⟩ := hp2
  have he : r1 = r2 := by
    by_cases g0 : 0 ≤ (xs 1).toInt ∧ (xs 1).toInt ≤ 5 ∧ 1 ≤ (xs 2).toInt ∧ (xs 2).toInt ≤ 9 ∧ 0 ≤ (xs 3).toInt ∧ (xs 3).toInt ≤ 3
    · exact (a0 g0).trans (b0 g0).symm
    exact (a1 (by omega)).trans (b1 (by omega)).symm
  refine lv_icmp_eq (tgt := 1232) hx hb dL_law_253 (by decide) (fun _ => hend H locs h.2) (fun hc => absurd he hc)

set_option maxHeartbeats 4000000 in
set_option maxRecDepth 100000 in
theorem law_jar {p : Program} {l : Launch} {e : Env} {s : State} {m : MethodId} {below : List Frame} {meth : Method} {c : Code} {Q : State → Prop} {G : va_G} {cI cB cZ cO : ClassId} {ad : Nat → Nat} {w : Nat → va_E} {b : Nat} {xs : Nat → Int32} (X : Fx p m c code 4 s #[Value.ref b] "NoonShadeLaw" G (tyq cI cB cZ cO) (fun q => s.heap.size ≤ q)) (hD : WD (fun q => s.heap.size ≤ q) 74 ad) (hN : NW s) (F : ∀ k, k < 74 → w k = fr0 cI cB cZ cO ad k) (hX : va_X b 5 xs s s.heap) (hbl : b < s.heap.size) {H : Heap} {locs : List Loc} {ls : Array Slot} (h : St G 74 ad (fun q => s.heap.size ≤ q) s.heap w H locs) (hl : lv_has ls 4 [(0, .ref b), (1, .ref (ad 0)), (2, .ref (ad 64)), (3, .int 0)]) (hend : ∀ (H : Heap) (locs : List Loc), va_S (fun q => s.heap.size ≤ q) s.heap H locs → W p l e room_1 s m #[Value.ref b] below meth c H locs 74 2063 Q (F0 m 1232 ls [])) : W p l e room_1 s m #[Value.ref b] below meth c H locs 74 2063 Q (F0 m 258 ls []) := by
  have hx := X.1.1
  have hb := X.1.2.1
  have hbA : ¬ (fun q => s.heap.size ≤ q) b := Nat.not_le.mpr hbl
  have f0 : w 0 = .inr (6, [.ref (ad 1), .ref (ad 14), .ref (ad 27), .ref (ad 54), .ref (ad 55), .ref (ad 58), .ref (ad 62), .long 0, .long 1, .int 0, .int 0, .int 0]) := F 0 (by decide)
  refine lv_aload_n hx hb dL_law_258 rfl (lv_at hl 1 rfl) ?_
  refine lv_aload_n hx hb dL_law_259 rfl (lv_at hl 0 rfl) ?_
  refine lv_iload_n hx hb dL_law_260 rfl (lv_at hl 3 rfl) ?_
  refine lv_iconst (v := 1) hx hb dL_law_261 (by decide) ?_
  refine o_iadd (z := 1) hx hb dL_law_262 rfl ?_
  refine o_sld (v := xs 1) hx hb hX hbl hbA h.2 (by unfold vp_in; decide) rfl dL_law_263 ?_
  refine q_Vi (na := 1) (As := [.int (xs 1)]) (rest := []) X hD hN h rfl (c_X_jar l G cI cB cZ cO ad w F (xs 1)) ⟨kw_360, kw_361, kw_362, kw_14, kw_363⟩ rfl ⟨by decide, by decide, by decide⟩ ⟨Nat.le_of_ble_eq_true rfl, Nat.le_of_ble_eq_true rfl⟩ ⟨Nat.le_of_ble_eq_true rfl, Nat.le_of_ble_eq_true rfl⟩ (by decide) f0 rfl rfl hl.1 rfl (Nat.le_of_ble_eq_true rfl) dL_law_264 (fun r1 w1 H locs hp1 h => ?_)
  obtain ⟨a0, a1, hfr⟩ := hp1
  have F1 : ∀ k, k < 74 → 64 ≤ k → w1 k = fr0 cI cB cZ cO ad k := fun k h1 h2 => (hfr k h2).trans (F k h1)
  have f64 : w1 64 = .inr (7, [.ref (ad 65), .ref (ad 66), .ref (ad 67), .ref (ad 68), .long 0, .long 1, .ref (ad 69), .int 0, .ref (ad 70), .ref (ad 71), .int 0, .int 0, .int 0, .int 0, .int 0, .ref (ad 72), .ref (ad 73)]) := F1 64 (by decide) (by decide)
  refine lv_aload_n hx hb dL_law_267 rfl (lv_at hl 2 rfl) ?_
  refine lv_aload_n hx hb dL_law_268 rfl (lv_at hl 0 rfl) ?_
  refine lv_iload_n hx hb dL_law_269 rfl (lv_at hl 3 rfl) ?_
  refine lv_iconst (v := 1) hx hb dL_law_270 (by decide) ?_
  refine o_iadd (z := 1) hx hb dL_law_271 rfl ?_
  refine o_sld (v := xs 1) hx hb hX hbl hbA h.2 (by unfold vp_in; decide) rfl dL_law_272 ?_
  refine q_Vi (na := 1) (As := [.int (xs 1)]) (rest := [.int r1]) X hD hN h rfl (c_M_jar l G cI cB cZ cO ad w1 F1 (xs 1)) ⟨kw_364, kw_365, kw_366, kw_190, kw_367⟩ rfl ⟨by decide, by decide, by decide⟩ ⟨Nat.le_of_ble_eq_true rfl, Nat.le_of_ble_eq_true rfl⟩ ⟨Nat.le_of_ble_eq_true rfl, Nat.le_of_ble_eq_true rfl⟩ (by decide) f64 rfl rfl hl.1 rfl (Nat.le_of_ble_eq_true rfl) dL_law_273 (fun r2 w2 H locs hp2 h => ?_)
  obtain ⟨b0, b1⟩ := hp2
  have he : r1 = r2 := by
    by_cases g0 : 0 ≤ (xs 1).toInt ∧ (xs 1).toInt ≤ 5
    · exact (a0 g0).trans (b0 g0).symm
    exact (a1 (by omega)).trans (b1 (by omega)).symm
  refine lv_icmp_eq (tgt := 1232) hx hb dL_law_276 (by decide) (fun _ => hend H locs h.2) (fun hc => absurd he hc)

set_option maxHeartbeats 4000000 in
set_option maxRecDepth 100000 in
theorem law_type {p : Program} {l : Launch} {e : Env} {s : State} {m : MethodId} {below : List Frame} {meth : Method} {c : Code} {Q : State → Prop} {G : va_G} {cI cB cZ cO : ClassId} {ad : Nat → Nat} {w : Nat → va_E} {b : Nat} {xs : Nat → Int32} (X : Fx p m c code 4 s #[Value.ref b] "NoonShadeLaw" G (tyq cI cB cZ cO) (fun q => s.heap.size ≤ q)) (hD : WD (fun q => s.heap.size ≤ q) 74 ad) (hN : NW s) (F : ∀ k, k < 74 → w k = fr0 cI cB cZ cO ad k) (hX : va_X b 5 xs s s.heap) (hbl : b < s.heap.size) {H : Heap} {locs : List Loc} {ls : Array Slot} (h : St G 74 ad (fun q => s.heap.size ≤ q) s.heap w H locs) (hl : lv_has ls 4 [(0, .ref b), (1, .ref (ad 0)), (2, .ref (ad 64)), (3, .int 0)]) (hend : ∀ (H : Heap) (locs : List Loc), va_S (fun q => s.heap.size ≤ q) s.heap H locs → W p l e room_1 s m #[Value.ref b] below meth c H locs 74 2063 Q (F0 m 1232 ls [])) : W p l e room_1 s m #[Value.ref b] below meth c H locs 74 2063 Q (F0 m 281 ls []) := by
  have hx := X.1.1
  have hb := X.1.2.1
  have hbA : ¬ (fun q => s.heap.size ≤ q) b := Nat.not_le.mpr hbl
  have f0 : w 0 = .inr (6, [.ref (ad 1), .ref (ad 14), .ref (ad 27), .ref (ad 54), .ref (ad 55), .ref (ad 58), .ref (ad 62), .long 0, .long 1, .int 0, .int 0, .int 0]) := F 0 (by decide)
  refine lv_aload_n hx hb dL_law_281 rfl (lv_at hl 1 rfl) ?_
  refine lv_aload_n hx hb dL_law_282 rfl (lv_at hl 0 rfl) ?_
  refine lv_iload_n hx hb dL_law_283 rfl (lv_at hl 3 rfl) ?_
  refine lv_iconst (v := 1) hx hb dL_law_284 (by decide) ?_
  refine o_iadd (z := 1) hx hb dL_law_285 rfl ?_
  refine o_sld (v := xs 1) hx hb hX hbl hbA h.2 (by unfold vp_in; decide) rfl dL_law_286 ?_
  refine q_Vi (na := 1) (As := [.int (xs 1)]) (rest := []) X hD hN h rfl (c_X_type l G cI cB cZ cO ad w F (xs 1)) ⟨kw_368, kw_369, kw_370, kw_14, kw_371⟩ rfl ⟨by decide, by decide, by decide⟩ ⟨Nat.le_of_ble_eq_true rfl, Nat.le_of_ble_eq_true rfl⟩ ⟨Nat.le_of_ble_eq_true rfl, Nat.le_of_ble_eq_true rfl⟩ (by decide) f0 rfl rfl hl.1 rfl (Nat.le_of_ble_eq_true rfl) dL_law_287 (fun r1 w1 H locs hp1 h => ?_)
  obtain ⟨a0, a1, hfr⟩ := hp1
  have F1 : ∀ k, k < 74 → 64 ≤ k → w1 k = fr0 cI cB cZ cO ad k := fun k h1 h2 => (hfr k h2).trans (F k h1)
  have f64 : w1 64 = .inr (7, [.ref (ad 65), .ref (ad 66), .ref (ad 67), .ref (ad 68), .long 0, .long 1, .ref (ad 69), .int 0, .ref (ad 70), .ref (ad 71), .int 0, .int 0, .int 0, .int 0, .int 0, .ref (ad 72), .ref (ad 73)]) := F1 64 (by decide) (by decide)
  refine lv_aload_n hx hb dL_law_290 rfl (lv_at hl 2 rfl) ?_
  refine lv_aload_n hx hb dL_law_291 rfl (lv_at hl 0 rfl) ?_
  refine lv_iload_n hx hb dL_law_292 rfl (lv_at hl 3 rfl) ?_
  refine lv_iconst (v := 1) hx hb dL_law_293 (by decide) ?_
  refine o_iadd (z := 1) hx hb dL_law_294 rfl ?_
  refine o_sld (v := xs 1) hx hb hX hbl hbA h.2 (by unfold vp_in; decide) rfl dL_law_295 ?_
  refine q_Vi (na := 1) (As := [.int (xs 1)]) (rest := [.int r1]) X hD hN h rfl (c_M_type l G cI cB cZ cO ad w1 F1 (xs 1)) ⟨kw_372, kw_373, kw_374, kw_190, kw_375⟩ rfl ⟨by decide, by decide, by decide⟩ ⟨Nat.le_of_ble_eq_true rfl, Nat.le_of_ble_eq_true rfl⟩ ⟨Nat.le_of_ble_eq_true rfl, Nat.le_of_ble_eq_true rfl⟩ (by decide) f64 rfl rfl hl.1 rfl (Nat.le_of_ble_eq_true rfl) dL_law_296 (fun r2 w2 H locs hp2 h => ?_)
  obtain ⟨b0, b1⟩ := hp2
  have he : r1 = r2 := by
    by_cases g0 : 0 ≤ (xs 1).toInt ∧ (xs 1).toInt ≤ 127
    · exact (a0 g0).trans (b0 g0).symm
    exact (a1 (by omega)).trans (b1 (by omega)).symm
  refine lv_icmp_eq (tgt := 1232) hx hb dL_law_299 (by decide) (fun _ => hend H locs h.2) (fun hc => absurd he hc)

set_option maxHeartbeats 4000000 in
set_option maxRecDepth 100000 in
theorem law_clear {p : Program} {l : Launch} {e : Env} {s : State} {m : MethodId} {below : List Frame} {meth : Method} {c : Code} {Q : State → Prop} {G : va_G} {cI cB cZ cO : ClassId} {ad : Nat → Nat} {w : Nat → va_E} {b : Nat} {xs : Nat → Int32} (X : Fx p m c code 4 s #[Value.ref b] "NoonShadeLaw" G (tyq cI cB cZ cO) (fun q => s.heap.size ≤ q)) (hD : WD (fun q => s.heap.size ≤ q) 74 ad) (hN : NW s) (F : ∀ k, k < 74 → w k = fr0 cI cB cZ cO ad k) (hX : va_X b 5 xs s s.heap) (hbl : b < s.heap.size) {H : Heap} {locs : List Loc} {ls : Array Slot} (h : St G 74 ad (fun q => s.heap.size ≤ q) s.heap w H locs) (hl : lv_has ls 4 [(0, .ref b), (1, .ref (ad 0)), (2, .ref (ad 64)), (3, .int 0)]) (hend : ∀ (H : Heap) (locs : List Loc), va_S (fun q => s.heap.size ≤ q) s.heap H locs → W p l e room_1 s m #[Value.ref b] below meth c H locs 74 2063 Q (F0 m 1232 ls [])) : W p l e room_1 s m #[Value.ref b] below meth c H locs 74 2063 Q (F0 m 304 ls []) := by
  have hx := X.1.1
  have hb := X.1.2.1
  have hbA : ¬ (fun q => s.heap.size ≤ q) b := Nat.not_le.mpr hbl
  have f0 : w 0 = .inr (6, [.ref (ad 1), .ref (ad 14), .ref (ad 27), .ref (ad 54), .ref (ad 55), .ref (ad 58), .ref (ad 62), .long 0, .long 1, .int 0, .int 0, .int 0]) := F 0 (by decide)
  refine lv_aload_n hx hb dL_law_304 rfl (lv_at hl 1 rfl) ?_
  refine q_Vi (na := 0) (As := []) (rest := []) X hD hN h rfl (c_X_clear l G cI cB cZ cO ad w F) ⟨kw_376, kw_377, kw_378, kw_14, kw_379⟩ rfl ⟨by decide, by decide, by decide⟩ ⟨Nat.le_of_ble_eq_true rfl, Nat.le_of_ble_eq_true rfl⟩ ⟨Nat.le_of_ble_eq_true rfl, Nat.le_of_ble_eq_true rfl⟩ (by decide) f0 rfl rfl hl.1 rfl (Nat.le_of_ble_eq_true rfl) dL_law_305 (fun r1 w1 H locs hp1 h => ?_)
  obtain ⟨rfl, hfr⟩ := hp1
  have F1 : ∀ k, k < 74 → 64 ≤ k → w1 k = fr0 cI cB cZ cO ad k := fun k h1 h2 => (hfr k h2).trans (F k h1)
  have f64 : w1 64 = .inr (7, [.ref (ad 65), .ref (ad 66), .ref (ad 67), .ref (ad 68), .long 0, .long 1, .ref (ad 69), .int 0, .ref (ad 70), .ref (ad 71), .int 0, .int 0, .int 0, .int 0, .int 0, .ref (ad 72), .ref (ad 73)]) := F1 64 (by decide) (by decide)
  refine lv_aload_n hx hb dL_law_308 rfl (lv_at hl 2 rfl) ?_
  refine q_Vi (na := 0) (As := []) (rest := [.int 0]) X hD hN h rfl (c_M_clear l G cI cB cZ cO ad w1 F1) ⟨kw_380, kw_381, kw_382, kw_190, kw_383⟩ rfl ⟨by decide, by decide, by decide⟩ ⟨Nat.le_of_ble_eq_true rfl, Nat.le_of_ble_eq_true rfl⟩ ⟨Nat.le_of_ble_eq_true rfl, Nat.le_of_ble_eq_true rfl⟩ (by decide) f64 rfl rfl hl.1 rfl (Nat.le_of_ble_eq_true rfl) dL_law_309 (fun r2 w2 H locs hp2 h => ?_)
  subst hp2
  refine lv_icmp_eq (tgt := 1232) hx hb dL_law_312 (by decide) (fun _ => hend H locs h.2) (fun hc => absurd rfl hc)

set_option maxHeartbeats 4000000 in
set_option maxRecDepth 100000 in
theorem law_read {p : Program} {l : Launch} {e : Env} {s : State} {m : MethodId} {below : List Frame} {meth : Method} {c : Code} {Q : State → Prop} {G : va_G} {cI cB cZ cO : ClassId} {ad : Nat → Nat} {w : Nat → va_E} {b : Nat} {xs : Nat → Int32} (X : Fx p m c code 4 s #[Value.ref b] "NoonShadeLaw" G (tyq cI cB cZ cO) (fun q => s.heap.size ≤ q)) (hD : WD (fun q => s.heap.size ≤ q) 74 ad) (hN : NW s) (F : ∀ k, k < 74 → w k = fr0 cI cB cZ cO ad k) (hX : va_X b 5 xs s s.heap) (hbl : b < s.heap.size) {H : Heap} {locs : List Loc} {ls : Array Slot} (h : St G 74 ad (fun q => s.heap.size ≤ q) s.heap w H locs) (hl : lv_has ls 4 [(0, .ref b), (1, .ref (ad 0)), (2, .ref (ad 64)), (3, .int 0)]) (hend : ∀ (H : Heap) (locs : List Loc), va_S (fun q => s.heap.size ≤ q) s.heap H locs → W p l e room_1 s m #[Value.ref b] below meth c H locs 74 2063 Q (F0 m 1232 ls [])) : W p l e room_1 s m #[Value.ref b] below meth c H locs 74 2063 Q (F0 m 317 ls []) := by
  have hx := X.1.1
  have hb := X.1.2.1
  have hbA : ¬ (fun q => s.heap.size ≤ q) b := Nat.not_le.mpr hbl
  have f0 : w 0 = .inr (6, [.ref (ad 1), .ref (ad 14), .ref (ad 27), .ref (ad 54), .ref (ad 55), .ref (ad 58), .ref (ad 62), .long 0, .long 1, .int 0, .int 0, .int 0]) := F 0 (by decide)
  refine lv_aload_n hx hb dL_law_317 rfl (lv_at hl 1 rfl) ?_
  refine q_Vi (na := 0) (As := []) (rest := []) X hD hN h rfl (c_X_read l G cI cB cZ cO ad w F) ⟨kw_384, kw_385, kw_386, kw_14, kw_387⟩ rfl ⟨by decide, by decide, by decide⟩ ⟨Nat.le_of_ble_eq_true rfl, Nat.le_of_ble_eq_true rfl⟩ ⟨Nat.le_of_ble_eq_true rfl, Nat.le_of_ble_eq_true rfl⟩ (by decide) f0 rfl rfl hl.1 rfl (Nat.le_of_ble_eq_true rfl) dL_law_318 (fun r1 w1 H locs hp1 h => ?_)
  obtain ⟨rfl, hfr⟩ := hp1
  have F1 : ∀ k, k < 74 → 64 ≤ k → w1 k = fr0 cI cB cZ cO ad k := fun k h1 h2 => (hfr k h2).trans (F k h1)
  have f64 : w1 64 = .inr (7, [.ref (ad 65), .ref (ad 66), .ref (ad 67), .ref (ad 68), .long 0, .long 1, .ref (ad 69), .int 0, .ref (ad 70), .ref (ad 71), .int 0, .int 0, .int 0, .int 0, .int 0, .ref (ad 72), .ref (ad 73)]) := F1 64 (by decide) (by decide)
  refine lv_aload_n hx hb dL_law_321 rfl (lv_at hl 2 rfl) ?_
  refine q_Vi (na := 0) (As := []) (rest := [.int (-10)]) X hD hN h rfl (c_M_read l G cI cB cZ cO ad w1 F1) ⟨kw_388, kw_389, kw_390, kw_190, kw_391⟩ rfl ⟨by decide, by decide, by decide⟩ ⟨Nat.le_of_ble_eq_true rfl, Nat.le_of_ble_eq_true rfl⟩ ⟨Nat.le_of_ble_eq_true rfl, Nat.le_of_ble_eq_true rfl⟩ (by decide) f64 rfl rfl hl.1 rfl (Nat.le_of_ble_eq_true rfl) dL_law_322 (fun r2 w2 H locs hp2 h => ?_)
  subst hp2
  refine lv_icmp_eq (tgt := 1232) hx hb dL_law_325 (by decide) (fun _ => hend H locs h.2) (fun hc => absurd rfl hc)

set_option maxHeartbeats 4000000 in
set_option maxRecDepth 100000 in
theorem law_ladle {p : Program} {l : Launch} {e : Env} {s : State} {m : MethodId} {below : List Frame} {meth : Method} {c : Code} {Q : State → Prop} {G : va_G} {cI cB cZ cO : ClassId} {ad : Nat → Nat} {w : Nat → va_E} {b : Nat} {xs : Nat → Int32} (X : Fx p m c code 4 s #[Value.ref b] "NoonShadeLaw" G (tyq cI cB cZ cO) (fun q => s.heap.size ≤ q)) (hD : WD (fun q => s.heap.size ≤ q) 74 ad) (hN : NW s) (F : ∀ k, k < 74 → w k = fr0 cI cB cZ cO ad k) (hX : va_X b 5 xs s s.heap) (hbl : b < s.heap.size) {H : Heap} {locs : List Loc} {ls : Array Slot} (h : St G 74 ad (fun q => s.heap.size ≤ q) s.heap w H locs) (hl : lv_has ls 4 [(0, .ref b), (1, .ref (ad 0)), (2, .ref (ad 64)), (3, .int 0)]) (hend : ∀ (H : Heap) (locs : List Loc), va_S (fun q => s.heap.size ≤ q) s.heap H locs → W p l e room_1 s m #[Value.ref b] below meth c H locs 74 2063 Q (F0 m 1232 ls [])) : W p l e room_1 s m #[Value.ref b] below meth c H locs 74 2063 Q (F0 m 330 ls []) := by
  have hx := X.1.1
  have hb := X.1.2.1
  have hbA : ¬ (fun q => s.heap.size ≤ q) b := Nat.not_le.mpr hbl
  have f0 : w 0 = .inr (6, [.ref (ad 1), .ref (ad 14), .ref (ad 27), .ref (ad 54), .ref (ad 55), .ref (ad 58), .ref (ad 62), .long 0, .long 1, .int 0, .int 0, .int 0]) := F 0 (by decide)
  refine lv_aload_n hx hb dL_law_330 rfl (lv_at hl 1 rfl) ?_
  refine lv_aload_n hx hb dL_law_331 rfl (lv_at hl 0 rfl) ?_
  refine lv_iload_n hx hb dL_law_332 rfl (lv_at hl 3 rfl) ?_
  refine lv_iconst (v := 1) hx hb dL_law_333 (by decide) ?_
  refine o_iadd (z := 1) hx hb dL_law_334 rfl ?_
  refine o_sld (v := xs 1) hx hb hX hbl hbA h.2 (by unfold vp_in; decide) rfl dL_law_335 ?_
  refine lv_aload_n hx hb dL_law_336 rfl (lv_at hl 0 rfl) ?_
  refine lv_iload_n hx hb dL_law_337 rfl (lv_at hl 3 rfl) ?_
  refine lv_iconst (v := 2) hx hb dL_law_338 (by decide) ?_
  refine o_iadd (z := 2) hx hb dL_law_339 rfl ?_
  refine o_sld (v := xs 2) hx hb hX hbl hbA h.2 (by unfold vp_in; decide) rfl dL_law_340 ?_
  refine q_Vi (na := 2) (As := [.int (xs 1), .int (xs 2)]) (rest := []) X hD hN h rfl (c_X_ladle l G cI cB cZ cO ad w F (xs 1) (xs 2)) ⟨kw_392, kw_393, kw_394, kw_14, kw_395⟩ rfl ⟨by decide, by decide, by decide⟩ ⟨Nat.le_of_ble_eq_true rfl, Nat.le_of_ble_eq_true rfl⟩ ⟨Nat.le_of_ble_eq_true rfl, Nat.le_of_ble_eq_true rfl⟩ (by decide) f0 rfl rfl hl.1 rfl (Nat.le_of_ble_eq_true rfl) dL_law_341 (fun r1 w1 H locs hp1 h => ?_)
  obtain ⟨rfl, hfr⟩ := hp1
  have F1 : ∀ k, k < 74 → 64 ≤ k → w1 k = fr0 cI cB cZ cO ad k := fun k h1 h2 => (hfr k h2).trans (F k h1)
  have f64 : w1 64 = .inr (7, [.ref (ad 65), .ref (ad 66), .ref (ad 67), .ref (ad 68), .long 0, .long 1, .ref (ad 69), .int 0, .ref (ad 70), .ref (ad 71), .int 0, .int 0, .int 0, .int 0, .int 0, .ref (ad 72), .ref (ad 73)]) := F1 64 (by decide) (by decide)
  refine lv_aload_n hx hb dL_law_344 rfl (lv_at hl 2 rfl) ?_
  refine lv_aload_n hx hb dL_law_345 rfl (lv_at hl 0 rfl) ?_
  refine lv_iload_n hx hb dL_law_346 rfl (lv_at hl 3 rfl) ?_
  refine lv_iconst (v := 1) hx hb dL_law_347 (by decide) ?_
  refine o_iadd (z := 1) hx hb dL_law_348 rfl ?_
  refine o_sld (v := xs 1) hx hb hX hbl hbA h.2 (by unfold vp_in; decide) rfl dL_law_349 ?_
  refine lv_aload_n hx hb dL_law_350 rfl (lv_at hl 0 rfl) ?_
  refine lv_iload_n hx hb dL_law_351 rfl (lv_at hl 3 rfl) ?_
  refine lv_iconst (v := 2) hx hb dL_law_352 (by decide) ?_
  refine o_iadd (z := 2) hx hb dL_law_353 rfl ?_
  refine o_sld (v := xs 2) hx hb hX hbl hbA h.2 (by unfold vp_in; decide) rfl dL_law_354 ?_
  refine q_Vi (na := 2) (As := [.int (xs 1), .int (xs 2)]) (rest := [.int (-2)]) X hD hN h rfl (c_M_ladle l G cI cB cZ cO ad w1 F1 (xs 1) (xs 2)) ⟨kw_396, kw_397, kw_398, kw_190, kw_399⟩ rfl ⟨by decide, by decide, by decide⟩ ⟨Nat.le_of_ble_eq_true rfl, Nat.le_of_ble_eq_true rfl⟩ ⟨Nat.le_of_ble_eq_true rfl, Nat.le_of_ble_eq_true rfl⟩ (by decide) f64 rfl rfl hl.1 rfl (Nat.le_of_ble_eq_true rfl) dL_law_355 (fun r2 w2 H locs hp2 h => ?_)
  subst hp2
  refine lv_icmp_eq (tgt := 1232) hx hb dL_law_358 (by decide) (fun _ => hend H locs h.2) (fun hc => absurd rfl hc)

set_option maxHeartbeats 4000000 in
set_option maxRecDepth 100000 in
theorem law_pours {p : Program} {l : Launch} {e : Env} {s : State} {m : MethodId} {below : List Frame} {meth : Method} {c : Code} {Q : State → Prop} {G : va_G} {cI cB cZ cO : ClassId} {ad : Nat → Nat} {w : Nat → va_E} {b : Nat} {xs : Nat → Int32} (X : Fx p m c code 4 s #[Value.ref b] "NoonShadeLaw" G (tyq cI cB cZ cO) (fun q => s.heap.size ≤ q)) (hD : WD (fun q => s.heap.size ≤ q) 74 ad) (hN : NW s) (F : ∀ k, k < 74 → w k = fr0 cI cB cZ cO ad k) (hX : va_X b 5 xs s s.heap) (hbl : b < s.heap.size) {H : Heap} {locs : List Loc} {ls : Array Slot} (h : St G 74 ad (fun q => s.heap.size ≤ q) s.heap w H locs) (hl : lv_has ls 4 [(0, .ref b), (1, .ref (ad 0)), (2, .ref (ad 64)), (3, .int 0)]) (hend : ∀ (H : Heap) (locs : List Loc), va_S (fun q => s.heap.size ≤ q) s.heap H locs → W p l e room_1 s m #[Value.ref b] below meth c H locs 74 2063 Q (F0 m 1232 ls [])) : W p l e room_1 s m #[Value.ref b] below meth c H locs 74 2063 Q (F0 m 363 ls []) := by
  have hx := X.1.1
  have hb := X.1.2.1
  have hbA : ¬ (fun q => s.heap.size ≤ q) b := Nat.not_le.mpr hbl
  have f0 : w 0 = .inr (6, [.ref (ad 1), .ref (ad 14), .ref (ad 27), .ref (ad 54), .ref (ad 55), .ref (ad 58), .ref (ad 62), .long 0, .long 1, .int 0, .int 0, .int 0]) := F 0 (by decide)
  refine lv_aload_n hx hb dL_law_363 rfl (lv_at hl 1 rfl) ?_
  refine lv_aload_n hx hb dL_law_364 rfl (lv_at hl 0 rfl) ?_
  refine lv_iload_n hx hb dL_law_365 rfl (lv_at hl 3 rfl) ?_
  refine lv_iconst (v := 1) hx hb dL_law_366 (by decide) ?_
  refine o_iadd (z := 1) hx hb dL_law_367 rfl ?_
  refine o_sld (v := xs 1) hx hb hX hbl hbA h.2 (by unfold vp_in; decide) rfl dL_law_368 ?_
  refine lv_aload_n hx hb dL_law_369 rfl (lv_at hl 0 rfl) ?_
  refine lv_iload_n hx hb dL_law_370 rfl (lv_at hl 3 rfl) ?_
  refine lv_iconst (v := 2) hx hb dL_law_371 (by decide) ?_
  refine o_iadd (z := 2) hx hb dL_law_372 rfl ?_
  refine o_sld (v := xs 2) hx hb hX hbl hbA h.2 (by unfold vp_in; decide) rfl dL_law_373 ?_
  refine q_Vi (na := 2) (As := [.int (xs 1), .int (xs 2)]) (rest := []) X hD hN h rfl (c_X_pours l G cI cB cZ cO ad w F (xs 1) (xs 2)) ⟨kw_400, kw_401, kw_402, kw_14, kw_403⟩ rfl ⟨by decide, by decide, by decide⟩ ⟨Nat.le_of_ble_eq_true rfl, Nat.le_of_ble_eq_true rfl⟩ ⟨Nat.le_of_ble_eq_true rfl, Nat.le_of_ble_eq_true rfl⟩ (by decide) f0 rfl rfl hl.1 rfl (Nat.le_of_ble_eq_true rfl) dL_law_374 (fun r1 w1 H locs hp1 h => ?_)
  obtain ⟨rfl, hfr⟩ := hp1
  have F1 : ∀ k, k < 74 → 64 ≤ k → w1 k = fr0 cI cB cZ cO ad k := fun k h1 h2 => (hfr k h2).trans (F k h1)
  have f64 : w1 64 = .inr (7, [.ref (ad 65), .ref (ad 66), .ref (ad 67), .ref (ad 68), .long 0, .long 1, .ref (ad 69), .int 0, .ref (ad 70), .ref (ad 71), .int 0, .int 0, .int 0, .int 0, .int 0, .ref (ad 72), .ref (ad 73)]) := F1 64 (by decide) (by decide)
  refine lv_aload_n hx hb dL_law_377 rfl (lv_at hl 2 rfl) ?_
  refine lv_aload_n hx hb dL_law_378 rfl (lv_at hl 0 rfl) ?_
  refine lv_iload_n hx hb dL_law_379 rfl (lv_at hl 3 rfl) ?_
  refine lv_iconst (v := 1) hx hb dL_law_380 (by decide) ?_
  refine o_iadd (z := 1) hx hb dL_law_381 rfl ?_
  refine o_sld (v := xs 1) hx hb hX hbl hbA h.2 (by unfold vp_in; decide) rfl dL_law_382 ?_
  refine lv_aload_n hx hb dL_law_383 rfl (lv_at hl 0 rfl) ?_
  refine lv_iload_n hx hb dL_law_384 rfl (lv_at hl 3 rfl) ?_
  refine lv_iconst (v := 2) hx hb dL_law_385 (by decide) ?_
  refine o_iadd (z := 2) hx hb dL_law_386 rfl ?_
  refine o_sld (v := xs 2) hx hb hX hbl hbA h.2 (by unfold vp_in; decide) rfl dL_law_387 ?_
  refine q_Vi (na := 2) (As := [.int (xs 1), .int (xs 2)]) (rest := [.int (-2)]) X hD hN h rfl (c_M_pours l G cI cB cZ cO ad w1 F1 (xs 1) (xs 2)) ⟨kw_404, kw_405, kw_406, kw_190, kw_407⟩ rfl ⟨by decide, by decide, by decide⟩ ⟨Nat.le_of_ble_eq_true rfl, Nat.le_of_ble_eq_true rfl⟩ ⟨Nat.le_of_ble_eq_true rfl, Nat.le_of_ble_eq_true rfl⟩ (by decide) f64 rfl rfl hl.1 rfl (Nat.le_of_ble_eq_true rfl) dL_law_388 (fun r2 w2 H locs hp2 h => ?_)
  subst hp2
  refine lv_icmp_eq (tgt := 1232) hx hb dL_law_391 (by decide) (fun _ => hend H locs h.2) (fun hc => absurd rfl hc)

set_option maxHeartbeats 4000000 in
set_option maxRecDepth 100000 in
theorem law_sells {p : Program} {l : Launch} {e : Env} {s : State} {m : MethodId} {below : List Frame} {meth : Method} {c : Code} {Q : State → Prop} {G : va_G} {cI cB cZ cO : ClassId} {ad : Nat → Nat} {w : Nat → va_E} {b : Nat} {xs : Nat → Int32} (X : Fx p m c code 4 s #[Value.ref b] "NoonShadeLaw" G (tyq cI cB cZ cO) (fun q => s.heap.size ≤ q)) (hD : WD (fun q => s.heap.size ≤ q) 74 ad) (hN : NW s) (F : ∀ k, k < 74 → w k = fr0 cI cB cZ cO ad k) (hX : va_X b 5 xs s s.heap) (hbl : b < s.heap.size) {H : Heap} {locs : List Loc} {ls : Array Slot} (h : St G 74 ad (fun q => s.heap.size ≤ q) s.heap w H locs) (hl : lv_has ls 4 [(0, .ref b), (1, .ref (ad 0)), (2, .ref (ad 64)), (3, .int 0)]) (hend : ∀ (H : Heap) (locs : List Loc), va_S (fun q => s.heap.size ≤ q) s.heap H locs → W p l e room_1 s m #[Value.ref b] below meth c H locs 74 2063 Q (F0 m 1232 ls [])) : W p l e room_1 s m #[Value.ref b] below meth c H locs 74 2063 Q (F0 m 396 ls []) := by
  have hx := X.1.1
  have hb := X.1.2.1
  have hbA : ¬ (fun q => s.heap.size ≤ q) b := Nat.not_le.mpr hbl
  have f0 : w 0 = .inr (6, [.ref (ad 1), .ref (ad 14), .ref (ad 27), .ref (ad 54), .ref (ad 55), .ref (ad 58), .ref (ad 62), .long 0, .long 1, .int 0, .int 0, .int 0]) := F 0 (by decide)
  refine lv_aload_n hx hb dL_law_396 rfl (lv_at hl 1 rfl) ?_
  refine lv_aload_n hx hb dL_law_397 rfl (lv_at hl 0 rfl) ?_
  refine lv_iload_n hx hb dL_law_398 rfl (lv_at hl 3 rfl) ?_
  refine lv_iconst (v := 1) hx hb dL_law_399 (by decide) ?_
  refine o_iadd (z := 1) hx hb dL_law_400 rfl ?_
  refine o_sld (v := xs 1) hx hb hX hbl hbA h.2 (by unfold vp_in; decide) rfl dL_law_401 ?_
  refine q_Vi (na := 1) (As := [.int (xs 1)]) (rest := []) X hD hN h rfl (c_X_sells l G cI cB cZ cO ad w F (xs 1)) ⟨kw_408, kw_409, kw_410, kw_14, kw_411⟩ rfl ⟨by decide, by decide, by decide⟩ ⟨Nat.le_of_ble_eq_true rfl, Nat.le_of_ble_eq_true rfl⟩ ⟨Nat.le_of_ble_eq_true rfl, Nat.le_of_ble_eq_true rfl⟩ (by decide) f0 rfl rfl hl.1 rfl (Nat.le_of_ble_eq_true rfl) dL_law_402 (fun r1 w1 H locs hp1 h => ?_)
  obtain ⟨rfl, hfr⟩ := hp1
  have F1 : ∀ k, k < 74 → 64 ≤ k → w1 k = fr0 cI cB cZ cO ad k := fun k h1 h2 => (hfr k h2).trans (F k h1)
  have f64 : w1 64 = .inr (7, [.ref (ad 65), .ref (ad 66), .ref (ad 67), .ref (ad 68), .long 0, .long 1, .ref (ad 69), .int 0, .ref (ad 70), .ref (ad 71), .int 0, .int 0, .int 0, .int 0, .int 0, .ref (ad 72), .ref (ad 73)]) := F1 64 (by decide) (by decide)
  refine lv_aload_n hx hb dL_law_405 rfl (lv_at hl 2 rfl) ?_
  refine lv_aload_n hx hb dL_law_406 rfl (lv_at hl 0 rfl) ?_
  refine lv_iload_n hx hb dL_law_407 rfl (lv_at hl 3 rfl) ?_
  refine lv_iconst (v := 1) hx hb dL_law_408 (by decide) ?_
  refine o_iadd (z := 1) hx hb dL_law_409 rfl ?_
  refine o_sld (v := xs 1) hx hb hX hbl hbA h.2 (by unfold vp_in; decide) rfl dL_law_410 ?_
  refine q_Vi (na := 1) (As := [.int (xs 1)]) (rest := [.int (-2)]) X hD hN h rfl (c_M_sells l G cI cB cZ cO ad w1 F1 (xs 1)) ⟨kw_412, kw_413, kw_414, kw_190, kw_415⟩ rfl ⟨by decide, by decide, by decide⟩ ⟨Nat.le_of_ble_eq_true rfl, Nat.le_of_ble_eq_true rfl⟩ ⟨Nat.le_of_ble_eq_true rfl, Nat.le_of_ble_eq_true rfl⟩ (by decide) f64 rfl rfl hl.1 rfl (Nat.le_of_ble_eq_true rfl) dL_law_411 (fun r2 w2 H locs hp2 h => ?_)
  subst hp2
  refine lv_icmp_eq (tgt := 1232) hx hb dL_law_414 (by decide) (fun _ => hend H locs h.2) (fun hc => absurd rfl hc)

set_option maxHeartbeats 4000000 in
set_option maxRecDepth 100000 in
theorem law_hours {p : Program} {l : Launch} {e : Env} {s : State} {m : MethodId} {below : List Frame} {meth : Method} {c : Code} {Q : State → Prop} {G : va_G} {cI cB cZ cO : ClassId} {ad : Nat → Nat} {w : Nat → va_E} {b : Nat} {xs : Nat → Int32} (X : Fx p m c code 4 s #[Value.ref b] "NoonShadeLaw" G (tyq cI cB cZ cO) (fun q => s.heap.size ≤ q)) (hD : WD (fun q => s.heap.size ≤ q) 74 ad) (hN : NW s) (F : ∀ k, k < 74 → w k = fr0 cI cB cZ cO ad k) (hX : va_X b 5 xs s s.heap) (hbl : b < s.heap.size) {H : Heap} {locs : List Loc} {ls : Array Slot} (h : St G 74 ad (fun q => s.heap.size ≤ q) s.heap w H locs) (hl : lv_has ls 4 [(0, .ref b), (1, .ref (ad 0)), (2, .ref (ad 64)), (3, .int 0)]) (hend : ∀ (H : Heap) (locs : List Loc), va_S (fun q => s.heap.size ≤ q) s.heap H locs → W p l e room_1 s m #[Value.ref b] below meth c H locs 74 2063 Q (F0 m 1232 ls [])) : W p l e room_1 s m #[Value.ref b] below meth c H locs 74 2063 Q (F0 m 419 ls []) := by
  have hx := X.1.1
  have hb := X.1.2.1
  have hbA : ¬ (fun q => s.heap.size ≤ q) b := Nat.not_le.mpr hbl
  have f0 : w 0 = .inr (6, [.ref (ad 1), .ref (ad 14), .ref (ad 27), .ref (ad 54), .ref (ad 55), .ref (ad 58), .ref (ad 62), .long 0, .long 1, .int 0, .int 0, .int 0]) := F 0 (by decide)
  refine lv_aload_n hx hb dL_law_419 rfl (lv_at hl 1 rfl) ?_
  refine lv_aload_n hx hb dL_law_420 rfl (lv_at hl 0 rfl) ?_
  refine lv_iload_n hx hb dL_law_421 rfl (lv_at hl 3 rfl) ?_
  refine lv_iconst (v := 1) hx hb dL_law_422 (by decide) ?_
  refine o_iadd (z := 1) hx hb dL_law_423 rfl ?_
  refine o_sld (v := xs 1) hx hb hX hbl hbA h.2 (by unfold vp_in; decide) rfl dL_law_424 ?_
  refine q_Vi (na := 1) (As := [.int (xs 1)]) (rest := []) X hD hN h rfl (c_X_hours l G cI cB cZ cO ad w F (xs 1)) ⟨kw_416, kw_417, kw_418, kw_14, kw_419⟩ rfl ⟨by decide, by decide, by decide⟩ ⟨Nat.le_of_ble_eq_true rfl, Nat.le_of_ble_eq_true rfl⟩ ⟨Nat.le_of_ble_eq_true rfl, Nat.le_of_ble_eq_true rfl⟩ (by decide) f0 rfl rfl hl.1 rfl (Nat.le_of_ble_eq_true rfl) dL_law_425 (fun r1 w1 H locs hp1 h => ?_)
  obtain ⟨a0, a1, hfr⟩ := hp1
  have F1 : ∀ k, k < 74 → 64 ≤ k → w1 k = fr0 cI cB cZ cO ad k := fun k h1 h2 => (hfr k h2).trans (F k h1)
  have f64 : w1 64 = .inr (7, [.ref (ad 65), .ref (ad 66), .ref (ad 67), .ref (ad 68), .long 0, .long 1, .ref (ad 69), .int 0, .ref (ad 70), .ref (ad 71), .int 0, .int 0, .int 0, .int 0, .int 0, .ref (ad 72), .ref (ad 73)]) := F1 64 (by decide) (by decide)
  refine lv_aload_n hx hb dL_law_428 rfl (lv_at hl 2 rfl) ?_
  refine lv_aload_n hx hb dL_law_429 rfl (lv_at hl 0 rfl) ?_
  refine lv_iload_n hx hb dL_law_430 rfl (lv_at hl 3 rfl) ?_
  refine lv_iconst (v := 1) hx hb dL_law_431 (by decide) ?_
  refine o_iadd (z := 1) hx hb dL_law_432 rfl ?_
  refine o_sld (v := xs 1) hx hb hX hbl hbA h.2 (by unfold vp_in; decide) rfl dL_law_433 ?_
  refine q_Vi (na := 1) (As := [.int (xs 1)]) (rest := [.int r1]) X hD hN h rfl (c_M_hours l G cI cB cZ cO ad w1 F1 (xs 1)) ⟨kw_420, kw_421, kw_422, kw_190, kw_423⟩ rfl ⟨by decide, by decide, by decide⟩ ⟨Nat.le_of_ble_eq_true rfl, Nat.le_of_ble_eq_true rfl⟩ ⟨Nat.le_of_ble_eq_true rfl, Nat.le_of_ble_eq_true rfl⟩ (by decide) f64 rfl rfl hl.1 rfl (Nat.le_of_ble_eq_true rfl) dL_law_434 (fun r2 w2 H locs hp2 h => ?_)
  obtain ⟨b0, b1⟩ := hp2
  have he : r1 = r2 := by
    by_cases g0 : 1 ≤ (xs 1).toInt ∧ (xs 1).toInt ≤ 60
    · exact (a0 g0).trans (b0 g0).symm
    exact (a1 (by omega)).trans (b1 (by omega)).symm
  refine lv_icmp_eq (tgt := 1232) hx hb dL_law_437 (by decide) (fun _ => hend H locs h.2) (fun hc => absurd he hc)

set_option maxHeartbeats 4000000 in
set_option maxRecDepth 100000 in
theorem law_undo {p : Program} {l : Launch} {e : Env} {s : State} {m : MethodId} {below : List Frame} {meth : Method} {c : Code} {Q : State → Prop} {G : va_G} {cI cB cZ cO : ClassId} {ad : Nat → Nat} {w : Nat → va_E} {b : Nat} {xs : Nat → Int32} (X : Fx p m c code 4 s #[Value.ref b] "NoonShadeLaw" G (tyq cI cB cZ cO) (fun q => s.heap.size ≤ q)) (hD : WD (fun q => s.heap.size ≤ q) 74 ad) (hN : NW s) (F : ∀ k, k < 74 → w k = fr0 cI cB cZ cO ad k) (hX : va_X b 5 xs s s.heap) (hbl : b < s.heap.size) {H : Heap} {locs : List Loc} {ls : Array Slot} (h : St G 74 ad (fun q => s.heap.size ≤ q) s.heap w H locs) (hl : lv_has ls 4 [(0, .ref b), (1, .ref (ad 0)), (2, .ref (ad 64)), (3, .int 0)]) (hend : ∀ (H : Heap) (locs : List Loc), va_S (fun q => s.heap.size ≤ q) s.heap H locs → W p l e room_1 s m #[Value.ref b] below meth c H locs 74 2063 Q (F0 m 1232 ls [])) : W p l e room_1 s m #[Value.ref b] below meth c H locs 74 2063 Q (F0 m 442 ls []) := by
  have hx := X.1.1
  have hb := X.1.2.1
  have hbA : ¬ (fun q => s.heap.size ≤ q) b := Nat.not_le.mpr hbl
  have f0 : w 0 = .inr (6, [.ref (ad 1), .ref (ad 14), .ref (ad 27), .ref (ad 54), .ref (ad 55), .ref (ad 58), .ref (ad 62), .long 0, .long 1, .int 0, .int 0, .int 0]) := F 0 (by decide)
  refine lv_aload_n hx hb dL_law_442 rfl (lv_at hl 1 rfl) ?_
  refine q_Vi (na := 0) (As := []) (rest := []) X hD hN h rfl (c_X_undo l G cI cB cZ cO ad w F) ⟨kw_424, kw_425, kw_426, kw_14, kw_427⟩ rfl ⟨by decide, by decide, by decide⟩ ⟨Nat.le_of_ble_eq_true rfl, Nat.le_of_ble_eq_true rfl⟩ ⟨Nat.le_of_ble_eq_true rfl, Nat.le_of_ble_eq_true rfl⟩ (by decide) f0 rfl rfl hl.1 rfl (Nat.le_of_ble_eq_true rfl) dL_law_443 (fun r1 w1 H locs hp1 h => ?_)
  obtain ⟨rfl, hfr⟩ := hp1
  have F1 : ∀ k, k < 74 → 64 ≤ k → w1 k = fr0 cI cB cZ cO ad k := fun k h1 h2 => (hfr k h2).trans (F k h1)
  have f64 : w1 64 = .inr (7, [.ref (ad 65), .ref (ad 66), .ref (ad 67), .ref (ad 68), .long 0, .long 1, .ref (ad 69), .int 0, .ref (ad 70), .ref (ad 71), .int 0, .int 0, .int 0, .int 0, .int 0, .ref (ad 72), .ref (ad 73)]) := F1 64 (by decide) (by decide)
  refine lv_aload_n hx hb dL_law_446 rfl (lv_at hl 2 rfl) ?_
  refine q_Vi (na := 0) (As := []) (rest := [.int (-3)]) X hD hN h rfl (c_M_undo l G cI cB cZ cO ad w1 F1) ⟨kw_428, kw_429, kw_430, kw_190, kw_431⟩ rfl ⟨by decide, by decide, by decide⟩ ⟨Nat.le_of_ble_eq_true rfl, Nat.le_of_ble_eq_true rfl⟩ ⟨Nat.le_of_ble_eq_true rfl, Nat.le_of_ble_eq_true rfl⟩ (by decide) f64 rfl rfl hl.1 rfl (Nat.le_of_ble_eq_true rfl) dL_law_447 (fun r2 w2 H locs hp2 h => ?_)
  subst hp2
  refine lv_icmp_eq (tgt := 1232) hx hb dL_law_450 (by decide) (fun _ => hend H locs h.2) (fun hc => absurd rfl hc)

set_option maxHeartbeats 4000000 in
set_option maxRecDepth 100000 in
theorem law_of {p : Program} {l : Launch} {e : Env} {s : State} {m : MethodId} {below : List Frame} {meth : Method} {c : Code} {Q : State → Prop} {G : va_G} {cI cB cZ cO : ClassId} {ad : Nat → Nat} {w : Nat → va_E} {b : Nat} {xs : Nat → Int32} (X : Fx p m c code 4 s #[Value.ref b] "NoonShadeLaw" G (tyq cI cB cZ cO) (fun q => s.heap.size ≤ q)) (hD : WD (fun q => s.heap.size ≤ q) 74 ad) (hN : NW s) (F : ∀ k, k < 74 → w k = fr0 cI cB cZ cO ad k) (hX : va_X b 5 xs s s.heap) (hbl : b < s.heap.size) {H : Heap} {locs : List Loc} {ls : Array Slot} (h : St G 74 ad (fun q => s.heap.size ≤ q) s.heap w H locs) (hl : lv_has ls 4 [(0, .ref b), (1, .ref (ad 0)), (2, .ref (ad 64)), (3, .int 0)]) (hend : ∀ (H : Heap) (locs : List Loc), va_S (fun q => s.heap.size ≤ q) s.heap H locs → W p l e room_1 s m #[Value.ref b] below meth c H locs 74 2063 Q (F0 m 1232 ls [])) : W p l e room_1 s m #[Value.ref b] below meth c H locs 74 2063 Q (F0 m 455 ls []) := by
  have hx := X.1.1
  have hb := X.1.2.1
  have hbA : ¬ (fun q => s.heap.size ≤ q) b := Nat.not_le.mpr hbl
  have f0 : w 0 = .inr (6, [.ref (ad 1), .ref (ad 14), .ref (ad 27), .ref (ad 54), .ref (ad 55), .ref (ad 58), .ref (ad 62), .long 0, .long 1, .int 0, .int 0, .int 0]) := F 0 (by decide)
  refine lv_aload_n hx hb dL_law_455 rfl (lv_at hl 1 rfl) ?_
  refine lv_aload_n hx hb dL_law_456 rfl (lv_at hl 0 rfl) ?_
  refine lv_iload_n hx hb dL_law_457 rfl (lv_at hl 3 rfl) ?_
  refine lv_iconst (v := 1) hx hb dL_law_458 (by decide) ?_
  refine o_iadd (z := 1) hx hb dL_law_459 rfl ?_
  refine o_sld (v := xs 1) hx hb hX hbl hbA h.2 (by unfold vp_in; decide) rfl dL_law_460 ?_
  refine lv_aload_n hx hb dL_law_461 rfl (lv_at hl 0 rfl) ?_
  refine lv_iload_n hx hb dL_law_462 rfl (lv_at hl 3 rfl) ?_
  refine lv_iconst (v := 2) hx hb dL_law_463 (by decide) ?_
  refine o_iadd (z := 2) hx hb dL_law_464 rfl ?_
  refine o_sld (v := xs 2) hx hb hX hbl hbA h.2 (by unfold vp_in; decide) rfl dL_law_465 ?_
  refine q_Vi (na := 2) (As := [.int (xs 1), .int (xs 2)]) (rest := []) X hD hN h rfl (c_X_of l G cI cB cZ cO ad w F (xs 1) (xs 2)) ⟨kw_432, kw_433, kw_434, kw_14, kw_435⟩ rfl ⟨by decide, by decide, by decide⟩ ⟨Nat.le_of_ble_eq_true rfl, Nat.le_of_ble_eq_true rfl⟩ ⟨Nat.le_of_ble_eq_true rfl, Nat.le_of_ble_eq_true rfl⟩ (by decide) f0 rfl rfl hl.1 rfl (Nat.le_of_ble_eq_true rfl) dL_law_466 (fun r1 w1 H locs hp1 h => ?_)
  obtain ⟨rfl, hfr⟩ := hp1
  have F1 : ∀ k, k < 74 → 64 ≤ k → w1 k = fr0 cI cB cZ cO ad k := fun k h1 h2 => (hfr k h2).trans (F k h1)
  have f64 : w1 64 = .inr (7, [.ref (ad 65), .ref (ad 66), .ref (ad 67), .ref (ad 68), .long 0, .long 1, .ref (ad 69), .int 0, .ref (ad 70), .ref (ad 71), .int 0, .int 0, .int 0, .int 0, .int 0, .ref (ad 72), .ref (ad 73)]) := F1 64 (by decide) (by decide)
  refine lv_aload_n hx hb dL_law_469 rfl (lv_at hl 2 rfl) ?_
  refine lv_aload_n hx hb dL_law_470 rfl (lv_at hl 0 rfl) ?_
  refine lv_iload_n hx hb dL_law_471 rfl (lv_at hl 3 rfl) ?_
  refine lv_iconst (v := 1) hx hb dL_law_472 (by decide) ?_
  refine o_iadd (z := 1) hx hb dL_law_473 rfl ?_
  refine o_sld (v := xs 1) hx hb hX hbl hbA h.2 (by unfold vp_in; decide) rfl dL_law_474 ?_
  refine lv_aload_n hx hb dL_law_475 rfl (lv_at hl 0 rfl) ?_
  refine lv_iload_n hx hb dL_law_476 rfl (lv_at hl 3 rfl) ?_
  refine lv_iconst (v := 2) hx hb dL_law_477 (by decide) ?_
  refine o_iadd (z := 2) hx hb dL_law_478 rfl ?_
  refine o_sld (v := xs 2) hx hb hX hbl hbA h.2 (by unfold vp_in; decide) rfl dL_law_479 ?_
  refine q_Vi (na := 2) (As := [.int (xs 1), .int (xs 2)]) (rest := [.int (-2)]) X hD hN h rfl (c_M_of l G cI cB cZ cO ad w1 F1 (xs 1) (xs 2)) ⟨kw_436, kw_437, kw_438, kw_190, kw_439⟩ rfl ⟨by decide, by decide, by decide⟩ ⟨Nat.le_of_ble_eq_true rfl, Nat.le_of_ble_eq_true rfl⟩ ⟨Nat.le_of_ble_eq_true rfl, Nat.le_of_ble_eq_true rfl⟩ (by decide) f64 rfl rfl hl.1 rfl (Nat.le_of_ble_eq_true rfl) dL_law_480 (fun r2 w2 H locs hp2 h => ?_)
  subst hp2
  refine lv_icmp_eq (tgt := 1232) hx hb dL_law_483 (by decide) (fun _ => hend H locs h.2) (fun hc => absurd rfl hc)

set_option maxHeartbeats 4000000 in
set_option maxRecDepth 100000 in
theorem law_about {p : Program} {l : Launch} {e : Env} {s : State} {m : MethodId} {below : List Frame} {meth : Method} {c : Code} {Q : State → Prop} {G : va_G} {cI cB cZ cO : ClassId} {ad : Nat → Nat} {w : Nat → va_E} {b : Nat} {xs : Nat → Int32} (X : Fx p m c code 4 s #[Value.ref b] "NoonShadeLaw" G (tyq cI cB cZ cO) (fun q => s.heap.size ≤ q)) (hD : WD (fun q => s.heap.size ≤ q) 74 ad) (hN : NW s) (F : ∀ k, k < 74 → w k = fr0 cI cB cZ cO ad k) (hX : va_X b 5 xs s s.heap) (hbl : b < s.heap.size) {H : Heap} {locs : List Loc} {ls : Array Slot} (h : St G 74 ad (fun q => s.heap.size ≤ q) s.heap w H locs) (hl : lv_has ls 4 [(0, .ref b), (1, .ref (ad 0)), (2, .ref (ad 64)), (3, .int 0)]) (hend : ∀ (H : Heap) (locs : List Loc), va_S (fun q => s.heap.size ≤ q) s.heap H locs → W p l e room_1 s m #[Value.ref b] below meth c H locs 74 2063 Q (F0 m 1232 ls [])) : W p l e room_1 s m #[Value.ref b] below meth c H locs 74 2063 Q (F0 m 488 ls []) := by
  have hx := X.1.1
  have hb := X.1.2.1
  have hbA : ¬ (fun q => s.heap.size ≤ q) b := Nat.not_le.mpr hbl
  have f0 : w 0 = .inr (6, [.ref (ad 1), .ref (ad 14), .ref (ad 27), .ref (ad 54), .ref (ad 55), .ref (ad 58), .ref (ad 62), .long 0, .long 1, .int 0, .int 0, .int 0]) := F 0 (by decide)
  refine lv_aload_n hx hb dL_law_488 rfl (lv_at hl 1 rfl) ?_
  refine lv_aload_n hx hb dL_law_489 rfl (lv_at hl 0 rfl) ?_
  refine lv_iload_n hx hb dL_law_490 rfl (lv_at hl 3 rfl) ?_
  refine lv_iconst (v := 1) hx hb dL_law_491 (by decide) ?_
  refine o_iadd (z := 1) hx hb dL_law_492 rfl ?_
  refine o_sld (v := xs 1) hx hb hX hbl hbA h.2 (by unfold vp_in; decide) rfl dL_law_493 ?_
  refine lv_aload_n hx hb dL_law_494 rfl (lv_at hl 0 rfl) ?_
  refine lv_iload_n hx hb dL_law_495 rfl (lv_at hl 3 rfl) ?_
  refine lv_iconst (v := 2) hx hb dL_law_496 (by decide) ?_
  refine o_iadd (z := 2) hx hb dL_law_497 rfl ?_
  refine o_sld (v := xs 2) hx hb hX hbl hbA h.2 (by unfold vp_in; decide) rfl dL_law_498 ?_
  refine q_Vi (na := 2) (As := [.int (xs 1), .int (xs 2)]) (rest := []) X hD hN h rfl (c_X_about l G cI cB cZ cO ad w F (xs 1) (xs 2)) ⟨kw_440, kw_441, kw_442, kw_14, kw_443⟩ rfl ⟨by decide, by decide, by decide⟩ ⟨Nat.le_of_ble_eq_true rfl, Nat.le_of_ble_eq_true rfl⟩ ⟨Nat.le_of_ble_eq_true rfl, Nat.le_of_ble_eq_true rfl⟩ (by decide) f0 rfl rfl hl.1 rfl (Nat.le_of_ble_eq_true rfl) dL_law_499 (fun r1 w1 H locs hp1 h => ?_)
  obtain ⟨rfl, hfr⟩ := hp1
  have F1 : ∀ k, k < 74 → 64 ≤ k → w1 k = fr0 cI cB cZ cO ad k := fun k h1 h2 => (hfr k h2).trans (F k h1)
  have f64 : w1 64 = .inr (7, [.ref (ad 65), .ref (ad 66), .ref (ad 67), .ref (ad 68), .long 0, .long 1, .ref (ad 69), .int 0, .ref (ad 70), .ref (ad 71), .int 0, .int 0, .int 0, .int 0, .int 0, .ref (ad 72), .ref (ad 73)]) := F1 64 (by decide) (by decide)
  refine lv_aload_n hx hb dL_law_502 rfl (lv_at hl 2 rfl) ?_
  refine lv_aload_n hx hb dL_law_503 rfl (lv_at hl 0 rfl) ?_
  refine lv_iload_n hx hb dL_law_504 rfl (lv_at hl 3 rfl) ?_
  refine lv_iconst (v := 1) hx hb dL_law_505 (by decide) ?_
  refine o_iadd (z := 1) hx hb dL_law_506 rfl ?_
  refine o_sld (v := xs 1) hx hb hX hbl hbA h.2 (by unfold vp_in; decide) rfl dL_law_507 ?_
  refine lv_aload_n hx hb dL_law_508 rfl (lv_at hl 0 rfl) ?_
  refine lv_iload_n hx hb dL_law_509 rfl (lv_at hl 3 rfl) ?_
  refine lv_iconst (v := 2) hx hb dL_law_510 (by decide) ?_
  refine o_iadd (z := 2) hx hb dL_law_511 rfl ?_
  refine o_sld (v := xs 2) hx hb hX hbl hbA h.2 (by unfold vp_in; decide) rfl dL_law_512 ?_
  refine q_Vi (na := 2) (As := [.int (xs 1), .int (xs 2)]) (rest := [.int (-2)]) X hD hN h rfl (c_M_about l G cI cB cZ cO ad w1 F1 (xs 1) (xs 2)) ⟨kw_444, kw_445, kw_446, kw_190, kw_447⟩ rfl ⟨by decide, by decide, by decide⟩ ⟨Nat.le_of_ble_eq_true rfl, Nat.le_of_ble_eq_true rfl⟩ ⟨Nat.le_of_ble_eq_true rfl, Nat.le_of_ble_eq_true rfl⟩ (by decide) f64 rfl rfl hl.1 rfl (Nat.le_of_ble_eq_true rfl) dL_law_513 (fun r2 w2 H locs hp2 h => ?_)
  subst hp2
  refine lv_icmp_eq (tgt := 1232) hx hb dL_law_516 (by decide) (fun _ => hend H locs h.2) (fun hc => absurd rfl hc)

set_option maxHeartbeats 4000000 in
set_option maxRecDepth 100000 in
theorem law_gives {p : Program} {l : Launch} {e : Env} {s : State} {m : MethodId} {below : List Frame} {meth : Method} {c : Code} {Q : State → Prop} {G : va_G} {cI cB cZ cO : ClassId} {ad : Nat → Nat} {w : Nat → va_E} {b : Nat} {xs : Nat → Int32} (X : Fx p m c code 4 s #[Value.ref b] "NoonShadeLaw" G (tyq cI cB cZ cO) (fun q => s.heap.size ≤ q)) (hD : WD (fun q => s.heap.size ≤ q) 74 ad) (hN : NW s) (F : ∀ k, k < 74 → w k = fr0 cI cB cZ cO ad k) (hX : va_X b 5 xs s s.heap) (hbl : b < s.heap.size) {H : Heap} {locs : List Loc} {ls : Array Slot} (h : St G 74 ad (fun q => s.heap.size ≤ q) s.heap w H locs) (hl : lv_has ls 4 [(0, .ref b), (1, .ref (ad 0)), (2, .ref (ad 64)), (3, .int 0)]) (hend : ∀ (H : Heap) (locs : List Loc), va_S (fun q => s.heap.size ≤ q) s.heap H locs → W p l e room_1 s m #[Value.ref b] below meth c H locs 74 2063 Q (F0 m 1232 ls [])) : W p l e room_1 s m #[Value.ref b] below meth c H locs 74 2063 Q (F0 m 521 ls []) := by
  have hx := X.1.1
  have hb := X.1.2.1
  have hbA : ¬ (fun q => s.heap.size ≤ q) b := Nat.not_le.mpr hbl
  have f0 : w 0 = .inr (6, [.ref (ad 1), .ref (ad 14), .ref (ad 27), .ref (ad 54), .ref (ad 55), .ref (ad 58), .ref (ad 62), .long 0, .long 1, .int 0, .int 0, .int 0]) := F 0 (by decide)
  refine lv_aload_n hx hb dL_law_521 rfl (lv_at hl 1 rfl) ?_
  refine lv_aload_n hx hb dL_law_522 rfl (lv_at hl 0 rfl) ?_
  refine lv_iload_n hx hb dL_law_523 rfl (lv_at hl 3 rfl) ?_
  refine lv_iconst (v := 1) hx hb dL_law_524 (by decide) ?_
  refine o_iadd (z := 1) hx hb dL_law_525 rfl ?_
  refine o_sld (v := xs 1) hx hb hX hbl hbA h.2 (by unfold vp_in; decide) rfl dL_law_526 ?_
  refine lv_aload_n hx hb dL_law_527 rfl (lv_at hl 0 rfl) ?_
  refine lv_iload_n hx hb dL_law_528 rfl (lv_at hl 3 rfl) ?_
  refine lv_iconst (v := 2) hx hb dL_law_529 (by decide) ?_
  refine o_iadd (z := 2) hx hb dL_law_530 rfl ?_
  refine o_sld (v := xs 2) hx hb hX hbl hbA h.2 (by unfold vp_in; decide) rfl dL_law_531 ?_
  refine q_Vi (na := 2) (As := [.int (xs 1), .int (xs 2)]) (rest := []) X hD hN h rfl (c_X_gives l G cI cB cZ cO ad w F (xs 1) (xs 2)) ⟨kw_448, kw_449, kw_450, kw_14, kw_451⟩ rfl ⟨by decide, by decide, by decide⟩ ⟨Nat.le_of_ble_eq_true rfl, Nat.le_of_ble_eq_true rfl⟩ ⟨Nat.le_of_ble_eq_true rfl, Nat.le_of_ble_eq_true rfl⟩ (by decide) f0 rfl rfl hl.1 rfl (Nat.le_of_ble_eq_true rfl) dL_law_532 (fun r1 w1 H locs hp1 h => ?_)
  obtain ⟨rfl, hfr⟩ := hp1
  have F1 : ∀ k, k < 74 → 64 ≤ k → w1 k = fr0 cI cB cZ cO ad k := fun k h1 h2 => (hfr k h2).trans (F k h1)
  have f64 : w1 64 = .inr (7, [.ref (ad 65), .ref (ad 66), .ref (ad 67), .ref (ad 68), .long 0, .long 1, .ref (ad 69), .int 0, .ref (ad 70), .ref (ad 71), .int 0, .int 0, .int 0, .int 0, .int 0, .ref (ad 72), .ref (ad 73)]) := F1 64 (by decide) (by decide)
  refine lv_aload_n hx hb dL_law_535 rfl (lv_at hl 2 rfl) ?_
  refine lv_aload_n hx hb dL_law_536 rfl (lv_at hl 0 rfl) ?_
  refine lv_iload_n hx hb dL_law_537 rfl (lv_at hl 3 rfl) ?_
  refine lv_iconst (v := 1) hx hb dL_law_538 (by decide) ?_
  refine o_iadd (z := 1) hx hb dL_law_539 rfl ?_
  refine o_sld (v := xs 1) hx hb hX hbl hbA h.2 (by unfold vp_in; decide) rfl dL_law_540 ?_
  refine lv_aload_n hx hb dL_law_541 rfl (lv_at hl 0 rfl) ?_
  refine lv_iload_n hx hb dL_law_542 rfl (lv_at hl 3 rfl) ?_
  refine lv_iconst (v := 2) hx hb dL_law_543 (by decide) ?_
  refine o_iadd (z := 2) hx hb dL_law_544 rfl ?_
  refine o_sld (v := xs 2) hx hb hX hbl hbA h.2 (by unfold vp_in; decide) rfl dL_law_545 ?_
  refine q_Vi (na := 2) (As := [.int (xs 1), .int (xs 2)]) (rest := [.int (-2)]) X hD hN h rfl (c_M_gives l G cI cB cZ cO ad w1 F1 (xs 1) (xs 2)) ⟨kw_452, kw_453, kw_454, kw_190, kw_455⟩ rfl ⟨by decide, by decide, by decide⟩ ⟨Nat.le_of_ble_eq_true rfl, Nat.le_of_ble_eq_true rfl⟩ ⟨Nat.le_of_ble_eq_true rfl, Nat.le_of_ble_eq_true rfl⟩ (by decide) f64 rfl rfl hl.1 rfl (Nat.le_of_ble_eq_true rfl) dL_law_546 (fun r2 w2 H locs hp2 h => ?_)
  subst hp2
  refine lv_icmp_eq (tgt := 1232) hx hb dL_law_549 (by decide) (fun _ => hend H locs h.2) (fun hc => absurd rfl hc)

set_option maxHeartbeats 4000000 in
set_option maxRecDepth 100000 in
theorem law_keeps {p : Program} {l : Launch} {e : Env} {s : State} {m : MethodId} {below : List Frame} {meth : Method} {c : Code} {Q : State → Prop} {G : va_G} {cI cB cZ cO : ClassId} {ad : Nat → Nat} {w : Nat → va_E} {b : Nat} {xs : Nat → Int32} (X : Fx p m c code 4 s #[Value.ref b] "NoonShadeLaw" G (tyq cI cB cZ cO) (fun q => s.heap.size ≤ q)) (hD : WD (fun q => s.heap.size ≤ q) 74 ad) (hN : NW s) (F : ∀ k, k < 74 → w k = fr0 cI cB cZ cO ad k) (hX : va_X b 5 xs s s.heap) (hbl : b < s.heap.size) {H : Heap} {locs : List Loc} {ls : Array Slot} (h : St G 74 ad (fun q => s.heap.size ≤ q) s.heap w H locs) (hl : lv_has ls 4 [(0, .ref b), (1, .ref (ad 0)), (2, .ref (ad 64)), (3, .int 0)]) (hend : ∀ (H : Heap) (locs : List Loc), va_S (fun q => s.heap.size ≤ q) s.heap H locs → W p l e room_1 s m #[Value.ref b] below meth c H locs 74 2063 Q (F0 m 1232 ls [])) : W p l e room_1 s m #[Value.ref b] below meth c H locs 74 2063 Q (F0 m 554 ls []) := by
  have hx := X.1.1
  have hb := X.1.2.1
  have hbA : ¬ (fun q => s.heap.size ≤ q) b := Nat.not_le.mpr hbl
  have f0 : w 0 = .inr (6, [.ref (ad 1), .ref (ad 14), .ref (ad 27), .ref (ad 54), .ref (ad 55), .ref (ad 58), .ref (ad 62), .long 0, .long 1, .int 0, .int 0, .int 0]) := F 0 (by decide)
  refine lv_aload_n hx hb dL_law_554 rfl (lv_at hl 1 rfl) ?_
  refine lv_aload_n hx hb dL_law_555 rfl (lv_at hl 0 rfl) ?_
  refine lv_iload_n hx hb dL_law_556 rfl (lv_at hl 3 rfl) ?_
  refine lv_iconst (v := 1) hx hb dL_law_557 (by decide) ?_
  refine o_iadd (z := 1) hx hb dL_law_558 rfl ?_
  refine o_sld (v := xs 1) hx hb hX hbl hbA h.2 (by unfold vp_in; decide) rfl dL_law_559 ?_
  refine lv_aload_n hx hb dL_law_560 rfl (lv_at hl 0 rfl) ?_
  refine lv_iload_n hx hb dL_law_561 rfl (lv_at hl 3 rfl) ?_
  refine lv_iconst (v := 2) hx hb dL_law_562 (by decide) ?_
  refine o_iadd (z := 2) hx hb dL_law_563 rfl ?_
  refine o_sld (v := xs 2) hx hb hX hbl hbA h.2 (by unfold vp_in; decide) rfl dL_law_564 ?_
  refine q_Vi (na := 2) (As := [.int (xs 1), .int (xs 2)]) (rest := []) X hD hN h rfl (c_X_keeps l G cI cB cZ cO ad w F (xs 1) (xs 2)) ⟨kw_456, kw_457, kw_458, kw_14, kw_459⟩ rfl ⟨by decide, by decide, by decide⟩ ⟨Nat.le_of_ble_eq_true rfl, Nat.le_of_ble_eq_true rfl⟩ ⟨Nat.le_of_ble_eq_true rfl, Nat.le_of_ble_eq_true rfl⟩ (by decide) f0 rfl rfl hl.1 rfl (Nat.le_of_ble_eq_true rfl) dL_law_565 (fun r1 w1 H locs hp1 h => ?_)
  obtain ⟨rfl, hfr⟩ := hp1
  have F1 : ∀ k, k < 74 → 64 ≤ k → w1 k = fr0 cI cB cZ cO ad k := fun k h1 h2 => (hfr k h2).trans (F k h1)
  have f64 : w1 64 = .inr (7, [.ref (ad 65), .ref (ad 66), .ref (ad 67), .ref (ad 68), .long 0, .long 1, .ref (ad 69), .int 0, .ref (ad 70), .ref (ad 71), .int 0, .int 0, .int 0, .int 0, .int 0, .ref (ad 72), .ref (ad 73)]) := F1 64 (by decide) (by decide)
  refine lv_aload_n hx hb dL_law_568 rfl (lv_at hl 2 rfl) ?_
  refine lv_aload_n hx hb dL_law_569 rfl (lv_at hl 0 rfl) ?_
  refine lv_iload_n hx hb dL_law_570 rfl (lv_at hl 3 rfl) ?_
  refine lv_iconst (v := 1) hx hb dL_law_571 (by decide) ?_
  refine o_iadd (z := 1) hx hb dL_law_572 rfl ?_
  refine o_sld (v := xs 1) hx hb hX hbl hbA h.2 (by unfold vp_in; decide) rfl dL_law_573 ?_
  refine lv_aload_n hx hb dL_law_574 rfl (lv_at hl 0 rfl) ?_
  refine lv_iload_n hx hb dL_law_575 rfl (lv_at hl 3 rfl) ?_
  refine lv_iconst (v := 2) hx hb dL_law_576 (by decide) ?_
  refine o_iadd (z := 2) hx hb dL_law_577 rfl ?_
  refine o_sld (v := xs 2) hx hb hX hbl hbA h.2 (by unfold vp_in; decide) rfl dL_law_578 ?_
  refine q_Vi (na := 2) (As := [.int (xs 1), .int (xs 2)]) (rest := [.int (-2)]) X hD hN h rfl (c_M_keeps l G cI cB cZ cO ad w1 F1 (xs 1) (xs 2)) ⟨kw_460, kw_461, kw_462, kw_190, kw_463⟩ rfl ⟨by decide, by decide, by decide⟩ ⟨Nat.le_of_ble_eq_true rfl, Nat.le_of_ble_eq_true rfl⟩ ⟨Nat.le_of_ble_eq_true rfl, Nat.le_of_ble_eq_true rfl⟩ (by decide) f64 rfl rfl hl.1 rfl (Nat.le_of_ble_eq_true rfl) dL_law_579 (fun r2 w2 H locs hp2 h => ?_)
  subst hp2
  refine lv_icmp_eq (tgt := 1232) hx hb dL_law_582 (by decide) (fun _ => hend H locs h.2) (fun hc => absurd rfl hc)

set_option maxHeartbeats 4000000 in
set_option maxRecDepth 100000 in
theorem law_when {p : Program} {l : Launch} {e : Env} {s : State} {m : MethodId} {below : List Frame} {meth : Method} {c : Code} {Q : State → Prop} {G : va_G} {cI cB cZ cO : ClassId} {ad : Nat → Nat} {w : Nat → va_E} {b : Nat} {xs : Nat → Int32} (X : Fx p m c code 4 s #[Value.ref b] "NoonShadeLaw" G (tyq cI cB cZ cO) (fun q => s.heap.size ≤ q)) (hD : WD (fun q => s.heap.size ≤ q) 74 ad) (hN : NW s) (F : ∀ k, k < 74 → w k = fr0 cI cB cZ cO ad k) (hX : va_X b 5 xs s s.heap) (hbl : b < s.heap.size) {H : Heap} {locs : List Loc} {ls : Array Slot} (h : St G 74 ad (fun q => s.heap.size ≤ q) s.heap w H locs) (hl : lv_has ls 4 [(0, .ref b), (1, .ref (ad 0)), (2, .ref (ad 64)), (3, .int 0)]) (hend : ∀ (H : Heap) (locs : List Loc), va_S (fun q => s.heap.size ≤ q) s.heap H locs → W p l e room_1 s m #[Value.ref b] below meth c H locs 74 2063 Q (F0 m 1232 ls [])) : W p l e room_1 s m #[Value.ref b] below meth c H locs 74 2063 Q (F0 m 587 ls []) := by
  have hx := X.1.1
  have hb := X.1.2.1
  have hbA : ¬ (fun q => s.heap.size ≤ q) b := Nat.not_le.mpr hbl
  have f0 : w 0 = .inr (6, [.ref (ad 1), .ref (ad 14), .ref (ad 27), .ref (ad 54), .ref (ad 55), .ref (ad 58), .ref (ad 62), .long 0, .long 1, .int 0, .int 0, .int 0]) := F 0 (by decide)
  refine lv_aload_n hx hb dL_law_587 rfl (lv_at hl 1 rfl) ?_
  refine lv_aload_n hx hb dL_law_588 rfl (lv_at hl 0 rfl) ?_
  refine lv_iload_n hx hb dL_law_589 rfl (lv_at hl 3 rfl) ?_
  refine lv_iconst (v := 1) hx hb dL_law_590 (by decide) ?_
  refine o_iadd (z := 1) hx hb dL_law_591 rfl ?_
  refine o_sld (v := xs 1) hx hb hX hbl hbA h.2 (by unfold vp_in; decide) rfl dL_law_592 ?_
  refine q_Vi (na := 1) (As := [.int (xs 1)]) (rest := []) X hD hN h rfl (c_X_when l G cI cB cZ cO ad w F (xs 1)) ⟨kw_464, kw_465, kw_466, kw_14, kw_467⟩ rfl ⟨by decide, by decide, by decide⟩ ⟨Nat.le_of_ble_eq_true rfl, Nat.le_of_ble_eq_true rfl⟩ ⟨Nat.le_of_ble_eq_true rfl, Nat.le_of_ble_eq_true rfl⟩ (by decide) f0 rfl rfl hl.1 rfl (Nat.le_of_ble_eq_true rfl) dL_law_593 (fun r1 w1 H locs hp1 h => ?_)
  obtain ⟨rfl, hfr⟩ := hp1
  have F1 : ∀ k, k < 74 → 64 ≤ k → w1 k = fr0 cI cB cZ cO ad k := fun k h1 h2 => (hfr k h2).trans (F k h1)
  have f64 : w1 64 = .inr (7, [.ref (ad 65), .ref (ad 66), .ref (ad 67), .ref (ad 68), .long 0, .long 1, .ref (ad 69), .int 0, .ref (ad 70), .ref (ad 71), .int 0, .int 0, .int 0, .int 0, .int 0, .ref (ad 72), .ref (ad 73)]) := F1 64 (by decide) (by decide)
  refine lv_aload_n hx hb dL_law_596 rfl (lv_at hl 2 rfl) ?_
  refine lv_aload_n hx hb dL_law_597 rfl (lv_at hl 0 rfl) ?_
  refine lv_iload_n hx hb dL_law_598 rfl (lv_at hl 3 rfl) ?_
  refine lv_iconst (v := 1) hx hb dL_law_599 (by decide) ?_
  refine o_iadd (z := 1) hx hb dL_law_600 rfl ?_
  refine o_sld (v := xs 1) hx hb hX hbl hbA h.2 (by unfold vp_in; decide) rfl dL_law_601 ?_
  refine q_Vi (na := 1) (As := [.int (xs 1)]) (rest := [.int (-2)]) X hD hN h rfl (c_M_when l G cI cB cZ cO ad w1 F1 (xs 1)) ⟨kw_468, kw_469, kw_470, kw_190, kw_471⟩ rfl ⟨by decide, by decide, by decide⟩ ⟨Nat.le_of_ble_eq_true rfl, Nat.le_of_ble_eq_true rfl⟩ ⟨Nat.le_of_ble_eq_true rfl, Nat.le_of_ble_eq_true rfl⟩ (by decide) f64 rfl rfl hl.1 rfl (Nat.le_of_ble_eq_true rfl) dL_law_602 (fun r2 w2 H locs hp2 h => ?_)
  subst hp2
  refine lv_icmp_eq (tgt := 1232) hx hb dL_law_605 (by decide) (fun _ => hend H locs h.2) (fun hc => absurd rfl hc)

set_option maxHeartbeats 4000000 in
set_option maxRecDepth 100000 in
theorem law_gone {p : Program} {l : Launch} {e : Env} {s : State} {m : MethodId} {below : List Frame} {meth : Method} {c : Code} {Q : State → Prop} {G : va_G} {cI cB cZ cO : ClassId} {ad : Nat → Nat} {w : Nat → va_E} {b : Nat} {xs : Nat → Int32} (X : Fx p m c code 4 s #[Value.ref b] "NoonShadeLaw" G (tyq cI cB cZ cO) (fun q => s.heap.size ≤ q)) (hD : WD (fun q => s.heap.size ≤ q) 74 ad) (hN : NW s) (F : ∀ k, k < 74 → w k = fr0 cI cB cZ cO ad k) (hX : va_X b 5 xs s s.heap) (hbl : b < s.heap.size) {H : Heap} {locs : List Loc} {ls : Array Slot} (h : St G 74 ad (fun q => s.heap.size ≤ q) s.heap w H locs) (hl : lv_has ls 4 [(0, .ref b), (1, .ref (ad 0)), (2, .ref (ad 64)), (3, .int 0)]) (hend : ∀ (H : Heap) (locs : List Loc), va_S (fun q => s.heap.size ≤ q) s.heap H locs → W p l e room_1 s m #[Value.ref b] below meth c H locs 74 2063 Q (F0 m 1232 ls [])) : W p l e room_1 s m #[Value.ref b] below meth c H locs 74 2063 Q (F0 m 610 ls []) := by
  have hx := X.1.1
  have hb := X.1.2.1
  have hbA : ¬ (fun q => s.heap.size ≤ q) b := Nat.not_le.mpr hbl
  have f0 : w 0 = .inr (6, [.ref (ad 1), .ref (ad 14), .ref (ad 27), .ref (ad 54), .ref (ad 55), .ref (ad 58), .ref (ad 62), .long 0, .long 1, .int 0, .int 0, .int 0]) := F 0 (by decide)
  refine lv_aload_n hx hb dL_law_610 rfl (lv_at hl 1 rfl) ?_
  refine lv_aload_n hx hb dL_law_611 rfl (lv_at hl 0 rfl) ?_
  refine lv_iload_n hx hb dL_law_612 rfl (lv_at hl 3 rfl) ?_
  refine lv_iconst (v := 1) hx hb dL_law_613 (by decide) ?_
  refine o_iadd (z := 1) hx hb dL_law_614 rfl ?_
  refine o_sld (v := xs 1) hx hb hX hbl hbA h.2 (by unfold vp_in; decide) rfl dL_law_615 ?_
  refine q_Vi (na := 1) (As := [.int (xs 1)]) (rest := []) X hD hN h rfl (c_X_gone l G cI cB cZ cO ad w F (xs 1)) ⟨kw_472, kw_473, kw_474, kw_14, kw_475⟩ rfl ⟨by decide, by decide, by decide⟩ ⟨Nat.le_of_ble_eq_true rfl, Nat.le_of_ble_eq_true rfl⟩ ⟨Nat.le_of_ble_eq_true rfl, Nat.le_of_ble_eq_true rfl⟩ (by decide) f0 rfl rfl hl.1 rfl (Nat.le_of_ble_eq_true rfl) dL_law_616 (fun r1 w1 H locs hp1 h => ?_)
  obtain ⟨rfl, hfr⟩ := hp1
  have F1 : ∀ k, k < 74 → 64 ≤ k → w1 k = fr0 cI cB cZ cO ad k := fun k h1 h2 => (hfr k h2).trans (F k h1)
  have f64 : w1 64 = .inr (7, [.ref (ad 65), .ref (ad 66), .ref (ad 67), .ref (ad 68), .long 0, .long 1, .ref (ad 69), .int 0, .ref (ad 70), .ref (ad 71), .int 0, .int 0, .int 0, .int 0, .int 0, .ref (ad 72), .ref (ad 73)]) := F1 64 (by decide) (by decide)
  refine lv_aload_n hx hb dL_law_619 rfl (lv_at hl 2 rfl) ?_
  refine lv_aload_n hx hb dL_law_620 rfl (lv_at hl 0 rfl) ?_
  refine lv_iload_n hx hb dL_law_621 rfl (lv_at hl 3 rfl) ?_
  refine lv_iconst (v := 1) hx hb dL_law_622 (by decide) ?_
  refine o_iadd (z := 1) hx hb dL_law_623 rfl ?_
  refine o_sld (v := xs 1) hx hb hX hbl hbA h.2 (by unfold vp_in; decide) rfl dL_law_624 ?_
  refine q_Vi (na := 1) (As := [.int (xs 1)]) (rest := [.int (-2)]) X hD hN h rfl (c_M_gone l G cI cB cZ cO ad w1 F1 (xs 1)) ⟨kw_476, kw_477, kw_478, kw_190, kw_479⟩ rfl ⟨by decide, by decide, by decide⟩ ⟨Nat.le_of_ble_eq_true rfl, Nat.le_of_ble_eq_true rfl⟩ ⟨Nat.le_of_ble_eq_true rfl, Nat.le_of_ble_eq_true rfl⟩ (by decide) f64 rfl rfl hl.1 rfl (Nat.le_of_ble_eq_true rfl) dL_law_625 (fun r2 w2 H locs hp2 h => ?_)
  subst hp2
  refine lv_icmp_eq (tgt := 1232) hx hb dL_law_628 (by decide) (fun _ => hend H locs h.2) (fun hc => absurd rfl hc)

set_option maxHeartbeats 4000000 in
set_option maxRecDepth 100000 in
theorem law_round {p : Program} {l : Launch} {e : Env} {s : State} {m : MethodId} {below : List Frame} {meth : Method} {c : Code} {Q : State → Prop} {G : va_G} {cI cB cZ cO : ClassId} {ad : Nat → Nat} {w : Nat → va_E} {b : Nat} {xs : Nat → Int32} (X : Fx p m c code 4 s #[Value.ref b] "NoonShadeLaw" G (tyq cI cB cZ cO) (fun q => s.heap.size ≤ q)) (hD : WD (fun q => s.heap.size ≤ q) 74 ad) (hN : NW s) (F : ∀ k, k < 74 → w k = fr0 cI cB cZ cO ad k) (hX : va_X b 5 xs s s.heap) (hbl : b < s.heap.size) {H : Heap} {locs : List Loc} {ls : Array Slot} (h : St G 74 ad (fun q => s.heap.size ≤ q) s.heap w H locs) (hl : lv_has ls 4 [(0, .ref b), (1, .ref (ad 0)), (2, .ref (ad 64)), (3, .int 0)]) (hend : ∀ (H : Heap) (locs : List Loc), va_S (fun q => s.heap.size ≤ q) s.heap H locs → W p l e room_1 s m #[Value.ref b] below meth c H locs 74 2063 Q (F0 m 1232 ls [])) : W p l e room_1 s m #[Value.ref b] below meth c H locs 74 2063 Q (F0 m 633 ls []) := by
  have hx := X.1.1
  have hb := X.1.2.1
  have hbA : ¬ (fun q => s.heap.size ≤ q) b := Nat.not_le.mpr hbl
  have f0 : w 0 = .inr (6, [.ref (ad 1), .ref (ad 14), .ref (ad 27), .ref (ad 54), .ref (ad 55), .ref (ad 58), .ref (ad 62), .long 0, .long 1, .int 0, .int 0, .int 0]) := F 0 (by decide)
  refine lv_aload_n hx hb dL_law_633 rfl (lv_at hl 1 rfl) ?_
  refine lv_aload_n hx hb dL_law_634 rfl (lv_at hl 0 rfl) ?_
  refine lv_iload_n hx hb dL_law_635 rfl (lv_at hl 3 rfl) ?_
  refine lv_iconst (v := 1) hx hb dL_law_636 (by decide) ?_
  refine o_iadd (z := 1) hx hb dL_law_637 rfl ?_
  refine o_sld (v := xs 1) hx hb hX hbl hbA h.2 (by unfold vp_in; decide) rfl dL_law_638 ?_
  refine lv_aload_n hx hb dL_law_639 rfl (lv_at hl 0 rfl) ?_
  refine lv_iload_n hx hb dL_law_640 rfl (lv_at hl 3 rfl) ?_
  refine lv_iconst (v := 2) hx hb dL_law_641 (by decide) ?_
  refine o_iadd (z := 2) hx hb dL_law_642 rfl ?_
  refine o_sld (v := xs 2) hx hb hX hbl hbA h.2 (by unfold vp_in; decide) rfl dL_law_643 ?_
  refine lv_aload_n hx hb dL_law_644 rfl (lv_at hl 0 rfl) ?_
  refine lv_iload_n hx hb dL_law_645 rfl (lv_at hl 3 rfl) ?_
  refine lv_iconst (v := 3) hx hb dL_law_646 (by decide) ?_
  refine o_iadd (z := 3) hx hb dL_law_647 rfl ?_
  refine o_sld (v := xs 3) hx hb hX hbl hbA h.2 (by unfold vp_in; decide) rfl dL_law_648 ?_
  refine q_Vi (na := 3) (As := [.int (xs 1), .int (xs 2), .int (xs 3)]) (rest := []) X hD hN h rfl (c_X_round l G cI cB cZ cO ad w F (xs 1) (xs 2) (xs 3)) ⟨kw_480, kw_481, kw_482, kw_14, kw_483⟩ rfl ⟨by decide, by decide, by decide⟩ ⟨Nat.le_of_ble_eq_true rfl, Nat.le_of_ble_eq_true rfl⟩ ⟨Nat.le_of_ble_eq_true rfl, Nat.le_of_ble_eq_true rfl⟩ (by decide) f0 rfl rfl hl.1 rfl (Nat.le_of_ble_eq_true rfl) dL_law_649 (fun r1 w1 H locs hp1 h => ?_)
  obtain ⟨rfl, hfr⟩ := hp1
  have F1 : ∀ k, k < 74 → 64 ≤ k → w1 k = fr0 cI cB cZ cO ad k := fun k h1 h2 => (hfr k h2).trans (F k h1)
  have f64 : w1 64 = .inr (7, [.ref (ad 65), .ref (ad 66), .ref (ad 67), .ref (ad 68), .long 0, .long 1, .ref (ad 69), .int 0, .ref (ad 70), .ref (ad 71), .int 0, .int 0, .int 0, .int 0, .int 0, .ref (ad 72), .ref (ad 73)]) := F1 64 (by decide) (by decide)
  refine lv_aload_n hx hb dL_law_652 rfl (lv_at hl 2 rfl) ?_
  refine lv_aload_n hx hb dL_law_653 rfl (lv_at hl 0 rfl) ?_
  refine lv_iload_n hx hb dL_law_654 rfl (lv_at hl 3 rfl) ?_
  refine lv_iconst (v := 1) hx hb dL_law_655 (by decide) ?_
  refine o_iadd (z := 1) hx hb dL_law_656 rfl ?_
  refine o_sld (v := xs 1) hx hb hX hbl hbA h.2 (by unfold vp_in; decide) rfl dL_law_657 ?_
  refine lv_aload_n hx hb dL_law_658 rfl (lv_at hl 0 rfl) ?_
  refine lv_iload_n hx hb dL_law_659 rfl (lv_at hl 3 rfl) ?_
  refine lv_iconst (v := 2) hx hb dL_law_660 (by decide) ?_
  refine o_iadd (z := 2) hx hb dL_law_661 rfl ?_
  refine o_sld (v := xs 2) hx hb hX hbl hbA h.2 (by unfold vp_in; decide) rfl dL_law_662 ?_
  refine lv_aload_n hx hb dL_law_663 rfl (lv_at hl 0 rfl) ?_
  refine lv_iload_n hx hb dL_law_664 rfl (lv_at hl 3 rfl) ?_
  refine lv_iconst (v := 3) hx hb dL_law_665 (by decide) ?_
  refine o_iadd (z := 3) hx hb dL_law_666 rfl ?_
  refine o_sld (v := xs 3) hx hb hX hbl hbA h.2 (by unfold vp_in; decide) rfl dL_law_667 ?_
  refine q_Vi (na := 3) (As := [.int (xs 1), .int (xs 2), .int (xs 3)]) (rest := [.int (-10)]) X hD hN h rfl (c_M_round l G cI cB cZ cO ad w1 F1 (xs 1) (xs 2) (xs 3)) ⟨kw_484, kw_485, kw_486, kw_190, kw_487⟩ rfl ⟨by decide, by decide, by decide⟩ ⟨Nat.le_of_ble_eq_true rfl, Nat.le_of_ble_eq_true rfl⟩ ⟨Nat.le_of_ble_eq_true rfl, Nat.le_of_ble_eq_true rfl⟩ (by decide) f64 rfl rfl hl.1 rfl (Nat.le_of_ble_eq_true rfl) dL_law_668 (fun r2 w2 H locs hp2 h => ?_)
  subst hp2
  refine lv_icmp_eq (tgt := 1232) hx hb dL_law_671 (by decide) (fun _ => hend H locs h.2) (fun hc => absurd rfl hc)
