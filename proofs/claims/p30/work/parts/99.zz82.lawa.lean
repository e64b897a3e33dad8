set_option maxHeartbeats 4000000 in
set_option maxRecDepth 100000 in
theorem law_island {p : Program} {l : Launch} {e : Env} {s : State} {m : MethodId} {below : List Frame} {meth : Method} {c : Code} {Q : State → Prop} {G : va_G} {cI cB cZ cO : ClassId} {ad : Nat → Nat} {w : Nat → va_E} {b L : Nat} {xs : Nat → Int32} {i : Int32} (X : Fx p m c code 4 s #[Value.ref b] "NoonShadeLaw" G (tyq cI cB cZ cO) (fun q => s.heap.size ≤ q)) (hD : WD (fun q => s.heap.size ≤ q) 74 ad) (hN : NS ad (fun q => s.heap.size ≤ q) s s.heap) (ok : OK cI cB cZ cO ad w) (rel : REL2 cI cB cZ ad w) (hX : va_X b L xs s s.heap) (hbl : b < s.heap.size) (hi0 : 0 ≤ i.toInt) (hi1 : i.toInt + 5 ≤ L) (hL : L ≤ 2560) {H : Heap} {locs : List Loc} {ls : Array Slot} (h : St G 74 ad (fun q => s.heap.size ≤ q) s.heap w H locs) (hl : lv_has ls 4 [(0, .ref b), (1, .ref (ad 0)), (2, .ref (ad 64)), (3, .int i)]) (hend : ∀ (w : Nat → va_E) (H : Heap) (locs : List Loc), OK cI cB cZ cO ad w → REL2 cI cB cZ ad w → St G 74 ad (fun q => s.heap.size ≤ q) s.heap w H locs → W p l e room_1 s m #[Value.ref b] below meth c H locs 74 2063 Q (F0 m 1230 ls [])) : W p l e room_1 s m #[Value.ref b] below meth c H locs 74 2063 Q (F0 m 192 ls []) := by
  have hx := X.1.1
  have hb := X.1.2.1
  have hbA : ¬ (fun q => s.heap.size ≤ q) b := Nat.not_le.mpr hbl
  obtain ⟨z1, ez1, tz1⟩ := x_add (x := i) (y := 1) (a := i.toInt) (b := 1) rfl rfl (by omega) (by omega)
  obtain ⟨a1, ea1⟩ : ∃ v : Int32, xs (z1).toNatClampNeg = v := ⟨_, rfl⟩
  obtain ⟨x0, y0, q0, q1, q2, f0⟩ := (show sN ad (w 0) from ok 0 (by decide))
  obtain ⟨ca, ja, nz, mz, hh, nc, mc, f, iv, f65, ird⟩ := id rel.2.1
  obtain ⟨ho, so, mi, e1, hrn, hca, hja, hnz, hmz⟩ := iv.cells (Or.inl rfl) ok
  have pal : alA f := (alA_of65 ok (Or.inl rfl) f65).1
  refine lv_aload_n hx hb dL_law_192 rfl (lv_at hl 1 rfl) ?_
  refine lv_aload_n hx hb dL_law_193 rfl (lv_at hl 0 rfl) ?_
  refine lv_iload_n hx hb dL_law_194 rfl (lv_at hl 3 rfl) ?_
  refine lv_iconst (v := 1) hx hb dL_law_195 (by decide) ?_
  refine o_iadd (z := z1) hx hb dL_law_196 ez1 ?_
  refine o_sld (v := a1) hx hb hX hbl hbA h.2 (in_of (by omega) (by omega)) ea1 dL_law_197 ?_
  refine n_Vi (na := 1) (As := [.int a1]) (rest := []) X hD hN h rfl (c_F_island l G cI cB cZ cO ad w ho so mi ca ja nz mz hh nc mc ok a1 e1 iv.2.1 iv.2.2.1 iv.2.2.2.1 iv.2.2.2.2.1 iv.2.2.2.2.2 hrn hca hja hnz hmz) ⟨kv_719, kv_720, kv_721, kv_212, kv_722⟩ rfl ⟨by decide, by decide, by decide⟩ ⟨Nat.le_of_ble_eq_true rfl, Nat.le_of_ble_eq_true rfl⟩ ⟨Nat.le_of_ble_eq_true rfl, Nat.le_of_ble_eq_true rfl⟩ (by decide) f0 rfl rfl hl.1 rfl (Nat.le_of_ble_eq_true rfl) dL_law_198 (fun r1 w1 H locs hp1 h => ?_)
  obtain ⟨ok1, kx1, hr1⟩ := hp1
  refine lv_pop hx hb dL_law_201 rfl ?_
  obtain ⟨x1, y1, m0, m1, m2, m3, m4, m5, f64, h64a, h64b⟩ := (show sM ad (w1 64) from ok1 64 (by decide))
  have f65b : w1 65 = .inl (cI, 177, .inl f) := by have c9 : w1 65 = w 65 := kx1 65; exact c9.trans f65
  refine lv_aload_n hx hb dL_law_202 rfl (lv_at hl 2 rfl) ?_
  refine lv_aload_n hx hb dL_law_203 rfl (lv_at hl 0 rfl) ?_
  refine lv_iload_n hx hb dL_law_204 rfl (lv_at hl 3 rfl) ?_
  refine lv_iconst (v := 1) hx hb dL_law_205 (by decide) ?_
  refine o_iadd (z := z1) hx hb dL_law_206 ez1 ?_
  refine o_sld (v := a1) hx hb hX hbl hbA h.2 (in_of (by omega) (by omega)) ea1 dL_law_207 ?_
  refine n_Vi (na := 1) (As := [.int a1]) (rest := []) X hD hN h rfl (c_MF_island l G cI cB cZ cO ad w1 f ok1 a1 f65b pal) ⟨kv_723, kv_724, kv_725, kv_470, kv_726⟩ rfl ⟨by decide, by decide, by decide⟩ ⟨Nat.le_of_ble_eq_true rfl, Nat.le_of_ble_eq_true rfl⟩ ⟨Nat.le_of_ble_eq_true rfl, Nat.le_of_ble_eq_true rfl⟩ (by decide) f64 rfl rfl hl.1 rfl (Nat.le_of_ble_eq_true rfl) dL_law_208 (fun r2 w2 H locs hp2 h => ?_)
  obtain ⟨ok2, kx2, hr2⟩ := hp2
  obtain ⟨rel2, he⟩ : REL2 cI cB cZ ad w2 ∧ r1 = r2 := two hr1 hr2 (fun a b => ⟨rel_refused rel ok1 ok2 a.1 b.1, a.2.trans b.2.symm⟩) (fun _ a b => by obtain ⟨g, eg, hg⟩ := b.2.2; exact ⟨rel_end rel a.1 a.2.2 b.1 eg (IRD.beg hg), a.2.1.symm.trans (ird.1.symm.trans b.2.1)⟩)
  refine lv_pop hx hb dL_law_211 rfl ?_
  refine lv_goto (tgt := 1230) hx hb dL_law_212 (by decide) ?_
  exact hend w2 H locs ok2 rel2 h

set_option maxHeartbeats 4000000 in
set_option maxRecDepth 100000 in
theorem law_caster {p : Program} {l : Launch} {e : Env} {s : State} {m : MethodId} {below : List Frame} {meth : Method} {c : Code} {Q : State → Prop} {G : va_G} {cI cB cZ cO : ClassId} {ad : Nat → Nat} {w : Nat → va_E} {b L : Nat} {xs : Nat → Int32} {i : Int32} (X : Fx p m c code 4 s #[Value.ref b] "NoonShadeLaw" G (tyq cI cB cZ cO) (fun q => s.heap.size ≤ q)) (hD : WD (fun q => s.heap.size ≤ q) 74 ad) (hN : NS ad (fun q => s.heap.size ≤ q) s s.heap) (ok : OK cI cB cZ cO ad w) (rel : REL2 cI cB cZ ad w) (hX : va_X b L xs s s.heap) (hbl : b < s.heap.size) (hi0 : 0 ≤ i.toInt) (hi1 : i.toInt + 5 ≤ L) (hL : L ≤ 2560) {H : Heap} {locs : List Loc} {ls : Array Slot} (h : St G 74 ad (fun q => s.heap.size ≤ q) s.heap w H locs) (hl : lv_has ls 4 [(0, .ref b), (1, .ref (ad 0)), (2, .ref (ad 64)), (3, .int i)]) (hend : ∀ (w : Nat → va_E) (H : Heap) (locs : List Loc), OK cI cB cZ cO ad w → REL2 cI cB cZ ad w → St G 74 ad (fun q => s.heap.size ≤ q) s.heap w H locs → W p l e room_1 s m #[Value.ref b] below meth c H locs 74 2063 Q (F0 m 1230 ls [])) : W p l e room_1 s m #[Value.ref b] below meth c H locs 74 2063 Q (F0 m 215 ls []) := by
  have hx := X.1.1
  have hb := X.1.2.1
  have hbA : ¬ (fun q => s.heap.size ≤ q) b := Nat.not_le.mpr hbl
  obtain ⟨z1, ez1, tz1⟩ := x_add (x := i) (y := 1) (a := i.toInt) (b := 1) rfl rfl (by omega) (by omega)
  obtain ⟨a1, ea1⟩ : ∃ v : Int32, xs (z1).toNatClampNeg = v := ⟨_, rfl⟩
  obtain ⟨z2, ez2, tz2⟩ := x_add (x := i) (y := 2) (a := i.toInt) (b := 2) rfl rfl (by omega) (by omega)
  obtain ⟨a2, ea2⟩ : ∃ v : Int32, xs (z2).toNatClampNeg = v := ⟨_, rfl⟩
  obtain ⟨z3, ez3, tz3⟩ := x_add (x := i) (y := 3) (a := i.toInt) (b := 3) rfl rfl (by omega) (by omega)
  obtain ⟨a3, ea3⟩ : ∃ v : Int32, xs (z3).toNatClampNeg = v := ⟨_, rfl⟩
  obtain ⟨x0, y0, q0, q1, q2, f0⟩ := (show sN ad (w 0) from ok 0 (by decide))
  obtain ⟨ca, ja, nz, mz, hh, nc, mc, f, iv, f65, ird⟩ := id rel.2.1
  obtain ⟨ho, so, mi, e1, hrn, hca, hja, hnz, hmz⟩ := iv.cells (Or.inl rfl) ok
  have pal : alA f := (alA_of65 ok (Or.inl rfl) f65).1
  refine lv_aload_n hx hb dL_law_215 rfl (lv_at hl 1 rfl) ?_
  refine lv_aload_n hx hb dL_law_216 rfl (lv_at hl 0 rfl) ?_
  refine lv_iload_n hx hb dL_law_217 rfl (lv_at hl 3 rfl) ?_
  refine lv_iconst (v := 1) hx hb dL_law_218 (by decide) ?_
  refine o_iadd (z := z1) hx hb dL_law_219 ez1 ?_
  refine o_sld (v := a1) hx hb hX hbl hbA h.2 (in_of (by omega) (by omega)) ea1 dL_law_220 ?_
  refine lv_aload_n hx hb dL_law_221 rfl (lv_at hl 0 rfl) ?_
  refine lv_iload_n hx hb dL_law_222 rfl (lv_at hl 3 rfl) ?_
  refine lv_iconst (v := 2) hx hb dL_law_223 (by decide) ?_
  refine o_iadd (z := z2) hx hb dL_law_224 ez2 ?_
  refine o_sld (v := a2) hx hb hX hbl hbA h.2 (in_of (by omega) (by omega)) ea2 dL_law_225 ?_
  refine lv_aload_n hx hb dL_law_226 rfl (lv_at hl 0 rfl) ?_
  refine lv_iload_n hx hb dL_law_227 rfl (lv_at hl 3 rfl) ?_
  refine lv_iconst (v := 3) hx hb dL_law_228 (by decide) ?_
  refine o_iadd (z := z3) hx hb dL_law_229 ez3 ?_
  refine o_sld (v := a3) hx hb hX hbl hbA h.2 (in_of (by omega) (by omega)) ea3 dL_law_230 ?_
  refine n_Vi (na := 3) (As := [.int a1, .int a2, .int a3]) (rest := []) X hD hN h rfl (c_F_caster l G cI cB cZ cO ad w ho so mi ca ja nz mz hh nc mc ok a1 a2 a3 e1 iv.2.1 iv.2.2.1 iv.2.2.2.1 iv.2.2.2.2.1 iv.2.2.2.2.2 hrn hca hja hnz hmz) ⟨kv_727, kv_728, kv_729, kv_212, kv_730⟩ rfl ⟨by decide, by decide, by decide⟩ ⟨Nat.le_of_ble_eq_true rfl, Nat.le_of_ble_eq_true rfl⟩ ⟨Nat.le_of_ble_eq_true rfl, Nat.le_of_ble_eq_true rfl⟩ (by decide) f0 rfl rfl hl.1 rfl (Nat.le_of_ble_eq_true rfl) dL_law_231 (fun r1 w1 H locs hp1 h => ?_)
  obtain ⟨ok1, kx1, hr1⟩ := hp1
  refine lv_pop hx hb dL_law_234 rfl ?_
  obtain ⟨x1, y1, m0, m1, m2, m3, m4, m5, f64, h64a, h64b⟩ := (show sM ad (w1 64) from ok1 64 (by decide))
  have f65b : w1 65 = .inl (cI, 177, .inl f) := by have c9 : w1 65 = w 65 := kx1 65; exact c9.trans f65
  refine lv_aload_n hx hb dL_law_235 rfl (lv_at hl 2 rfl) ?_
  refine lv_aload_n hx hb dL_law_236 rfl (lv_at hl 0 rfl) ?_
  refine lv_iload_n hx hb dL_law_237 rfl (lv_at hl 3 rfl) ?_
  refine lv_iconst (v := 1) hx hb dL_law_238 (by decide) ?_
  refine o_iadd (z := z1) hx hb dL_law_239 ez1 ?_
  refine o_sld (v := a1) hx hb hX hbl hbA h.2 (in_of (by omega) (by omega)) ea1 dL_law_240 ?_
  refine lv_aload_n hx hb dL_law_241 rfl (lv_at hl 0 rfl) ?_
  refine lv_iload_n hx hb dL_law_242 rfl (lv_at hl 3 rfl) ?_
  refine lv_iconst (v := 2) hx hb dL_law_243 (by decide) ?_
  refine o_iadd (z := z2) hx hb dL_law_244 ez2 ?_
  refine o_sld (v := a2) hx hb hX hbl hbA h.2 (in_of (by omega) (by omega)) ea2 dL_law_245 ?_
  refine lv_aload_n hx hb dL_law_246 rfl (lv_at hl 0 rfl) ?_
  refine lv_iload_n hx hb dL_law_247 rfl (lv_at hl 3 rfl) ?_
  refine lv_iconst (v := 3) hx hb dL_law_248 (by decide) ?_
  refine o_iadd (z := z3) hx hb dL_law_249 ez3 ?_
  refine o_sld (v := a3) hx hb hX hbl hbA h.2 (in_of (by omega) (by omega)) ea3 dL_law_250 ?_
  refine n_Vi (na := 3) (As := [.int a1, .int a2, .int a3]) (rest := []) X hD hN h rfl (c_MF_caster l G cI cB cZ cO ad w1 f ok1 a1 a2 a3 f65b pal) ⟨kv_731, kv_732, kv_733, kv_470, kv_734⟩ rfl ⟨by decide, by decide, by decide⟩ ⟨Nat.le_of_ble_eq_true rfl, Nat.le_of_ble_eq_true rfl⟩ ⟨Nat.le_of_ble_eq_true rfl, Nat.le_of_ble_eq_true rfl⟩ (by decide) f64 rfl rfl hl.1 rfl (Nat.le_of_ble_eq_true rfl) dL_law_251 (fun r2 w2 H locs hp2 h => ?_)
  obtain ⟨ok2, kx2, hr2⟩ := hp2
  obtain ⟨rel2, he⟩ : REL2 cI cB cZ ad w2 ∧ r1 = r2 := three hr1 ⟨fun q => by rw [ird.1]; omega, fun q => by rw [ird.1] at q; omega⟩ hr2 (fun a b => ⟨rel_refused rel ok1 ok2 a.1 b.1, a.2.trans b.2.symm⟩) (fun _ _ a b => ⟨rel_refused rel ok1 ok2 a.1 b.1, a.2.trans b.2.symm⟩) (fun _ l a b => ⟨rel_end rel a.1 a.2.2 b.1 b.2.2 (ird.cast hca.1 (by omega) hnz.2 hmz.2 a1 a2 a3), a.2.1.symm.trans (ird.1.symm.trans b.2.1)⟩)
  refine lv_pop hx hb dL_law_254 rfl ?_
  refine lv_goto (tgt := 1230) hx hb dL_law_255 (by decide) ?_
  exact hend w2 H locs ok2 rel2 h

set_option maxHeartbeats 4000000 in
set_option maxRecDepth 100000 in
theorem law_jar {p : Program} {l : Launch} {e : Env} {s : State} {m : MethodId} {below : List Frame} {meth : Method} {c : Code} {Q : State → Prop} {G : va_G} {cI cB cZ cO : ClassId} {ad : Nat → Nat} {w : Nat → va_E} {b L : Nat} {xs : Nat → Int32} {i : Int32} (X : Fx p m c code 4 s #[Value.ref b] "NoonShadeLaw" G (tyq cI cB cZ cO) (fun q => s.heap.size ≤ q)) (hD : WD (fun q => s.heap.size ≤ q) 74 ad) (hN : NS ad (fun q => s.heap.size ≤ q) s s.heap) (ok : OK cI cB cZ cO ad w) (rel : REL2 cI cB cZ ad w) (hX : va_X b L xs s s.heap) (hbl : b < s.heap.size) (hi0 : 0 ≤ i.toInt) (hi1 : i.toInt + 5 ≤ L) (hL : L ≤ 2560) {H : Heap} {locs : List Loc} {ls : Array Slot} (h : St G 74 ad (fun q => s.heap.size ≤ q) s.heap w H locs) (hl : lv_has ls 4 [(0, .ref b), (1, .ref (ad 0)), (2, .ref (ad 64)), (3, .int i)]) (hend : ∀ (w : Nat → va_E) (H : Heap) (locs : List Loc), OK cI cB cZ cO ad w → REL2 cI cB cZ ad w → St G 74 ad (fun q => s.heap.size ≤ q) s.heap w H locs → W p l e room_1 s m #[Value.ref b] below meth c H locs 74 2063 Q (F0 m 1230 ls [])) : W p l e room_1 s m #[Value.ref b] below meth c H locs 74 2063 Q (F0 m 258 ls []) := by
  have hx := X.1.1
  have hb := X.1.2.1
  have hbA : ¬ (fun q => s.heap.size ≤ q) b := Nat.not_le.mpr hbl
  obtain ⟨z1, ez1, tz1⟩ := x_add (x := i) (y := 1) (a := i.toInt) (b := 1) rfl rfl (by omega) (by omega)
  obtain ⟨a1, ea1⟩ : ∃ v : Int32, xs (z1).toNatClampNeg = v := ⟨_, rfl⟩
  obtain ⟨x0, y0, q0, q1, q2, f0⟩ := (show sN ad (w 0) from ok 0 (by decide))
  obtain ⟨ca, ja, nz, mz, hh, nc, mc, f, iv, f65, ird⟩ := id rel.2.1
  obtain ⟨ho, so, mi, e1, hrn, hca, hja, hnz, hmz⟩ := iv.cells (Or.inl rfl) ok
  have pal : alA f := (alA_of65 ok (Or.inl rfl) f65).1
  refine lv_aload_n hx hb dL_law_258 rfl (lv_at hl 1 rfl) ?_
  refine lv_aload_n hx hb dL_law_259 rfl (lv_at hl 0 rfl) ?_
  refine lv_iload_n hx hb dL_law_260 rfl (lv_at hl 3 rfl) ?_
  refine lv_iconst (v := 1) hx hb dL_law_261 (by decide) ?_
  refine o_iadd (z := z1) hx hb dL_law_262 ez1 ?_
  refine o_sld (v := a1) hx hb hX hbl hbA h.2 (in_of (by omega) (by omega)) ea1 dL_law_263 ?_
  refine n_Vi (na := 1) (As := [.int a1]) (rest := []) X hD hN h rfl (c_F_jar l G cI cB cZ cO ad w ho so mi ca ja nz mz hh nc mc ok a1 e1 iv.2.1 iv.2.2.1 iv.2.2.2.1 iv.2.2.2.2.1 iv.2.2.2.2.2 hrn hca hja hnz hmz) ⟨kv_735, kv_736, kv_737, kv_212, kv_738⟩ rfl ⟨by decide, by decide, by decide⟩ ⟨Nat.le_of_ble_eq_true rfl, Nat.le_of_ble_eq_true rfl⟩ ⟨Nat.le_of_ble_eq_true rfl, Nat.le_of_ble_eq_true rfl⟩ (by decide) f0 rfl rfl hl.1 rfl (Nat.le_of_ble_eq_true rfl) dL_law_264 (fun r1 w1 H locs hp1 h => ?_)
  obtain ⟨ok1, kx1, hr1⟩ := hp1
  refine lv_pop hx hb dL_law_267 rfl ?_
  obtain ⟨x1, y1, m0, m1, m2, m3, m4, m5, f64, h64a, h64b⟩ := (show sM ad (w1 64) from ok1 64 (by decide))
  have f65b : w1 65 = .inl (cI, 177, .inl f) := by have c9 : w1 65 = w 65 := kx1 65; exact c9.trans f65
  refine lv_aload_n hx hb dL_law_268 rfl (lv_at hl 2 rfl) ?_
  refine lv_aload_n hx hb dL_law_269 rfl (lv_at hl 0 rfl) ?_
  refine lv_iload_n hx hb dL_law_270 rfl (lv_at hl 3 rfl) ?_
  refine lv_iconst (v := 1) hx hb dL_law_271 (by decide) ?_
  refine o_iadd (z := z1) hx hb dL_law_272 ez1 ?_
  refine o_sld (v := a1) hx hb hX hbl hbA h.2 (in_of (by omega) (by omega)) ea1 dL_law_273 ?_
  refine n_Vi (na := 1) (As := [.int a1]) (rest := []) X hD hN h rfl (c_MF_jar l G cI cB cZ cO ad w1 f ok1 a1 f65b pal) ⟨kv_739, kv_740, kv_741, kv_470, kv_742⟩ rfl ⟨by decide, by decide, by decide⟩ ⟨Nat.le_of_ble_eq_true rfl, Nat.le_of_ble_eq_true rfl⟩ ⟨Nat.le_of_ble_eq_true rfl, Nat.le_of_ble_eq_true rfl⟩ (by decide) f64 rfl rfl hl.1 rfl (Nat.le_of_ble_eq_true rfl) dL_law_274 (fun r2 w2 H locs hp2 h => ?_)
  obtain ⟨ok2, kx2, hr2⟩ := hp2
  obtain ⟨rel2, he⟩ : REL2 cI cB cZ ad w2 ∧ r1 = r2 := three hr1 ⟨fun q => by rw [ird.2.1]; omega, fun q => by rw [ird.2.1] at q; omega⟩ hr2 (fun a b => ⟨rel_refused rel ok1 ok2 a.1 b.1, a.2.trans b.2.symm⟩) (fun _ _ a b => ⟨rel_refused rel ok1 ok2 a.1 b.1, a.2.trans b.2.symm⟩) (fun _ l a b => ⟨rel_end rel a.1 a.2.2 b.1 b.2.2 (ird.jar hja.1 (by omega) hca.2 hnz.2 hmz.2 a1), a.2.1.symm.trans (ird.2.1.symm.trans b.2.1)⟩)
  refine lv_pop hx hb dL_law_277 rfl ?_
  refine lv_goto (tgt := 1230) hx hb dL_law_278 (by decide) ?_
  exact hend w2 H locs ok2 rel2 h

set_option maxHeartbeats 4000000 in
set_option maxRecDepth 100000 in
theorem law_type {p : Program} {l : Launch} {e : Env} {s : State} {m : MethodId} {below : List Frame} {meth : Method} {c : Code} {Q : State → Prop} {G : va_G} {cI cB cZ cO : ClassId} {ad : Nat → Nat} {w : Nat → va_E} {b L : Nat} {xs : Nat → Int32} {i : Int32} (X : Fx p m c code 4 s #[Value.ref b] "NoonShadeLaw" G (tyq cI cB cZ cO) (fun q => s.heap.size ≤ q)) (hD : WD (fun q => s.heap.size ≤ q) 74 ad) (hN : NS ad (fun q => s.heap.size ≤ q) s s.heap) (ok : OK cI cB cZ cO ad w) (rel : REL2 cI cB cZ ad w) (hX : va_X b L xs s s.heap) (hbl : b < s.heap.size) (hi0 : 0 ≤ i.toInt) (hi1 : i.toInt + 5 ≤ L) (hL : L ≤ 2560) {H : Heap} {locs : List Loc} {ls : Array Slot} (h : St G 74 ad (fun q => s.heap.size ≤ q) s.heap w H locs) (hl : lv_has ls 4 [(0, .ref b), (1, .ref (ad 0)), (2, .ref (ad 64)), (3, .int i)]) (hend : ∀ (w : Nat → va_E) (H : Heap) (locs : List Loc), OK cI cB cZ cO ad w → REL2 cI cB cZ ad w → St G 74 ad (fun q => s.heap.size ≤ q) s.heap w H locs → W p l e room_1 s m #[Value.ref b] below meth c H locs 74 2063 Q (F0 m 1230 ls [])) : W p l e room_1 s m #[Value.ref b] below meth c H locs 74 2063 Q (F0 m 281 ls []) := by
  have hx := X.1.1
  have hb := X.1.2.1
  have hbA : ¬ (fun q => s.heap.size ≤ q) b := Nat.not_le.mpr hbl
  obtain ⟨z1, ez1, tz1⟩ := x_add (x := i) (y := 1) (a := i.toInt) (b := 1) rfl rfl (by omega) (by omega)
  obtain ⟨a1, ea1⟩ : ∃ v : Int32, xs (z1).toNatClampNeg = v := ⟨_, rfl⟩
  obtain ⟨x0, y0, q0, q1, q2, f0⟩ := (show sN ad (w 0) from ok 0 (by decide))
  obtain ⟨tz, ta, tb, tc, td, f55, h55a, h55b, h55c, h55d⟩ := (show sT ad (w 55) from ok 55 (by decide))
  have e55 : pT (w 55) = .inr (5, [.int tz]) := by rw [f55]; rfl
  obtain ⟨bs, f56, p56⟩ := (show sA cB 150 anyA (w 56) from ok 56 (by decide))
  refine lv_aload_n hx hb dL_law_281 rfl (lv_at hl 1 rfl) ?_
  refine lv_aload_n hx hb dL_law_282 rfl (lv_at hl 0 rfl) ?_
  refine lv_iload_n hx hb dL_law_283 rfl (lv_at hl 3 rfl) ?_
  refine lv_iconst (v := 1) hx hb dL_law_284 (by decide) ?_
  refine o_iadd (z := z1) hx hb dL_law_285 ez1 ?_
  refine o_sld (v := a1) hx hb hX hbl hbA h.2 (in_of (by omega) (by omega)) ea1 dL_law_286 ?_
  refine n_Vi (na := 1) (As := [.int a1]) (rest := []) X hD hN h rfl (c_F_type2 l G cI cB cZ cO ad w tz ta tb tc td bs ok a1 f55 h55b f56 h55c h55d h55a) ⟨kv_743, kv_744, kv_745, kv_212, kv_746⟩ rfl ⟨by decide, by decide, by decide⟩ ⟨Nat.le_of_ble_eq_true rfl, Nat.le_of_ble_eq_true rfl⟩ ⟨Nat.le_of_ble_eq_true rfl, Nat.le_of_ble_eq_true rfl⟩ (by decide) f0 rfl rfl hl.1 rfl (Nat.le_of_ble_eq_true rfl) dL_law_287 (fun r1 w1 H locs hp1 h => ?_)
  obtain ⟨ok1, kx1, hr1⟩ := hp1
  refine lv_pop hx hb dL_law_290 rfl ?_
  obtain ⟨x1, y1, m0, m1, m2, m3, m4, m5, f64, h64a, h64b⟩ := (show sM ad (w1 64) from ok1 64 (by decide))
  have e64 : pM (w1 64) = .inr (7, [.int m1]) := by rw [f64]; rfl
  obtain ⟨ms, f71, p71⟩ := (show sA cI 150 anyA (w1 71) from ok1 71 (by decide))
  obtain ⟨f5, f65, p65⟩ := (show sA cI 177 alA (w1 65) from ok1 65 (by decide))
  refine lv_aload_n hx hb dL_law_291 rfl (lv_at hl 2 rfl) ?_
  refine lv_aload_n hx hb dL_law_292 rfl (lv_at hl 0 rfl) ?_
  refine lv_iload_n hx hb dL_law_293 rfl (lv_at hl 3 rfl) ?_
  refine lv_iconst (v := 1) hx hb dL_law_294 (by decide) ?_
  refine o_iadd (z := z1) hx hb dL_law_295 ez1 ?_
  refine o_sld (v := a1) hx hb hX hbl hbA h.2 (in_of (by omega) (by omega)) ea1 dL_law_296 ?_
  refine n_Vi (na := 1) (As := [.int a1]) (rest := []) X hD hN h rfl (c_MF_type2 l G cI cB cZ cO ad w1 x1 y1 m0 m1 m2 m3 m4 m5 ms ok1 a1 f64 h64a h64b f71) ⟨kv_747, kv_748, kv_749, kv_470, kv_750⟩ rfl ⟨by decide, by decide, by decide⟩ ⟨Nat.le_of_ble_eq_true rfl, Nat.le_of_ble_eq_true rfl⟩ ⟨Nat.le_of_ble_eq_true rfl, Nat.le_of_ble_eq_true rfl⟩ (by decide) f64 rfl rfl hl.1 rfl (Nat.le_of_ble_eq_true rfl) dL_law_297 (fun r2 w2 H locs hp2 h => ?_)
  obtain ⟨ok2, kx2, hr2⟩ := hp2
  obtain ⟨rel2, he⟩ := rel_type2 rel ok1 ok2 e55 f56 e64 f71 kx1 hr1 kx2 hr2
  refine lv_pop hx hb dL_law_300 rfl ?_
  refine lv_goto (tgt := 1230) hx hb dL_law_301 (by decide) ?_
  exact hend w2 H locs ok2 rel2 h

set_option maxHeartbeats 4000000 in
set_option maxRecDepth 100000 in
theorem law_clear {p : Program} {l : Launch} {e : Env} {s : State} {m : MethodId} {below : List Frame} {meth : Method} {c : Code} {Q : State → Prop} {G : va_G} {cI cB cZ cO : ClassId} {ad : Nat → Nat} {w : Nat → va_E} {b L : Nat} {xs : Nat → Int32} {i : Int32} (X : Fx p m c code 4 s #[Value.ref b] "NoonShadeLaw" G (tyq cI cB cZ cO) (fun q => s.heap.size ≤ q)) (hD : WD (fun q => s.heap.size ≤ q) 74 ad) (hN : NS ad (fun q => s.heap.size ≤ q) s s.heap) (ok : OK cI cB cZ cO ad w) (rel : REL2 cI cB cZ ad w) (hX : va_X b L xs s s.heap) (hbl : b < s.heap.size) (hi0 : 0 ≤ i.toInt) (hi1 : i.toInt + 5 ≤ L) (hL : L ≤ 2560) {H : Heap} {locs : List Loc} {ls : Array Slot} (h : St G 74 ad (fun q => s.heap.size ≤ q) s.heap w H locs) (hl : lv_has ls 4 [(0, .ref b), (1, .ref (ad 0)), (2, .ref (ad 64)), (3, .int i)]) (hend : ∀ (w : Nat → va_E) (H : Heap) (locs : List Loc), OK cI cB cZ cO ad w → REL2 cI cB cZ ad w → St G 74 ad (fun q => s.heap.size ≤ q) s.heap w H locs → W p l e room_1 s m #[Value.ref b] below meth c H locs 74 2063 Q (F0 m 1230 ls [])) : W p l e room_1 s m #[Value.ref b] below meth c H locs 74 2063 Q (F0 m 304 ls []) := by
  have hx := X.1.1
  have hb := X.1.2.1
  have hbA : ¬ (fun q => s.heap.size ≤ q) b := Nat.not_le.mpr hbl
  obtain ⟨x0, y0, q0, q1, q2, f0⟩ := (show sN ad (w 0) from ok 0 (by decide))
  obtain ⟨tz, ta, tb, tc, td, f55, h55a, h55b, h55c, h55d⟩ := (show sT ad (w 55) from ok 55 (by decide))
  have e55 : pT (w 55) = .inr (5, [.int tz]) := by rw [f55]; rfl
  obtain ⟨bs, f56, p56⟩ := (show sA cB 150 anyA (w 56) from ok 56 (by decide))
  refine lv_aload_n hx hb dL_law_304 rfl (lv_at hl 1 rfl) ?_
  refine n_Vi (na := 0) (As := []) (rest := []) X hD hN h rfl (c_F_clear2 l G cI cB cZ cO ad w tz ta tb tc td ok f55 h55b h55c h55d h55a) ⟨kv_751, kv_752, kv_753, kv_212, kv_754⟩ rfl ⟨by decide, by decide, by decide⟩ ⟨Nat.le_of_ble_eq_true rfl, Nat.le_of_ble_eq_true rfl⟩ ⟨Nat.le_of_ble_eq_true rfl, Nat.le_of_ble_eq_true rfl⟩ (by decide) f0 rfl rfl hl.1 rfl (Nat.le_of_ble_eq_true rfl) dL_law_305 (fun r1 w1 H locs hp1 h => ?_)
  obtain ⟨ok1, kx1, hr1⟩ := hp1
  refine lv_pop hx hb dL_law_308 rfl ?_
  obtain ⟨x1, y1, m0, m1, m2, m3, m4, m5, f64, h64a, h64b⟩ := (show sM ad (w1 64) from ok1 64 (by decide))
  have e64 : pM (w1 64) = .inr (7, [.int m1]) := by rw [f64]; rfl
  obtain ⟨ms, f71, p71⟩ := (show sA cI 150 anyA (w1 71) from ok1 71 (by decide))
  obtain ⟨f5, f65, p65⟩ := (show sA cI 177 alA (w1 65) from ok1 65 (by decide))
  refine lv_aload_n hx hb dL_law_309 rfl (lv_at hl 2 rfl) ?_
  refine n_Vi (na := 0) (As := []) (rest := []) X hD hN h rfl (c_MF_clear2 l G cI cB cZ cO ad w1 x1 y1 m0 m1 m2 m3 m4 m5 ok1 f64 h64a h64b) ⟨kv_755, kv_756, kv_757, kv_470, kv_758⟩ rfl ⟨by decide, by decide, by decide⟩ ⟨Nat.le_of_ble_eq_true rfl, Nat.le_of_ble_eq_true rfl⟩ ⟨Nat.le_of_ble_eq_true rfl, Nat.le_of_ble_eq_true rfl⟩ (by decide) f64 rfl rfl hl.1 rfl (Nat.le_of_ble_eq_true rfl) dL_law_310 (fun r2 w2 H locs hp2 h => ?_)
  obtain ⟨ok2, kx2, hr2⟩ := hp2
  obtain ⟨rel2, he⟩ := rel_clear2 rel e55 e64 kx1 hr1 kx2 hr2
  refine lv_pop hx hb dL_law_313 rfl ?_
  refine lv_goto (tgt := 1230) hx hb dL_law_314 (by decide) ?_
  exact hend w2 H locs ok2 rel2 h

set_option maxHeartbeats 4000000 in
set_option maxRecDepth 100000 in
theorem law_read {p : Program} {l : Launch} {e : Env} {s : State} {m : MethodId} {below : List Frame} {meth : Method} {c : Code} {Q : State → Prop} {G : va_G} {cI cB cZ cO : ClassId} {ad : Nat → Nat} {w : Nat → va_E} {b L : Nat} {xs : Nat → Int32} {i : Int32} (X : Fx p m c code 4 s #[Value.ref b] "NoonShadeLaw" G (tyq cI cB cZ cO) (fun q => s.heap.size ≤ q)) (hD : WD (fun q => s.heap.size ≤ q) 74 ad) (hN : NS ad (fun q => s.heap.size ≤ q) s s.heap) (ok : OK cI cB cZ cO ad w) (rel : REL2 cI cB cZ ad w) (hX : va_X b L xs s s.heap) (hbl : b < s.heap.size) (hi0 : 0 ≤ i.toInt) (hi1 : i.toInt + 5 ≤ L) (hL : L ≤ 2560) {H : Heap} {locs : List Loc} {ls : Array Slot} (h : St G 74 ad (fun q => s.heap.size ≤ q) s.heap w H locs) (hl : lv_has ls 4 [(0, .ref b), (1, .ref (ad 0)), (2, .ref (ad 64)), (3, .int i)]) (hend : ∀ (w : Nat → va_E) (H : Heap) (locs : List Loc), OK cI cB cZ cO ad w → REL2 cI cB cZ ad w → St G 74 ad (fun q => s.heap.size ≤ q) s.heap w H locs → W p l e room_1 s m #[Value.ref b] below meth c H locs 74 2063 Q (F0 m 1230 ls [])) : W p l e room_1 s m #[Value.ref b] below meth c H locs 74 2063 Q (F0 m 317 ls []) := by
  have hx := X.1.1
  have hb := X.1.2.1
  have hbA : ¬ (fun q => s.heap.size ≤ q) b := Nat.not_le.mpr hbl
  obtain ⟨x0, y0, q0, q1, q2, f0⟩ := (show sN ad (w 0) from ok 0 (by decide))
  obtain ⟨tz, ta, tb, tc, td, f55, h55a, h55b, h55c, h55d⟩ := (show sT ad (w 55) from ok 55 (by decide))
  have e55 : pT (w 55) = .inr (5, [.int tz]) := by rw [f55]; rfl
  obtain ⟨bs, f56, p56⟩ := (show sA cB 150 anyA (w 56) from ok 56 (by decide))
  refine lv_aload_n hx hb dL_law_317 rfl (lv_at hl 1 rfl) ?_
  refine n_Vi (na := 0) (As := []) (rest := []) X hD hN h rfl (c_F_read l G cI cB cZ cO ad w tz ta tb tc td bs ok f55 h55b f56 h55c h55d h55a) ⟨kv_759, kv_760, kv_761, kv_212, kv_762⟩ rfl ⟨by decide, by decide, by decide⟩ ⟨Nat.le_of_ble_eq_true rfl, Nat.le_of_ble_eq_true rfl⟩ ⟨Nat.le_of_ble_eq_true rfl, Nat.le_of_ble_eq_true rfl⟩ (by decide) f0 rfl rfl hl.1 rfl (Nat.le_of_ble_eq_true rfl) dL_law_318 (fun r1 w1 H locs hp1 h => ?_)
  obtain ⟨ok1, kx1, hr1⟩ := hp1
  refine lv_pop hx hb dL_law_321 rfl ?_
  obtain ⟨x1, y1, m0, m1, m2, m3, m4, m5, f64, h64a, h64b⟩ := (show sM ad (w1 64) from ok1 64 (by decide))
  have e64 : pM (w1 64) = .inr (7, [.int m1]) := by rw [f64]; rfl
  obtain ⟨ms, f71, p71⟩ := (show sA cI 150 anyA (w1 71) from ok1 71 (by decide))
  obtain ⟨f5, f65, p65⟩ := (show sA cI 177 alA (w1 65) from ok1 65 (by decide))
  refine lv_aload_n hx hb dL_law_322 rfl (lv_at hl 2 rfl) ?_
  refine n_Vi (na := 0) (As := []) (rest := []) X hD hN h rfl (c_MF_read l G cI cB cZ cO ad w1 x1 y1 m0 m1 m2 m3 m4 m5 ms f5 ok1 f64 h64a h64b f71 f65 p65) ⟨kv_763, kv_764, kv_765, kv_470, kv_766⟩ rfl ⟨by decide, by decide, by decide⟩ ⟨Nat.le_of_ble_eq_true rfl, Nat.le_of_ble_eq_true rfl⟩ ⟨Nat.le_of_ble_eq_true rfl, Nat.le_of_ble_eq_true rfl⟩ (by decide) f64 rfl rfl hl.1 rfl (Nat.le_of_ble_eq_true rfl) dL_law_323 (fun r2 w2 H locs hp2 h => ?_)
  obtain ⟨ok2, kx2, hr2⟩ := hp2
  have hz9 : tz = m1 := rel.1.1.z e55 (by rw [← kx1.c64]; exact e64)
  have hb9 : bs = ms := rel.1.2.eq f56 (by have c9 : w1 71 = w 71 := kx1 71; rw [← c9]; exact f71)
  rw [hz9, hb9] at hr1
  obtain ⟨rel2, he⟩ := rel_read2 rel (run_23 _ _ _ _ (Z23.beg 0)) hr1 ok1 kx2 hr2.1 hr2.2
  refine lv_pop hx hb dL_law_326 rfl ?_
  refine lv_goto (tgt := 1230) hx hb dL_law_327 (by decide) ?_
  exact hend w2 H locs ok2 rel2 h

set_option maxHeartbeats 4000000 in
set_option maxRecDepth 100000 in
theorem law_ladle {p : Program} {l : Launch} {e : Env} {s : State} {m : MethodId} {below : List Frame} {meth : Method} {c : Code} {Q : State → Prop} {G : va_G} {cI cB cZ cO : ClassId} {ad : Nat → Nat} {w : Nat → va_E} {b L : Nat} {xs : Nat → Int32} {i : Int32} (X : Fx p m c code 4 s #[Value.ref b] "NoonShadeLaw" G (tyq cI cB cZ cO) (fun q => s.heap.size ≤ q)) (hD : WD (fun q => s.heap.size ≤ q) 74 ad) (hN : NS ad (fun q => s.heap.size ≤ q) s s.heap) (ok : OK cI cB cZ cO ad w) (rel : REL2 cI cB cZ ad w) (hX : va_X b L xs s s.heap) (hbl : b < s.heap.size) (hi0 : 0 ≤ i.toInt) (hi1 : i.toInt + 5 ≤ L) (hL : L ≤ 2560) {H : Heap} {locs : List Loc} {ls : Array Slot} (h : St G 74 ad (fun q => s.heap.size ≤ q) s.heap w H locs) (hl : lv_has ls 4 [(0, .ref b), (1, .ref (ad 0)), (2, .ref (ad 64)), (3, .int i)]) (hend : ∀ (w : Nat → va_E) (H : Heap) (locs : List Loc), OK cI cB cZ cO ad w → REL2 cI cB cZ ad w → St G 74 ad (fun q => s.heap.size ≤ q) s.heap w H locs → W p l e room_1 s m #[Value.ref b] below meth c H locs 74 2063 Q (F0 m 1230 ls [])) : W p l e room_1 s m #[Value.ref b] below meth c H locs 74 2063 Q (F0 m 330 ls []) := by
  have hx := X.1.1
  have hb := X.1.2.1
  have hbA : ¬ (fun q => s.heap.size ≤ q) b := Nat.not_le.mpr hbl
  obtain ⟨z1, ez1, tz1⟩ := x_add (x := i) (y := 1) (a := i.toInt) (b := 1) rfl rfl (by omega) (by omega)
  obtain ⟨a1, ea1⟩ : ∃ v : Int32, xs (z1).toNatClampNeg = v := ⟨_, rfl⟩
  obtain ⟨z2, ez2, tz2⟩ := x_add (x := i) (y := 2) (a := i.toInt) (b := 2) rfl rfl (by omega) (by omega)
  obtain ⟨a2, ea2⟩ : ∃ v : Int32, xs (z2).toNatClampNeg = v := ⟨_, rfl⟩
  obtain ⟨x0, y0, q0, q1, q2, f0⟩ := (show sN ad (w 0) from ok 0 (by decide))
  refine lv_aload_n hx hb dL_law_330 rfl (lv_at hl 1 rfl) ?_
  refine lv_aload_n hx hb dL_law_331 rfl (lv_at hl 0 rfl) ?_
  refine lv_iload_n hx hb dL_law_332 rfl (lv_at hl 3 rfl) ?_
  refine lv_iconst (v := 1) hx hb dL_law_333 (by decide) ?_
  refine o_iadd (z := z1) hx hb dL_law_334 ez1 ?_
  refine o_sld (v := a1) hx hb hX hbl hbA h.2 (in_of (by omega) (by omega)) ea1 dL_law_335 ?_
  refine lv_aload_n hx hb dL_law_336 rfl (lv_at hl 0 rfl) ?_
  refine lv_iload_n hx hb dL_law_337 rfl (lv_at hl 3 rfl) ?_
  refine lv_iconst (v := 2) hx hb dL_law_338 (by decide) ?_
  refine o_iadd (z := z2) hx hb dL_law_339 ez2 ?_
  refine o_sld (v := a2) hx hb hX hbl hbA h.2 (in_of (by omega) (by omega)) ea2 dL_law_340 ?_
  refine n_Vi (na := 2) (As := [.int a1, .int a2]) (rest := []) X hD hN h rfl (c_X_ladle l G cI cB cZ cO ad w ok a1 a2) ⟨kv_767, kv_768, kv_769, kv_212, kv_770⟩ rfl ⟨by decide, by decide, by decide⟩ ⟨Nat.le_of_ble_eq_true rfl, Nat.le_of_ble_eq_true rfl⟩ ⟨Nat.le_of_ble_eq_true rfl, Nat.le_of_ble_eq_true rfl⟩ (by decide) f0 rfl rfl hl.1 rfl (Nat.le_of_ble_eq_true rfl) dL_law_341 (fun r1 w1 H locs hp1 h => ?_)
  obtain ⟨ok1, kx1, hr1⟩ := hp1
  refine lv_pop hx hb dL_law_344 rfl ?_
  have rel1 : REL2 cI cB cZ ad w1 := rel.kx kx1
  obtain ⟨x1, y1, m0, m1, m2, m3, m4, m5, f64, h64a, h64b⟩ := (show sM ad (w1 64) from ok1 64 (by decide))
  refine lv_aload_n hx hb dL_law_345 rfl (lv_at hl 2 rfl) ?_
  refine lv_aload_n hx hb dL_law_346 rfl (lv_at hl 0 rfl) ?_
  refine lv_iload_n hx hb dL_law_347 rfl (lv_at hl 3 rfl) ?_
  refine lv_iconst (v := 1) hx hb dL_law_348 (by decide) ?_
  refine o_iadd (z := z1) hx hb dL_law_349 ez1 ?_
  refine o_sld (v := a1) hx hb hX hbl hbA h.2 (in_of (by omega) (by omega)) ea1 dL_law_350 ?_
  refine lv_aload_n hx hb dL_law_351 rfl (lv_at hl 0 rfl) ?_
  refine lv_iload_n hx hb dL_law_352 rfl (lv_at hl 3 rfl) ?_
  refine lv_iconst (v := 2) hx hb dL_law_353 (by decide) ?_
  refine o_iadd (z := z2) hx hb dL_law_354 ez2 ?_
  refine o_sld (v := a2) hx hb hX hbl hbA h.2 (in_of (by omega) (by omega)) ea2 dL_law_355 ?_
  refine n_Vi (na := 2) (As := [.int a1, .int a2]) (rest := []) X hD hN h rfl (c_M_ladle_ l G cI cB cZ cO ad w1 ok1 a1 a2) ⟨kv_771, kv_772, kv_773, kv_470, kv_774⟩ rfl ⟨by decide, by decide, by decide⟩ ⟨Nat.le_of_ble_eq_true rfl, Nat.le_of_ble_eq_true rfl⟩ ⟨Nat.le_of_ble_eq_true rfl, Nat.le_of_ble_eq_true rfl⟩ (by decide) f64 rfl rfl hl.1 rfl (Nat.le_of_ble_eq_true rfl) dL_law_356 (fun r2 w2 H locs hp2 h => ?_)
  obtain ⟨ok2, kx2, hr2⟩ := hp2
  have rel2 : REL2 cI cB cZ ad w2 := rel1.km ok1 ok2 kx2
  refine lv_pop hx hb dL_law_359 rfl ?_
  refine lv_goto (tgt := 1230) hx hb dL_law_360 (by decide) ?_
  exact hend w2 H locs ok2 rel2 h

set_option maxHeartbeats 4000000 in
set_option maxRecDepth 100000 in
theorem law_pours {p : Program} {l : Launch} {e : Env} {s : State} {m : MethodId} {below : List Frame} {meth : Method} {c : Code} {Q : State → Prop} {G : va_G} {cI cB cZ cO : ClassId} {ad : Nat → Nat} {w : Nat → va_E} {b L : Nat} {xs : Nat → Int32} {i : Int32} (X : Fx p m c code 4 s #[Value.ref b] "NoonShadeLaw" G (tyq cI cB cZ cO) (fun q => s.heap.size ≤ q)) (hD : WD (fun q => s.heap.size ≤ q) 74 ad) (hN : NS ad (fun q => s.heap.size ≤ q) s s.heap) (ok : OK cI cB cZ cO ad w) (rel : REL2 cI cB cZ ad w) (hX : va_X b L xs s s.heap) (hbl : b < s.heap.size) (hi0 : 0 ≤ i.toInt) (hi1 : i.toInt + 5 ≤ L) (hL : L ≤ 2560) {H : Heap} {locs : List Loc} {ls : Array Slot} (h : St G 74 ad (fun q => s.heap.size ≤ q) s.heap w H locs) (hl : lv_has ls 4 [(0, .ref b), (1, .ref (ad 0)), (2, .ref (ad 64)), (3, .int i)]) (hend : ∀ (w : Nat → va_E) (H : Heap) (locs : List Loc), OK cI cB cZ cO ad w → REL2 cI cB cZ ad w → St G 74 ad (fun q => s.heap.size ≤ q) s.heap w H locs → W p l e room_1 s m #[Value.ref b] below meth c H locs 74 2063 Q (F0 m 1230 ls [])) : W p l e room_1 s m #[Value.ref b] below meth c H locs 74 2063 Q (F0 m 363 ls []) := by
  have hx := X.1.1
  have hb := X.1.2.1
  have hbA : ¬ (fun q => s.heap.size ≤ q) b := Nat.not_le.mpr hbl
  obtain ⟨z1, ez1, tz1⟩ := x_add (x := i) (y := 1) (a := i.toInt) (b := 1) rfl rfl (by omega) (by omega)
  obtain ⟨a1, ea1⟩ : ∃ v : Int32, xs (z1).toNatClampNeg = v := ⟨_, rfl⟩
  obtain ⟨z2, ez2, tz2⟩ := x_add (x := i) (y := 2) (a := i.toInt) (b := 2) rfl rfl (by omega) (by omega)
  obtain ⟨a2, ea2⟩ : ∃ v : Int32, xs (z2).toNatClampNeg = v := ⟨_, rfl⟩
  obtain ⟨x0, y0, q0, q1, q2, f0⟩ := (show sN ad (w 0) from ok 0 (by decide))
  refine lv_aload_n hx hb dL_law_363 rfl (lv_at hl 1 rfl) ?_
  refine lv_aload_n hx hb dL_law_364 rfl (lv_at hl 0 rfl) ?_
  refine lv_iload_n hx hb dL_law_365 rfl (lv_at hl 3 rfl) ?_
  refine lv_iconst (v := 1) hx hb dL_law_366 (by decide) ?_
  refine o_iadd (z := z1) hx hb dL_law_367 ez1 ?_
  refine o_sld (v := a1) hx hb hX hbl hbA h.2 (in_of (by omega) (by omega)) ea1 dL_law_368 ?_
  refine lv_aload_n hx hb dL_law_369 rfl (lv_at hl 0 rfl) ?_
  refine lv_iload_n hx hb dL_law_370 rfl (lv_at hl 3 rfl) ?_
  refine lv_iconst (v := 2) hx hb dL_law_371 (by decide) ?_
  refine o_iadd (z := z2) hx hb dL_law_372 ez2 ?_
  refine o_sld (v := a2) hx hb hX hbl hbA h.2 (in_of (by omega) (by omega)) ea2 dL_law_373 ?_
  refine n_Vi (na := 2) (As := [.int a1, .int a2]) (rest := []) X hD hN h rfl (c_X_pours l G cI cB cZ cO ad w ok a1 a2) ⟨kv_775, kv_776, kv_777, kv_212, kv_778⟩ rfl ⟨by decide, by decide, by decide⟩ ⟨Nat.le_of_ble_eq_true rfl, Nat.le_of_ble_eq_true rfl⟩ ⟨Nat.le_of_ble_eq_true rfl, Nat.le_of_ble_eq_true rfl⟩ (by decide) f0 rfl rfl hl.1 rfl (Nat.le_of_ble_eq_true rfl) dL_law_374 (fun r1 w1 H locs hp1 h => ?_)
  obtain ⟨ok1, kx1, hr1⟩ := hp1
  refine lv_pop hx hb dL_law_377 rfl ?_
  have rel1 : REL2 cI cB cZ ad w1 := rel.kx kx1
  obtain ⟨x1, y1, m0, m1, m2, m3, m4, m5, f64, h64a, h64b⟩ := (show sM ad (w1 64) from ok1 64 (by decide))
  refine lv_aload_n hx hb dL_law_378 rfl (lv_at hl 2 rfl) ?_
  refine lv_aload_n hx hb dL_law_379 rfl (lv_at hl 0 rfl) ?_
  refine lv_iload_n hx hb dL_law_380 rfl (lv_at hl 3 rfl) ?_
  refine lv_iconst (v := 1) hx hb dL_law_381 (by decide) ?_
  refine o_iadd (z := z1) hx hb dL_law_382 ez1 ?_
  refine o_sld (v := a1) hx hb hX hbl hbA h.2 (in_of (by omega) (by omega)) ea1 dL_law_383 ?_
  refine lv_aload_n hx hb dL_law_384 rfl (lv_at hl 0 rfl) ?_
  refine lv_iload_n hx hb dL_law_385 rfl (lv_at hl 3 rfl) ?_
  refine lv_iconst (v := 2) hx hb dL_law_386 (by decide) ?_
  refine o_iadd (z := z2) hx hb dL_law_387 ez2 ?_
  refine o_sld (v := a2) hx hb hX hbl hbA h.2 (in_of (by omega) (by omega)) ea2 dL_law_388 ?_
  refine n_Vi (na := 2) (As := [.int a1, .int a2]) (rest := []) X hD hN h rfl (c_M_pours_ l G cI cB cZ cO ad w1 ok1 a1 a2) ⟨kv_779, kv_780, kv_781, kv_470, kv_782⟩ rfl ⟨by decide, by decide, by decide⟩ ⟨Nat.le_of_ble_eq_true rfl, Nat.le_of_ble_eq_true rfl⟩ ⟨Nat.le_of_ble_eq_true rfl, Nat.le_of_ble_eq_true rfl⟩ (by decide) f64 rfl rfl hl.1 rfl (Nat.le_of_ble_eq_true rfl) dL_law_389 (fun r2 w2 H locs hp2 h => ?_)
  obtain ⟨ok2, kx2, hr2⟩ := hp2
  have rel2 : REL2 cI cB cZ ad w2 := rel1.km ok1 ok2 kx2
  refine lv_pop hx hb dL_law_392 rfl ?_
  refine lv_goto (tgt := 1230) hx hb dL_law_393 (by decide) ?_
  exact hend w2 H locs ok2 rel2 h

set_option maxHeartbeats 4000000 in
set_option maxRecDepth 100000 in
theorem law_sells {p : Program} {l : Launch} {e : Env} {s : State} {m : MethodId} {below : List Frame} {meth : Method} {c : Code} {Q : State → Prop} {G : va_G} {cI cB cZ cO : ClassId} {ad : Nat → Nat} {w : Nat → va_E} {b L : Nat} {xs : Nat → Int32} {i : Int32} (X : Fx p m c code 4 s #[Value.ref b] "NoonShadeLaw" G (tyq cI cB cZ cO) (fun q => s.heap.size ≤ q)) (hD : WD (fun q => s.heap.size ≤ q) 74 ad) (hN : NS ad (fun q => s.heap.size ≤ q) s s.heap) (ok : OK cI cB cZ cO ad w) (rel : REL2 cI cB cZ ad w) (hX : va_X b L xs s s.heap) (hbl : b < s.heap.size) (hi0 : 0 ≤ i.toInt) (hi1 : i.toInt + 5 ≤ L) (hL : L ≤ 2560) {H : Heap} {locs : List Loc} {ls : Array Slot} (h : St G 74 ad (fun q => s.heap.size ≤ q) s.heap w H locs) (hl : lv_has ls 4 [(0, .ref b), (1, .ref (ad 0)), (2, .ref (ad 64)), (3, .int i)]) (hend : ∀ (w : Nat → va_E) (H : Heap) (locs : List Loc), OK cI cB cZ cO ad w → REL2 cI cB cZ ad w → St G 74 ad (fun q => s.heap.size ≤ q) s.heap w H locs → W p l e room_1 s m #[Value.ref b] below meth c H locs 74 2063 Q (F0 m 1230 ls [])) : W p l e room_1 s m #[Value.ref b] below meth c H locs 74 2063 Q (F0 m 396 ls []) := by
  have hx := X.1.1
  have hb := X.1.2.1
  have hbA : ¬ (fun q => s.heap.size ≤ q) b := Nat.not_le.mpr hbl
  obtain ⟨z1, ez1, tz1⟩ := x_add (x := i) (y := 1) (a := i.toInt) (b := 1) rfl rfl (by omega) (by omega)
  obtain ⟨a1, ea1⟩ : ∃ v : Int32, xs (z1).toNatClampNeg = v := ⟨_, rfl⟩
  obtain ⟨x0, y0, q0, q1, q2, f0⟩ := (show sN ad (w 0) from ok 0 (by decide))
  refine lv_aload_n hx hb dL_law_396 rfl (lv_at hl 1 rfl) ?_
  refine lv_aload_n hx hb dL_law_397 rfl (lv_at hl 0 rfl) ?_
  refine lv_iload_n hx hb dL_law_398 rfl (lv_at hl 3 rfl) ?_
  refine lv_iconst (v := 1) hx hb dL_law_399 (by decide) ?_
  refine o_iadd (z := z1) hx hb dL_law_400 ez1 ?_
  refine o_sld (v := a1) hx hb hX hbl hbA h.2 (in_of (by omega) (by omega)) ea1 dL_law_401 ?_
  refine n_Vi (na := 1) (As := [.int a1]) (rest := []) X hD hN h rfl (c_X_sells l G cI cB cZ cO ad w ok a1) ⟨kv_783, kv_784, kv_785, kv_212, kv_786⟩ rfl ⟨by decide, by decide, by decide⟩ ⟨Nat.le_of_ble_eq_true rfl, Nat.le_of_ble_eq_true rfl⟩ ⟨Nat.le_of_ble_eq_true rfl, Nat.le_of_ble_eq_true rfl⟩ (by decide) f0 rfl rfl hl.1 rfl (Nat.le_of_ble_eq_true rfl) dL_law_402 (fun r1 w1 H locs hp1 h => ?_)
  obtain ⟨ok1, kx1, hr1⟩ := hp1
  refine lv_pop hx hb dL_law_405 rfl ?_
  have rel1 : REL2 cI cB cZ ad w1 := rel.kx kx1
  obtain ⟨x1, y1, m0, m1, m2, m3, m4, m5, f64, h64a, h64b⟩ := (show sM ad (w1 64) from ok1 64 (by decide))
  refine lv_aload_n hx hb dL_law_406 rfl (lv_at hl 2 rfl) ?_
  refine lv_aload_n hx hb dL_law_407 rfl (lv_at hl 0 rfl) ?_
  refine lv_iload_n hx hb dL_law_408 rfl (lv_at hl 3 rfl) ?_
  refine lv_iconst (v := 1) hx hb dL_law_409 (by decide) ?_
  refine o_iadd (z := z1) hx hb dL_law_410 ez1 ?_
  refine o_sld (v := a1) hx hb hX hbl hbA h.2 (in_of (by omega) (by omega)) ea1 dL_law_411 ?_
  refine n_Vi (na := 1) (As := [.int a1]) (rest := []) X hD hN h rfl (c_M_sells_ l G cI cB cZ cO ad w1 ok1 a1) ⟨kv_787, kv_788, kv_789, kv_470, kv_790⟩ rfl ⟨by decide, by decide, by decide⟩ ⟨Nat.le_of_ble_eq_true rfl, Nat.le_of_ble_eq_true rfl⟩ ⟨Nat.le_of_ble_eq_true rfl, Nat.le_of_ble_eq_true rfl⟩ (by decide) f64 rfl rfl hl.1 rfl (Nat.le_of_ble_eq_true rfl) dL_law_412 (fun r2 w2 H locs hp2 h => ?_)
  obtain ⟨ok2, kx2, hr2⟩ := hp2
  have rel2 : REL2 cI cB cZ ad w2 := rel1.km ok1 ok2 kx2
  refine lv_pop hx hb dL_law_415 rfl ?_
  refine lv_goto (tgt := 1230) hx hb dL_law_416 (by decide) ?_
  exact hend w2 H locs ok2 rel2 h

set_option maxHeartbeats 4000000 in
set_option maxRecDepth 100000 in
theorem law_hours {p : Program} {l : Launch} {e : Env} {s : State} {m : MethodId} {below : List Frame} {meth : Method} {c : Code} {Q : State → Prop} {G : va_G} {cI cB cZ cO : ClassId} {ad : Nat → Nat} {w : Nat → va_E} {b L : Nat} {xs : Nat → Int32} {i : Int32} (X : Fx p m c code 4 s #[Value.ref b] "NoonShadeLaw" G (tyq cI cB cZ cO) (fun q => s.heap.size ≤ q)) (hD : WD (fun q => s.heap.size ≤ q) 74 ad) (hN : NS ad (fun q => s.heap.size ≤ q) s s.heap) (ok : OK cI cB cZ cO ad w) (rel : REL2 cI cB cZ ad w) (hX : va_X b L xs s s.heap) (hbl : b < s.heap.size) (hi0 : 0 ≤ i.toInt) (hi1 : i.toInt + 5 ≤ L) (hL : L ≤ 2560) {H : Heap} {locs : List Loc} {ls : Array Slot} (h : St G 74 ad (fun q => s.heap.size ≤ q) s.heap w H locs) (hl : lv_has ls 4 [(0, .ref b), (1, .ref (ad 0)), (2, .ref (ad 64)), (3, .int i)]) (hend : ∀ (w : Nat → va_E) (H : Heap) (locs : List Loc), OK cI cB cZ cO ad w → REL2 cI cB cZ ad w → St G 74 ad (fun q => s.heap.size ≤ q) s.heap w H locs → W p l e room_1 s m #[Value.ref b] below meth c H locs 74 2063 Q (F0 m 1230 ls [])) : W p l e room_1 s m #[Value.ref b] below meth c H locs 74 2063 Q (F0 m 419 ls []) := by
  have hx := X.1.1
  have hb := X.1.2.1
  have hbA : ¬ (fun q => s.heap.size ≤ q) b := Nat.not_le.mpr hbl
  obtain ⟨z1, ez1, tz1⟩ := x_add (x := i) (y := 1) (a := i.toInt) (b := 1) rfl rfl (by omega) (by omega)
  obtain ⟨a1, ea1⟩ : ∃ v : Int32, xs (z1).toNatClampNeg = v := ⟨_, rfl⟩
  obtain ⟨x0, y0, q0, q1, q2, f0⟩ := (show sN ad (w 0) from ok 0 (by decide))
  refine lv_aload_n hx hb dL_law_419 rfl (lv_at hl 1 rfl) ?_
  refine lv_aload_n hx hb dL_law_420 rfl (lv_at hl 0 rfl) ?_
  refine lv_iload_n hx hb dL_law_421 rfl (lv_at hl 3 rfl) ?_
  refine lv_iconst (v := 1) hx hb dL_law_422 (by decide) ?_
  refine o_iadd (z := z1) hx hb dL_law_423 ez1 ?_
  refine o_sld (v := a1) hx hb hX hbl hbA h.2 (in_of (by omega) (by omega)) ea1 dL_law_424 ?_
  refine n_Vi (na := 1) (As := [.int a1]) (rest := []) X hD hN h rfl (c_X_hours l G cI cB cZ cO ad w ok a1) ⟨kv_791, kv_792, kv_793, kv_212, kv_794⟩ rfl ⟨by decide, by decide, by decide⟩ ⟨Nat.le_of_ble_eq_true rfl, Nat.le_of_ble_eq_true rfl⟩ ⟨Nat.le_of_ble_eq_true rfl, Nat.le_of_ble_eq_true rfl⟩ (by decide) f0 rfl rfl hl.1 rfl (Nat.le_of_ble_eq_true rfl) dL_law_425 (fun r1 w1 H locs hp1 h => ?_)
  obtain ⟨ok1, kx1, hr1⟩ := hp1
  refine lv_pop hx hb dL_law_428 rfl ?_
  have rel1 : REL2 cI cB cZ ad w1 := rel.kx kx1
  obtain ⟨x1, y1, m0, m1, m2, m3, m4, m5, f64, h64a, h64b⟩ := (show sM ad (w1 64) from ok1 64 (by decide))
  refine lv_aload_n hx hb dL_law_429 rfl (lv_at hl 2 rfl) ?_
  refine lv_aload_n hx hb dL_law_430 rfl (lv_at hl 0 rfl) ?_
  refine lv_iload_n hx hb dL_law_431 rfl (lv_at hl 3 rfl) ?_
  refine lv_iconst (v := 1) hx hb dL_law_432 (by decide) ?_
  refine o_iadd (z := z1) hx hb dL_law_433 ez1 ?_
  refine o_sld (v := a1) hx hb hX hbl hbA h.2 (in_of (by omega) (by omega)) ea1 dL_law_434 ?_
  refine n_Vi (na := 1) (As := [.int a1]) (rest := []) X hD hN h rfl (c_M_hours_ l G cI cB cZ cO ad w1 ok1 a1) ⟨kv_795, kv_796, kv_797, kv_470, kv_798⟩ rfl ⟨by decide, by decide, by decide⟩ ⟨Nat.le_of_ble_eq_true rfl, Nat.le_of_ble_eq_true rfl⟩ ⟨Nat.le_of_ble_eq_true rfl, Nat.le_of_ble_eq_true rfl⟩ (by decide) f64 rfl rfl hl.1 rfl (Nat.le_of_ble_eq_true rfl) dL_law_435 (fun r2 w2 H locs hp2 h => ?_)
  obtain ⟨ok2, kx2, hr2⟩ := hp2
  have rel2 : REL2 cI cB cZ ad w2 := rel1.km ok1 ok2 kx2
  refine lv_pop hx hb dL_law_438 rfl ?_
  refine lv_goto (tgt := 1230) hx hb dL_law_439 (by decide) ?_
  exact hend w2 H locs ok2 rel2 h

set_option maxHeartbeats 4000000 in
set_option maxRecDepth 100000 in
theorem law_undo {p : Program} {l : Launch} {e : Env} {s : State} {m : MethodId} {below : List Frame} {meth : Method} {c : Code} {Q : State → Prop} {G : va_G} {cI cB cZ cO : ClassId} {ad : Nat → Nat} {w : Nat → va_E} {b L : Nat} {xs : Nat → Int32} {i : Int32} (X : Fx p m c code 4 s #[Value.ref b] "NoonShadeLaw" G (tyq cI cB cZ cO) (fun q => s.heap.size ≤ q)) (hD : WD (fun q => s.heap.size ≤ q) 74 ad) (hN : NS ad (fun q => s.heap.size ≤ q) s s.heap) (ok : OK cI cB cZ cO ad w) (rel : REL2 cI cB cZ ad w) (hX : va_X b L xs s s.heap) (hbl : b < s.heap.size) (hi0 : 0 ≤ i.toInt) (hi1 : i.toInt + 5 ≤ L) (hL : L ≤ 2560) {H : Heap} {locs : List Loc} {ls : Array Slot} (h : St G 74 ad (fun q => s.heap.size ≤ q) s.heap w H locs) (hl : lv_has ls 4 [(0, .ref b), (1, .ref (ad 0)), (2, .ref (ad 64)), (3, .int i)]) (hend : ∀ (w : Nat → va_E) (H : Heap) (locs : List Loc), OK cI cB cZ cO ad w → REL2 cI cB cZ ad w → St G 74 ad (fun q => s.heap.size ≤ q) s.heap w H locs → W p l e room_1 s m #[Value.ref b] below meth c H locs 74 2063 Q (F0 m 1230 ls [])) : W p l e room_1 s m #[Value.ref b] below meth c H locs 74 2063 Q (F0 m 442 ls []) := by
  have hx := X.1.1
  have hb := X.1.2.1
  have hbA : ¬ (fun q => s.heap.size ≤ q) b := Nat.not_le.mpr hbl
  obtain ⟨x0, y0, q0, q1, q2, f0⟩ := (show sN ad (w 0) from ok 0 (by decide))
  refine lv_aload_n hx hb dL_law_442 rfl (lv_at hl 1 rfl) ?_
  refine n_Vi (na := 0) (As := []) (rest := []) X hD hN h rfl (c_X_undo l G cI cB cZ cO ad w ok ) ⟨kv_799, kv_800, kv_801, kv_212, kv_802⟩ rfl ⟨by decide, by decide, by decide⟩ ⟨Nat.le_of_ble_eq_true rfl, Nat.le_of_ble_eq_true rfl⟩ ⟨Nat.le_of_ble_eq_true rfl, Nat.le_of_ble_eq_true rfl⟩ (by decide) f0 rfl rfl hl.1 rfl (Nat.le_of_ble_eq_true rfl) dL_law_443 (fun r1 w1 H locs hp1 h => ?_)
  obtain ⟨ok1, kx1, hr1⟩ := hp1
  refine lv_pop hx hb dL_law_446 rfl ?_
  have rel1 : REL2 cI cB cZ ad w1 := rel.kx kx1
  obtain ⟨x1, y1, m0, m1, m2, m3, m4, m5, f64, h64a, h64b⟩ := (show sM ad (w1 64) from ok1 64 (by decide))
  refine lv_aload_n hx hb dL_law_447 rfl (lv_at hl 2 rfl) ?_
  refine n_Vi (na := 0) (As := []) (rest := []) X hD hN h rfl (c_M_undo_ l G cI cB cZ cO ad w1 ok1 ) ⟨kv_803, kv_804, kv_805, kv_470, kv_806⟩ rfl ⟨by decide, by decide, by decide⟩ ⟨Nat.le_of_ble_eq_true rfl, Nat.le_of_ble_eq_true rfl⟩ ⟨Nat.le_of_ble_eq_true rfl, Nat.le_of_ble_eq_true rfl⟩ (by decide) f64 rfl rfl hl.1 rfl (Nat.le_of_ble_eq_true rfl) dL_law_448 (fun r2 w2 H locs hp2 h => ?_)
  obtain ⟨ok2, kx2, hr2⟩ := hp2
  have rel2 : REL2 cI cB cZ ad w2 := rel1.km ok1 ok2 kx2
  refine lv_pop hx hb dL_law_451 rfl ?_
  refine lv_goto (tgt := 1230) hx hb dL_law_452 (by decide) ?_
  exact hend w2 H locs ok2 rel2 h

set_option maxHeartbeats 4000000 in
set_option maxRecDepth 100000 in
theorem law_of {p : Program} {l : Launch} {e : Env} {s : State} {m : MethodId} {below : List Frame} {meth : Method} {c : Code} {Q : State → Prop} {G : va_G} {cI cB cZ cO : ClassId} {ad : Nat → Nat} {w : Nat → va_E} {b L : Nat} {xs : Nat → Int32} {i : Int32} (X : Fx p m c code 4 s #[Value.ref b] "NoonShadeLaw" G (tyq cI cB cZ cO) (fun q => s.heap.size ≤ q)) (hD : WD (fun q => s.heap.size ≤ q) 74 ad) (hN : NS ad (fun q => s.heap.size ≤ q) s s.heap) (ok : OK cI cB cZ cO ad w) (rel : REL2 cI cB cZ ad w) (hX : va_X b L xs s s.heap) (hbl : b < s.heap.size) (hi0 : 0 ≤ i.toInt) (hi1 : i.toInt + 5 ≤ L) (hL : L ≤ 2560) {H : Heap} {locs : List Loc} {ls : Array Slot} (h : St G 74 ad (fun q => s.heap.size ≤ q) s.heap w H locs) (hl : lv_has ls 4 [(0, .ref b), (1, .ref (ad 0)), (2, .ref (ad 64)), (3, .int i)]) (hend : ∀ (w : Nat → va_E) (H : Heap) (locs : List Loc), OK cI cB cZ cO ad w → REL2 cI cB cZ ad w → St G 74 ad (fun q => s.heap.size ≤ q) s.heap w H locs → W p l e room_1 s m #[Value.ref b] below meth c H locs 74 2063 Q (F0 m 1230 ls [])) : W p l e room_1 s m #[Value.ref b] below meth c H locs 74 2063 Q (F0 m 455 ls []) := by
  have hx := X.1.1
  have hb := X.1.2.1
  have hbA : ¬ (fun q => s.heap.size ≤ q) b := Nat.not_le.mpr hbl
  obtain ⟨z1, ez1, tz1⟩ := x_add (x := i) (y := 1) (a := i.toInt) (b := 1) rfl rfl (by omega) (by omega)
  obtain ⟨a1, ea1⟩ : ∃ v : Int32, xs (z1).toNatClampNeg = v := ⟨_, rfl⟩
  obtain ⟨z2, ez2, tz2⟩ := x_add (x := i) (y := 2) (a := i.toInt) (b := 2) rfl rfl (by omega) (by omega)
  obtain ⟨a2, ea2⟩ : ∃ v : Int32, xs (z2).toNatClampNeg = v := ⟨_, rfl⟩
  obtain ⟨x0, y0, q0, q1, q2, f0⟩ := (show sN ad (w 0) from ok 0 (by decide))
  refine lv_aload_n hx hb dL_law_455 rfl (lv_at hl 1 rfl) ?_
  refine lv_aload_n hx hb dL_law_456 rfl (lv_at hl 0 rfl) ?_
  refine lv_iload_n hx hb dL_law_457 rfl (lv_at hl 3 rfl) ?_
  refine lv_iconst (v := 1) hx hb dL_law_458 (by decide) ?_
  refine o_iadd (z := z1) hx hb dL_law_459 ez1 ?_
  refine o_sld (v := a1) hx hb hX hbl hbA h.2 (in_of (by omega) (by omega)) ea1 dL_law_460 ?_
  refine lv_aload_n hx hb dL_law_461 rfl (lv_at hl 0 rfl) ?_
  refine lv_iload_n hx hb dL_law_462 rfl (lv_at hl 3 rfl) ?_
  refine lv_iconst (v := 2) hx hb dL_law_463 (by decide) ?_
  refine o_iadd (z := z2) hx hb dL_law_464 ez2 ?_
  refine o_sld (v := a2) hx hb hX hbl hbA h.2 (in_of (by omega) (by omega)) ea2 dL_law_465 ?_
  refine n_Vi (na := 2) (As := [.int a1, .int a2]) (rest := []) X hD hN h rfl (c_X_of l G cI cB cZ cO ad w ok a1 a2) ⟨kv_807, kv_808, kv_809, kv_212, kv_810⟩ rfl ⟨by decide, by decide, by decide⟩ ⟨Nat.le_of_ble_eq_true rfl, Nat.le_of_ble_eq_true rfl⟩ ⟨Nat.le_of_ble_eq_true rfl, Nat.le_of_ble_eq_true rfl⟩ (by decide) f0 rfl rfl hl.1 rfl (Nat.le_of_ble_eq_true rfl) dL_law_466 (fun r1 w1 H locs hp1 h => ?_)
  obtain ⟨ok1, kx1, hr1⟩ := hp1
  refine lv_pop hx hb dL_law_469 rfl ?_
  have rel1 : REL2 cI cB cZ ad w1 := rel.kx kx1
  obtain ⟨x1, y1, m0, m1, m2, m3, m4, m5, f64, h64a, h64b⟩ := (show sM ad (w1 64) from ok1 64 (by decide))
  refine lv_aload_n hx hb dL_law_470 rfl (lv_at hl 2 rfl) ?_
  refine lv_aload_n hx hb dL_law_471 rfl (lv_at hl 0 rfl) ?_
  refine lv_iload_n hx hb dL_law_472 rfl (lv_at hl 3 rfl) ?_
  refine lv_iconst (v := 1) hx hb dL_law_473 (by decide) ?_
  refine o_iadd (z := z1) hx hb dL_law_474 ez1 ?_
  refine o_sld (v := a1) hx hb hX hbl hbA h.2 (in_of (by omega) (by omega)) ea1 dL_law_475 ?_
  refine lv_aload_n hx hb dL_law_476 rfl (lv_at hl 0 rfl) ?_
  refine lv_iload_n hx hb dL_law_477 rfl (lv_at hl 3 rfl) ?_
  refine lv_iconst (v := 2) hx hb dL_law_478 (by decide) ?_
  refine o_iadd (z := z2) hx hb dL_law_479 ez2 ?_
  refine o_sld (v := a2) hx hb hX hbl hbA h.2 (in_of (by omega) (by omega)) ea2 dL_law_480 ?_
  refine n_Vi (na := 2) (As := [.int a1, .int a2]) (rest := []) X hD hN h rfl (c_M_of_ l G cI cB cZ cO ad w1 ok1 a1 a2) ⟨kv_811, kv_812, kv_813, kv_470, kv_814⟩ rfl ⟨by decide, by decide, by decide⟩ ⟨Nat.le_of_ble_eq_true rfl, Nat.le_of_ble_eq_true rfl⟩ ⟨Nat.le_of_ble_eq_true rfl, Nat.le_of_ble_eq_true rfl⟩ (by decide) f64 rfl rfl hl.1 rfl (Nat.le_of_ble_eq_true rfl) dL_law_481 (fun r2 w2 H locs hp2 h => ?_)
  obtain ⟨ok2, kx2, hr2⟩ := hp2
  have rel2 : REL2 cI cB cZ ad w2 := rel1.km ok1 ok2 kx2
  refine lv_pop hx hb dL_law_484 rfl ?_
  refine lv_goto (tgt := 1230) hx hb dL_law_485 (by decide) ?_
  exact hend w2 H locs ok2 rel2 h

set_option maxHeartbeats 4000000 in
set_option maxRecDepth 100000 in
theorem law_about {p : Program} {l : Launch} {e : Env} {s : State} {m : MethodId} {below : List Frame} {meth : Method} {c : Code} {Q : State → Prop} {G : va_G} {cI cB cZ cO : ClassId} {ad : Nat → Nat} {w : Nat → va_E} {b L : Nat} {xs : Nat → Int32} {i : Int32} (X : Fx p m c code 4 s #[Value.ref b] "NoonShadeLaw" G (tyq cI cB cZ cO) (fun q => s.heap.size ≤ q)) (hD : WD (fun q => s.heap.size ≤ q) 74 ad) (hN : NS ad (fun q => s.heap.size ≤ q) s s.heap) (ok : OK cI cB cZ cO ad w) (rel : REL2 cI cB cZ ad w) (hX : va_X b L xs s s.heap) (hbl : b < s.heap.size) (hi0 : 0 ≤ i.toInt) (hi1 : i.toInt + 5 ≤ L) (hL : L ≤ 2560) {H : Heap} {locs : List Loc} {ls : Array Slot} (h : St G 74 ad (fun q => s.heap.size ≤ q) s.heap w H locs) (hl : lv_has ls 4 [(0, .ref b), (1, .ref (ad 0)), (2, .ref (ad 64)), (3, .int i)]) (hend : ∀ (w : Nat → va_E) (H : Heap) (locs : List Loc), OK cI cB cZ cO ad w → REL2 cI cB cZ ad w → St G 74 ad (fun q => s.heap.size ≤ q) s.heap w H locs → W p l e room_1 s m #[Value.ref b] below meth c H locs 74 2063 Q (F0 m 1230 ls [])) : W p l e room_1 s m #[Value.ref b] below meth c H locs 74 2063 Q (F0 m 488 ls []) := by
  have hx := X.1.1
  have hb := X.1.2.1
  have hbA : ¬ (fun q => s.heap.size ≤ q) b := Nat.not_le.mpr hbl
  obtain ⟨z1, ez1, tz1⟩ := x_add (x := i) (y := 1) (a := i.toInt) (b := 1) rfl rfl (by omega) (by omega)
  obtain ⟨a1, ea1⟩ : ∃ v : Int32, xs (z1).toNatClampNeg = v := ⟨_, rfl⟩
  obtain ⟨z2, ez2, tz2⟩ := x_add (x := i) (y := 2) (a := i.toInt) (b := 2) rfl rfl (by omega) (by omega)
  obtain ⟨a2, ea2⟩ : ∃ v : Int32, xs (z2).toNatClampNeg = v := ⟨_, rfl⟩
  obtain ⟨x0, y0, q0, q1, q2, f0⟩ := (show sN ad (w 0) from ok 0 (by decide))
  refine lv_aload_n hx hb dL_law_488 rfl (lv_at hl 1 rfl) ?_
  refine lv_aload_n hx hb dL_law_489 rfl (lv_at hl 0 rfl) ?_
  refine lv_iload_n hx hb dL_law_490 rfl (lv_at hl 3 rfl) ?_
  refine lv_iconst (v := 1) hx hb dL_law_491 (by decide) ?_
  refine o_iadd (z := z1) hx hb dL_law_492 ez1 ?_
  refine o_sld (v := a1) hx hb hX hbl hbA h.2 (in_of (by omega) (by omega)) ea1 dL_law_493 ?_
  refine lv_aload_n hx hb dL_law_494 rfl (lv_at hl 0 rfl) ?_
  refine lv_iload_n hx hb dL_law_495 rfl (lv_at hl 3 rfl) ?_
  refine lv_iconst (v := 2) hx hb dL_law_496 (by decide) ?_
  refine o_iadd (z := z2) hx hb dL_law_497 ez2 ?_
  refine o_sld (v := a2) hx hb hX hbl hbA h.2 (in_of (by omega) (by omega)) ea2 dL_law_498 ?_
  refine n_Vi (na := 2) (As := [.int a1, .int a2]) (rest := []) X hD hN h rfl (c_X_about l G cI cB cZ cO ad w ok a1 a2) ⟨kv_815, kv_816, kv_817, kv_212, kv_818⟩ rfl ⟨by decide, by decide, by decide⟩ ⟨Nat.le_of_ble_eq_true rfl, Nat.le_of_ble_eq_true rfl⟩ ⟨Nat.le_of_ble_eq_true rfl, Nat.le_of_ble_eq_true rfl⟩ (by decide) f0 rfl rfl hl.1 rfl (Nat.le_of_ble_eq_true rfl) dL_law_499 (fun r1 w1 H locs hp1 h => ?_)
  obtain ⟨ok1, kx1, hr1⟩ := hp1
  refine lv_pop hx hb dL_law_502 rfl ?_
  have rel1 : REL2 cI cB cZ ad w1 := rel.kx kx1
  obtain ⟨x1, y1, m0, m1, m2, m3, m4, m5, f64, h64a, h64b⟩ := (show sM ad (w1 64) from ok1 64 (by decide))
  refine lv_aload_n hx hb dL_law_503 rfl (lv_at hl 2 rfl) ?_
  refine lv_aload_n hx hb dL_law_504 rfl (lv_at hl 0 rfl) ?_
  refine lv_iload_n hx hb dL_law_505 rfl (lv_at hl 3 rfl) ?_
  refine lv_iconst (v := 1) hx hb dL_law_506 (by decide) ?_
  refine o_iadd (z := z1) hx hb dL_law_507 ez1 ?_
  refine o_sld (v := a1) hx hb hX hbl hbA h.2 (in_of (by omega) (by omega)) ea1 dL_law_508 ?_
  refine lv_aload_n hx hb dL_law_509 rfl (lv_at hl 0 rfl) ?_
  refine lv_iload_n hx hb dL_law_510 rfl (lv_at hl 3 rfl) ?_
  refine lv_iconst (v := 2) hx hb dL_law_511 (by decide) ?_
  refine o_iadd (z := z2) hx hb dL_law_512 ez2 ?_
  refine o_sld (v := a2) hx hb hX hbl hbA h.2 (in_of (by omega) (by omega)) ea2 dL_law_513 ?_
  refine n_Vi (na := 2) (As := [.int a1, .int a2]) (rest := []) X hD hN h rfl (c_M_about_ l G cI cB cZ cO ad w1 ok1 a1 a2) ⟨kv_819, kv_820, kv_821, kv_470, kv_822⟩ rfl ⟨by decide, by decide, by decide⟩ ⟨Nat.le_of_ble_eq_true rfl, Nat.le_of_ble_eq_true rfl⟩ ⟨Nat.le_of_ble_eq_true rfl, Nat.le_of_ble_eq_true rfl⟩ (by decide) f64 rfl rfl hl.1 rfl (Nat.le_of_ble_eq_true rfl) dL_law_514 (fun r2 w2 H locs hp2 h => ?_)
  obtain ⟨ok2, kx2, hr2⟩ := hp2
  have rel2 : REL2 cI cB cZ ad w2 := rel1.km ok1 ok2 kx2
  refine lv_pop hx hb dL_law_517 rfl ?_
  refine lv_goto (tgt := 1230) hx hb dL_law_518 (by decide) ?_
  exact hend w2 H locs ok2 rel2 h

set_option maxHeartbeats 4000000 in
set_option maxRecDepth 100000 in
theorem law_gives {p : Program} {l : Launch} {e : Env} {s : State} {m : MethodId} {below : List Frame} {meth : Method} {c : Code} {Q : State → Prop} {G : va_G} {cI cB cZ cO : ClassId} {ad : Nat → Nat} {w : Nat → va_E} {b L : Nat} {xs : Nat → Int32} {i : Int32} (X : Fx p m c code 4 s #[Value.ref b] "NoonShadeLaw" G (tyq cI cB cZ cO) (fun q => s.heap.size ≤ q)) (hD : WD (fun q => s.heap.size ≤ q) 74 ad) (hN : NS ad (fun q => s.heap.size ≤ q) s s.heap) (ok : OK cI cB cZ cO ad w) (rel : REL2 cI cB cZ ad w) (hX : va_X b L xs s s.heap) (hbl : b < s.heap.size) (hi0 : 0 ≤ i.toInt) (hi1 : i.toInt + 5 ≤ L) (hL : L ≤ 2560) {H : Heap} {locs : List Loc} {ls : Array Slot} (h : St G 74 ad (fun q => s.heap.size ≤ q) s.heap w H locs) (hl : lv_has ls 4 [(0, .ref b), (1, .ref (ad 0)), (2, .ref (ad 64)), (3, .int i)]) (hend : ∀ (w : Nat → va_E) (H : Heap) (locs : List Loc), OK cI cB cZ cO ad w → REL2 cI cB cZ ad w → St G 74 ad (fun q => s.heap.size ≤ q) s.heap w H locs → W p l e room_1 s m #[Value.ref b] below meth c H locs 74 2063 Q (F0 m 1230 ls [])) : W p l e room_1 s m #[Value.ref b] below meth c H locs 74 2063 Q (F0 m 521 ls []) := by
  have hx := X.1.1
  have hb := X.1.2.1
  have hbA : ¬ (fun q => s.heap.size ≤ q) b := Nat.not_le.mpr hbl
  obtain ⟨z1, ez1, tz1⟩ := x_add (x := i) (y := 1) (a := i.toInt) (b := 1) rfl rfl (by omega) (by omega)
  obtain ⟨a1, ea1⟩ : ∃ v : Int32, xs (z1).toNatClampNeg = v := ⟨_, rfl⟩
  obtain ⟨z2, ez2, tz2⟩ := x_add (x := i) (y := 2) (a := i.toInt) (b := 2) rfl rfl (by omega) (by omega)
  obtain ⟨a2, ea2⟩ : ∃ v : Int32, xs (z2).toNatClampNeg = v := ⟨_, rfl⟩
  obtain ⟨x0, y0, q0, q1, q2, f0⟩ := (show sN ad (w 0) from ok 0 (by decide))
  refine lv_aload_n hx hb dL_law_521 rfl (lv_at hl 1 rfl) ?_
  refine lv_aload_n hx hb dL_law_522 rfl (lv_at hl 0 rfl) ?_
  refine lv_iload_n hx hb dL_law_523 rfl (lv_at hl 3 rfl) ?_
  refine lv_iconst (v := 1) hx hb dL_law_524 (by decide) ?_
  refine o_iadd (z := z1) hx hb dL_law_525 ez1 ?_
  refine o_sld (v := a1) hx hb hX hbl hbA h.2 (in_of (by omega) (by omega)) ea1 dL_law_526 ?_
  refine lv_aload_n hx hb dL_law_527 rfl (lv_at hl 0 rfl) ?_
  refine lv_iload_n hx hb dL_law_528 rfl (lv_at hl 3 rfl) ?_
  refine lv_iconst (v := 2) hx hb dL_law_529 (by decide) ?_
  refine o_iadd (z := z2) hx hb dL_law_530 ez2 ?_
  refine o_sld (v := a2) hx hb hX hbl hbA h.2 (in_of (by omega) (by omega)) ea2 dL_law_531 ?_
  refine n_Vi (na := 2) (As := [.int a1, .int a2]) (rest := []) X hD hN h rfl (c_X_gives l G cI cB cZ cO ad w ok a1 a2) ⟨kv_823, kv_824, kv_825, kv_212, kv_826⟩ rfl ⟨by decide, by decide, by decide⟩ ⟨Nat.le_of_ble_eq_true rfl, Nat.le_of_ble_eq_true rfl⟩ ⟨Nat.le_of_ble_eq_true rfl, Nat.le_of_ble_eq_true rfl⟩ (by decide) f0 rfl rfl hl.1 rfl (Nat.le_of_ble_eq_true rfl) dL_law_532 (fun r1 w1 H locs hp1 h => ?_)
  obtain ⟨ok1, kx1, hr1⟩ := hp1
  refine lv_pop hx hb dL_law_535 rfl ?_
  have rel1 : REL2 cI cB cZ ad w1 := rel.kx kx1
  obtain ⟨x1, y1, m0, m1, m2, m3, m4, m5, f64, h64a, h64b⟩ := (show sM ad (w1 64) from ok1 64 (by decide))
  refine lv_aload_n hx hb dL_law_536 rfl (lv_at hl 2 rfl) ?_
  refine lv_aload_n hx hb dL_law_537 rfl (lv_at hl 0 rfl) ?_
  refine lv_iload_n hx hb dL_law_538 rfl (lv_at hl 3 rfl) ?_
  refine lv_iconst (v := 1) hx hb dL_law_539 (by decide) ?_
  refine o_iadd (z := z1) hx hb dL_law_540 ez1 ?_
  refine o_sld (v := a1) hx hb hX hbl hbA h.2 (in_of (by omega) (by omega)) ea1 dL_law_541 ?_
  refine lv_aload_n hx hb dL_law_542 rfl (lv_at hl 0 rfl) ?_
  refine lv_iload_n hx hb dL_law_543 rfl (lv_at hl 3 rfl) ?_
  refine lv_iconst (v := 2) hx hb dL_law_544 (by decide) ?_
  refine o_iadd (z := z2) hx hb dL_law_545 ez2 ?_
  refine o_sld (v := a2) hx hb hX hbl hbA h.2 (in_of (by omega) (by omega)) ea2 dL_law_546 ?_
  refine n_Vi (na := 2) (As := [.int a1, .int a2]) (rest := []) X hD hN h rfl (c_M_gives_ l G cI cB cZ cO ad w1 ok1 a1 a2) ⟨kv_827, kv_828, kv_829, kv_470, kv_830⟩ rfl ⟨by decide, by decide, by decide⟩ ⟨Nat.le_of_ble_eq_true rfl, Nat.le_of_ble_eq_true rfl⟩ ⟨Nat.le_of_ble_eq_true rfl, Nat.le_of_ble_eq_true rfl⟩ (by decide) f64 rfl rfl hl.1 rfl (Nat.le_of_ble_eq_true rfl) dL_law_547 (fun r2 w2 H locs hp2 h => ?_)
  obtain ⟨ok2, kx2, hr2⟩ := hp2
  have rel2 : REL2 cI cB cZ ad w2 := rel1.km ok1 ok2 kx2
  refine lv_pop hx hb dL_law_550 rfl ?_
  refine lv_goto (tgt := 1230) hx hb dL_law_551 (by decide) ?_
  exact hend w2 H locs ok2 rel2 h

set_option maxHeartbeats 4000000 in
set_option maxRecDepth 100000 in
theorem law_keeps {p : Program} {l : Launch} {e : Env} {s : State} {m : MethodId} {below : List Frame} {meth : Method} {c : Code} {Q : State → Prop} {G : va_G} {cI cB cZ cO : ClassId} {ad : Nat → Nat} {w : Nat → va_E} {b L : Nat} {xs : Nat → Int32} {i : Int32} (X : Fx p m c code 4 s #[Value.ref b] "NoonShadeLaw" G (tyq cI cB cZ cO) (fun q => s.heap.size ≤ q)) (hD : WD (fun q => s.heap.size ≤ q) 74 ad) (hN : NS ad (fun q => s.heap.size ≤ q) s s.heap) (ok : OK cI cB cZ cO ad w) (rel : REL2 cI cB cZ ad w) (hX : va_X b L xs s s.heap) (hbl : b < s.heap.size) (hi0 : 0 ≤ i.toInt) (hi1 : i.toInt + 5 ≤ L) (hL : L ≤ 2560) {H : Heap} {locs : List Loc} {ls : Array Slot} (h : St G 74 ad (fun q => s.heap.size ≤ q) s.heap w H locs) (hl : lv_has ls 4 [(0, .ref b), (1, .ref (ad 0)), (2, .ref (ad 64)), (3, .int i)]) (hend : ∀ (w : Nat → va_E) (H : Heap) (locs : List Loc), OK cI cB cZ cO ad w → REL2 cI cB cZ ad w → St G 74 ad (fun q => s.heap.size ≤ q) s.heap w H locs → W p l e room_1 s m #[Value.ref b] below meth c H locs 74 2063 Q (F0 m 1230 ls [])) : W p l e room_1 s m #[Value.ref b] below meth c H locs 74 2063 Q (F0 m 554 ls []) := by
  have hx := X.1.1
  have hb := X.1.2.1
  have hbA : ¬ (fun q => s.heap.size ≤ q) b := Nat.not_le.mpr hbl
  obtain ⟨z1, ez1, tz1⟩ := x_add (x := i) (y := 1) (a := i.toInt) (b := 1) rfl rfl (by omega) (by omega)
  obtain ⟨a1, ea1⟩ : ∃ v : Int32, xs (z1).toNatClampNeg = v := ⟨_, rfl⟩
  obtain ⟨z2, ez2, tz2⟩ := x_add (x := i) (y := 2) (a := i.toInt) (b := 2) rfl rfl (by omega) (by omega)
  obtain ⟨a2, ea2⟩ : ∃ v : Int32, xs (z2).toNatClampNeg = v := ⟨_, rfl⟩
  obtain ⟨x0, y0, q0, q1, q2, f0⟩ := (show sN ad (w 0) from ok 0 (by decide))
  refine lv_aload_n hx hb dL_law_554 rfl (lv_at hl 1 rfl) ?_
  refine lv_aload_n hx hb dL_law_555 rfl (lv_at hl 0 rfl) ?_
  refine lv_iload_n hx hb dL_law_556 rfl (lv_at hl 3 rfl) ?_
  refine lv_iconst (v := 1) hx hb dL_law_557 (by decide) ?_
  refine o_iadd (z := z1) hx hb dL_law_558 ez1 ?_
  refine o_sld (v := a1) hx hb hX hbl hbA h.2 (in_of (by omega) (by omega)) ea1 dL_law_559 ?_
  refine lv_aload_n hx hb dL_law_560 rfl (lv_at hl 0 rfl) ?_
  refine lv_iload_n hx hb dL_law_561 rfl (lv_at hl 3 rfl) ?_
  refine lv_iconst (v := 2) hx hb dL_law_562 (by decide) ?_
  refine o_iadd (z := z2) hx hb dL_law_563 ez2 ?_
  refine o_sld (v := a2) hx hb hX hbl hbA h.2 (in_of (by omega) (by omega)) ea2 dL_law_564 ?_
  refine n_Vi (na := 2) (As := [.int a1, .int a2]) (rest := []) X hD hN h rfl (c_X_keeps l G cI cB cZ cO ad w ok a1 a2) ⟨kv_831, kv_832, kv_833, kv_212, kv_834⟩ rfl ⟨by decide, by decide, by decide⟩ ⟨Nat.le_of_ble_eq_true rfl, Nat.le_of_ble_eq_true rfl⟩ ⟨Nat.le_of_ble_eq_true rfl, Nat.le_of_ble_eq_true rfl⟩ (by decide) f0 rfl rfl hl.1 rfl (Nat.le_of_ble_eq_true rfl) dL_law_565 (fun r1 w1 H locs hp1 h => ?_)
  obtain ⟨ok1, kx1, hr1⟩ := hp1
  refine lv_pop hx hb dL_law_568 rfl ?_
  have rel1 : REL2 cI cB cZ ad w1 := rel.kx kx1
  obtain ⟨x1, y1, m0, m1, m2, m3, m4, m5, f64, h64a, h64b⟩ := (show sM ad (w1 64) from ok1 64 (by decide))
  refine lv_aload_n hx hb dL_law_569 rfl (lv_at hl 2 rfl) ?_
  refine lv_aload_n hx hb dL_law_570 rfl (lv_at hl 0 rfl) ?_
  refine lv_iload_n hx hb dL_law_571 rfl (lv_at hl 3 rfl) ?_
  refine lv_iconst (v := 1) hx hb dL_law_572 (by decide) ?_
  refine o_iadd (z := z1) hx hb dL_law_573 ez1 ?_
  refine o_sld (v := a1) hx hb hX hbl hbA h.2 (in_of (by omega) (by omega)) ea1 dL_law_574 ?_
  refine lv_aload_n hx hb dL_law_575 rfl (lv_at hl 0 rfl) ?_
  refine lv_iload_n hx hb dL_law_576 rfl (lv_at hl 3 rfl) ?_
  refine lv_iconst (v := 2) hx hb dL_law_577 (by decide) ?_
  refine o_iadd (z := z2) hx hb dL_law_578 ez2 ?_
  refine o_sld (v := a2) hx hb hX hbl hbA h.2 (in_of (by omega) (by omega)) ea2 dL_law_579 ?_
  refine n_Vi (na := 2) (As := [.int a1, .int a2]) (rest := []) X hD hN h rfl (c_M_keeps_ l G cI cB cZ cO ad w1 ok1 a1 a2) ⟨kv_835, kv_836, kv_837, kv_470, kv_838⟩ rfl ⟨by decide, by decide, by decide⟩ ⟨Nat.le_of_ble_eq_true rfl, Nat.le_of_ble_eq_true rfl⟩ ⟨Nat.le_of_ble_eq_true rfl, Nat.le_of_ble_eq_true rfl⟩ (by decide) f64 rfl rfl hl.1 rfl (Nat.le_of_ble_eq_true rfl) dL_law_580 (fun r2 w2 H locs hp2 h => ?_)
  obtain ⟨ok2, kx2, hr2⟩ := hp2
  have rel2 : REL2 cI cB cZ ad w2 := rel1.km ok1 ok2 kx2
  refine lv_pop hx hb dL_law_583 rfl ?_
  refine lv_goto (tgt := 1230) hx hb dL_law_584 (by decide) ?_
  exact hend w2 H locs ok2 rel2 h

set_option maxHeartbeats 4000000 in
set_option maxRecDepth 100000 in
theorem law_when {p : Program} {l : Launch} {e : Env} {s : State} {m : MethodId} {below : List Frame} {meth : Method} {c : Code} {Q : State → Prop} {G : va_G} {cI cB cZ cO : ClassId} {ad : Nat → Nat} {w : Nat → va_E} {b L : Nat} {xs : Nat → Int32} {i : Int32} (X : Fx p m c code 4 s #[Value.ref b] "NoonShadeLaw" G (tyq cI cB cZ cO) (fun q => s.heap.size ≤ q)) (hD : WD (fun q => s.heap.size ≤ q) 74 ad) (hN : NS ad (fun q => s.heap.size ≤ q) s s.heap) (ok : OK cI cB cZ cO ad w) (rel : REL2 cI cB cZ ad w) (hX : va_X b L xs s s.heap) (hbl : b < s.heap.size) (hi0 : 0 ≤ i.toInt) (hi1 : i.toInt + 5 ≤ L) (hL : L ≤ 2560) {H : Heap} {locs : List Loc} {ls : Array Slot} (h : St G 74 ad (fun q => s.heap.size ≤ q) s.heap w H locs) (hl : lv_has ls 4 [(0, .ref b), (1, .ref (ad 0)), (2, .ref (ad 64)), (3, .int i)]) (hend : ∀ (w : Nat → va_E) (H : Heap) (locs : List Loc), OK cI cB cZ cO ad w → REL2 cI cB cZ ad w → St G 74 ad (fun q => s.heap.size ≤ q) s.heap w H locs → W p l e room_1 s m #[Value.ref b] below meth c H locs 74 2063 Q (F0 m 1230 ls [])) : W p l e room_1 s m #[Value.ref b] below meth c H locs 74 2063 Q (F0 m 587 ls []) := by
  have hx := X.1.1
  have hb := X.1.2.1
  have hbA : ¬ (fun q => s.heap.size ≤ q) b := Nat.not_le.mpr hbl
  obtain ⟨z1, ez1, tz1⟩ := x_add (x := i) (y := 1) (a := i.toInt) (b := 1) rfl rfl (by omega) (by omega)
  obtain ⟨a1, ea1⟩ : ∃ v : Int32, xs (z1).toNatClampNeg = v := ⟨_, rfl⟩
  obtain ⟨x0, y0, q0, q1, q2, f0⟩ := (show sN ad (w 0) from ok 0 (by decide))
  refine lv_aload_n hx hb dL_law_587 rfl (lv_at hl 1 rfl) ?_
  refine lv_aload_n hx hb dL_law_588 rfl (lv_at hl 0 rfl) ?_
  refine lv_iload_n hx hb dL_law_589 rfl (lv_at hl 3 rfl) ?_
  refine lv_iconst (v := 1) hx hb dL_law_590 (by decide) ?_
  refine o_iadd (z := z1) hx hb dL_law_591 ez1 ?_
  refine o_sld (v := a1) hx hb hX hbl hbA h.2 (in_of (by omega) (by omega)) ea1 dL_law_592 ?_
  refine n_Vi (na := 1) (As := [.int a1]) (rest := []) X hD hN h rfl (c_X_when l G cI cB cZ cO ad w ok a1) ⟨kv_839, kv_840, kv_841, kv_212, kv_842⟩ rfl ⟨by decide, by decide, by decide⟩ ⟨Nat.le_of_ble_eq_true rfl, Nat.le_of_ble_eq_true rfl⟩ ⟨Nat.le_of_ble_eq_true rfl, Nat.le_of_ble_eq_true rfl⟩ (by decide) f0 rfl rfl hl.1 rfl (Nat.le_of_ble_eq_true rfl) dL_law_593 (fun r1 w1 H locs hp1 h => ?_)
  obtain ⟨ok1, kx1, hr1⟩ := hp1
  refine lv_pop hx hb dL_law_596 rfl ?_
  have rel1 : REL2 cI cB cZ ad w1 := rel.kx kx1
  obtain ⟨x1, y1, m0, m1, m2, m3, m4, m5, f64, h64a, h64b⟩ := (show sM ad (w1 64) from ok1 64 (by decide))
  refine lv_aload_n hx hb dL_law_597 rfl (lv_at hl 2 rfl) ?_
  refine lv_aload_n hx hb dL_law_598 rfl (lv_at hl 0 rfl) ?_
  refine lv_iload_n hx hb dL_law_599 rfl (lv_at hl 3 rfl) ?_
  refine lv_iconst (v := 1) hx hb dL_law_600 (by decide) ?_
  refine o_iadd (z := z1) hx hb dL_law_601 ez1 ?_
  refine o_sld (v := a1) hx hb hX hbl hbA h.2 (in_of (by omega) (by omega)) ea1 dL_law_602 ?_
  refine n_Vi (na := 1) (As := [.int a1]) (rest := []) X hD hN h rfl (c_M_when_ l G cI cB cZ cO ad w1 ok1 a1) ⟨kv_843, kv_844, kv_845, kv_470, kv_846⟩ rfl ⟨by decide, by decide, by decide⟩ ⟨Nat.le_of_ble_eq_true rfl, Nat.le_of_ble_eq_true rfl⟩ ⟨Nat.le_of_ble_eq_true rfl, Nat.le_of_ble_eq_true rfl⟩ (by decide) f64 rfl rfl hl.1 rfl (Nat.le_of_ble_eq_true rfl) dL_law_603 (fun r2 w2 H locs hp2 h => ?_)
  obtain ⟨ok2, kx2, hr2⟩ := hp2
  have rel2 : REL2 cI cB cZ ad w2 := rel1.km ok1 ok2 kx2
  refine lv_pop hx hb dL_law_606 rfl ?_
  refine lv_goto (tgt := 1230) hx hb dL_law_607 (by decide) ?_
  exact hend w2 H locs ok2 rel2 h

set_option maxHeartbeats 4000000 in
set_option maxRecDepth 100000 in
theorem law_gone {p : Program} {l : Launch} {e : Env} {s : State} {m : MethodId} {below : List Frame} {meth : Method} {c : Code} {Q : State → Prop} {G : va_G} {cI cB cZ cO : ClassId} {ad : Nat → Nat} {w : Nat → va_E} {b L : Nat} {xs : Nat → Int32} {i : Int32} (X : Fx p m c code 4 s #[Value.ref b] "NoonShadeLaw" G (tyq cI cB cZ cO) (fun q => s.heap.size ≤ q)) (hD : WD (fun q => s.heap.size ≤ q) 74 ad) (hN : NS ad (fun q => s.heap.size ≤ q) s s.heap) (ok : OK cI cB cZ cO ad w) (rel : REL2 cI cB cZ ad w) (hX : va_X b L xs s s.heap) (hbl : b < s.heap.size) (hi0 : 0 ≤ i.toInt) (hi1 : i.toInt + 5 ≤ L) (hL : L ≤ 2560) {H : Heap} {locs : List Loc} {ls : Array Slot} (h : St G 74 ad (fun q => s.heap.size ≤ q) s.heap w H locs) (hl : lv_has ls 4 [(0, .ref b), (1, .ref (ad 0)), (2, .ref (ad 64)), (3, .int i)]) (hend : ∀ (w : Nat → va_E) (H : Heap) (locs : List Loc), OK cI cB cZ cO ad w → REL2 cI cB cZ ad w → St G 74 ad (fun q => s.heap.size ≤ q) s.heap w H locs → W p l e room_1 s m #[Value.ref b] below meth c H locs 74 2063 Q (F0 m 1230 ls [])) : W p l e room_1 s m #[Value.ref b] below meth c H locs 74 2063 Q (F0 m 610 ls []) := by
  have hx := X.1.1
  have hb := X.1.2.1
  have hbA : ¬ (fun q => s.heap.size ≤ q) b := Nat.not_le.mpr hbl
  obtain ⟨z1, ez1, tz1⟩ := x_add (x := i) (y := 1) (a := i.toInt) (b := 1) rfl rfl (by omega) (by omega)
  obtain ⟨a1, ea1⟩ : ∃ v : Int32, xs (z1).toNatClampNeg = v := ⟨_, rfl⟩
  obtain ⟨x0, y0, q0, q1, q2, f0⟩ := (show sN ad (w 0) from ok 0 (by decide))
  refine lv_aload_n hx hb dL_law_610 rfl (lv_at hl 1 rfl) ?_
  refine lv_aload_n hx hb dL_law_611 rfl (lv_at hl 0 rfl) ?_
  refine lv_iload_n hx hb dL_law_612 rfl (lv_at hl 3 rfl) ?_
  refine lv_iconst (v := 1) hx hb dL_law_613 (by decide) ?_
  refine o_iadd (z := z1) hx hb dL_law_614 ez1 ?_
  refine o_sld (v := a1) hx hb hX hbl hbA h.2 (in_of (by omega) (by omega)) ea1 dL_law_615 ?_
  refine n_Vi (na := 1) (As := [.int a1]) (rest := []) X hD hN h rfl (c_X_gone l G cI cB cZ cO ad w ok a1) ⟨kv_847, kv_848, kv_849, kv_212, kv_850⟩ rfl ⟨by decide, by decide, by decide⟩ ⟨Nat.le_of_ble_eq_true rfl, Nat.le_of_ble_eq_true rfl⟩ ⟨Nat.le_of_ble_eq_true rfl, Nat.le_of_ble_eq_true rfl⟩ (by decide) f0 rfl rfl hl.1 rfl (Nat.le_of_ble_eq_true rfl) dL_law_616 (fun r1 w1 H locs hp1 h => ?_)
  obtain ⟨ok1, kx1, hr1⟩ := hp1
  refine lv_pop hx hb dL_law_619 rfl ?_
  have rel1 : REL2 cI cB cZ ad w1 := rel.kx kx1
  obtain ⟨x1, y1, m0, m1, m2, m3, m4, m5, f64, h64a, h64b⟩ := (show sM ad (w1 64) from ok1 64 (by decide))
  refine lv_aload_n hx hb dL_law_620 rfl (lv_at hl 2 rfl) ?_
  refine lv_aload_n hx hb dL_law_621 rfl (lv_at hl 0 rfl) ?_
  refine lv_iload_n hx hb dL_law_622 rfl (lv_at hl 3 rfl) ?_
  refine lv_iconst (v := 1) hx hb dL_law_623 (by decide) ?_
  refine o_iadd (z := z1) hx hb dL_law_624 ez1 ?_
  refine o_sld (v := a1) hx hb hX hbl hbA h.2 (in_of (by omega) (by omega)) ea1 dL_law_625 ?_
  refine n_Vi (na := 1) (As := [.int a1]) (rest := []) X hD hN h rfl (c_M_gone_ l G cI cB cZ cO ad w1 ok1 a1) ⟨kv_851, kv_852, kv_853, kv_470, kv_854⟩ rfl ⟨by decide, by decide, by decide⟩ ⟨Nat.le_of_ble_eq_true rfl, Nat.le_of_ble_eq_true rfl⟩ ⟨Nat.le_of_ble_eq_true rfl, Nat.le_of_ble_eq_true rfl⟩ (by decide) f64 rfl rfl hl.1 rfl (Nat.le_of_ble_eq_true rfl) dL_law_626 (fun r2 w2 H locs hp2 h => ?_)
  obtain ⟨ok2, kx2, hr2⟩ := hp2
  have rel2 : REL2 cI cB cZ ad w2 := rel1.km ok1 ok2 kx2
  refine lv_pop hx hb dL_law_629 rfl ?_
  refine lv_goto (tgt := 1230) hx hb dL_law_630 (by decide) ?_
  exact hend w2 H locs ok2 rel2 h

set_option maxHeartbeats 4000000 in
set_option maxRecDepth 100000 in
theorem law_round {p : Program} {l : Launch} {e : Env} {s : State} {m : MethodId} {below : List Frame} {meth : Method} {c : Code} {Q : State → Prop} {G : va_G} {cI cB cZ cO : ClassId} {ad : Nat → Nat} {w : Nat → va_E} {b L : Nat} {xs : Nat → Int32} {i : Int32} (X : Fx p m c code 4 s #[Value.ref b] "NoonShadeLaw" G (tyq cI cB cZ cO) (fun q => s.heap.size ≤ q)) (hD : WD (fun q => s.heap.size ≤ q) 74 ad) (hN : NS ad (fun q => s.heap.size ≤ q) s s.heap) (ok : OK cI cB cZ cO ad w) (rel : REL2 cI cB cZ ad w) (hX : va_X b L xs s s.heap) (hbl : b < s.heap.size) (hi0 : 0 ≤ i.toInt) (hi1 : i.toInt + 5 ≤ L) (hL : L ≤ 2560) {H : Heap} {locs : List Loc} {ls : Array Slot} (h : St G 74 ad (fun q => s.heap.size ≤ q) s.heap w H locs) (hl : lv_has ls 4 [(0, .ref b), (1, .ref (ad 0)), (2, .ref (ad 64)), (3, .int i)]) (hend : ∀ (w : Nat → va_E) (H : Heap) (locs : List Loc), OK cI cB cZ cO ad w → REL2 cI cB cZ ad w → St G 74 ad (fun q => s.heap.size ≤ q) s.heap w H locs → W p l e room_1 s m #[Value.ref b] below meth c H locs 74 2063 Q (F0 m 1230 ls [])) : W p l e room_1 s m #[Value.ref b] below meth c H locs 74 2063 Q (F0 m 633 ls []) := by
  have hx := X.1.1
  have hb := X.1.2.1
  have hbA : ¬ (fun q => s.heap.size ≤ q) b := Nat.not_le.mpr hbl
  obtain ⟨z1, ez1, tz1⟩ := x_add (x := i) (y := 1) (a := i.toInt) (b := 1) rfl rfl (by omega) (by omega)
  obtain ⟨a1, ea1⟩ : ∃ v : Int32, xs (z1).toNatClampNeg = v := ⟨_, rfl⟩
  obtain ⟨z2, ez2, tz2⟩ := x_add (x := i) (y := 2) (a := i.toInt) (b := 2) rfl rfl (by omega) (by omega)
  obtain ⟨a2, ea2⟩ : ∃ v : Int32, xs (z2).toNatClampNeg = v := ⟨_, rfl⟩
  obtain ⟨z3, ez3, tz3⟩ := x_add (x := i) (y := 3) (a := i.toInt) (b := 3) rfl rfl (by omega) (by omega)
  obtain ⟨a3, ea3⟩ : ∃ v : Int32, xs (z3).toNatClampNeg = v := ⟨_, rfl⟩
  obtain ⟨x0, y0, q0, q1, q2, f0⟩ := (show sN ad (w 0) from ok 0 (by decide))
  refine lv_aload_n hx hb dL_law_633 rfl (lv_at hl 1 rfl) ?_
  refine lv_aload_n hx hb dL_law_634 rfl (lv_at hl 0 rfl) ?_
  refine lv_iload_n hx hb dL_law_635 rfl (lv_at hl 3 rfl) ?_
  refine lv_iconst (v := 1) hx hb dL_law_636 (by decide) ?_
  refine o_iadd (z := z1) hx hb dL_law_637 ez1 ?_
  refine o_sld (v := a1) hx hb hX hbl hbA h.2 (in_of (by omega) (by omega)) ea1 dL_law_638 ?_
  refine lv_aload_n hx hb dL_law_639 rfl (lv_at hl 0 rfl) ?_
  refine lv_iload_n hx hb dL_law_640 rfl (lv_at hl 3 rfl) ?_
  refine lv_iconst (v := 2) hx hb dL_law_641 (by decide) ?_
  refine o_iadd (z := z2) hx hb dL_law_642 ez2 ?_
  refine o_sld (v := a2) hx hb hX hbl hbA h.2 (in_of (by omega) (by omega)) ea2 dL_law_643 ?_
  refine lv_aload_n hx hb dL_law_644 rfl (lv_at hl 0 rfl) ?_
  refine lv_iload_n hx hb dL_law_645 rfl (lv_at hl 3 rfl) ?_
  refine lv_iconst (v := 3) hx hb dL_law_646 (by decide) ?_
  refine o_iadd (z := z3) hx hb dL_law_647 ez3 ?_
  refine o_sld (v := a3) hx hb hX hbl hbA h.2 (in_of (by omega) (by omega)) ea3 dL_law_648 ?_
  refine n_Vi (na := 3) (As := [.int a1, .int a2, .int a3]) (rest := []) X hD hN h rfl (c_X_round l G cI cB cZ cO ad w ok a1 a2 a3) ⟨kv_855, kv_856, kv_857, kv_212, kv_858⟩ rfl ⟨by decide, by decide, by decide⟩ ⟨Nat.le_of_ble_eq_true rfl, Nat.le_of_ble_eq_true rfl⟩ ⟨Nat.le_of_ble_eq_true rfl, Nat.le_of_ble_eq_true rfl⟩ (by decide) f0 rfl rfl hl.1 rfl (Nat.le_of_ble_eq_true rfl) dL_law_649 (fun r1 w1 H locs hp1 h => ?_)
  obtain ⟨ok1, kx1, hr1⟩ := hp1
  refine lv_pop hx hb dL_law_652 rfl ?_
  have rel1 : REL2 cI cB cZ ad w1 := rel.kx kx1
  obtain ⟨x1, y1, m0, m1, m2, m3, m4, m5, f64, h64a, h64b⟩ := (show sM ad (w1 64) from ok1 64 (by decide))
  refine lv_aload_n hx hb dL_law_653 rfl (lv_at hl 2 rfl) ?_
  refine lv_aload_n hx hb dL_law_654 rfl (lv_at hl 0 rfl) ?_
  refine lv_iload_n hx hb dL_law_655 rfl (lv_at hl 3 rfl) ?_
  refine lv_iconst (v := 1) hx hb dL_law_656 (by decide) ?_
  refine o_iadd (z := z1) hx hb dL_law_657 ez1 ?_
  refine o_sld (v := a1) hx hb hX hbl hbA h.2 (in_of (by omega) (by omega)) ea1 dL_law_658 ?_
  refine lv_aload_n hx hb dL_law_659 rfl (lv_at hl 0 rfl) ?_
  refine lv_iload_n hx hb dL_law_660 rfl (lv_at hl 3 rfl) ?_
  refine lv_iconst (v := 2) hx hb dL_law_661 (by decide) ?_
  refine o_iadd (z := z2) hx hb dL_law_662 ez2 ?_
  refine o_sld (v := a2) hx hb hX hbl hbA h.2 (in_of (by omega) (by omega)) ea2 dL_law_663 ?_
  refine lv_aload_n hx hb dL_law_664 rfl (lv_at hl 0 rfl) ?_
  refine lv_iload_n hx hb dL_law_665 rfl (lv_at hl 3 rfl) ?_
  refine lv_iconst (v := 3) hx hb dL_law_666 (by decide) ?_
  refine o_iadd (z := z3) hx hb dL_law_667 ez3 ?_
  refine o_sld (v := a3) hx hb hX hbl hbA h.2 (in_of (by omega) (by omega)) ea3 dL_law_668 ?_
  refine n_Vi (na := 3) (As := [.int a1, .int a2, .int a3]) (rest := []) X hD hN h rfl (c_M_round_ l G cI cB cZ cO ad w1 ok1 a1 a2 a3) ⟨kv_859, kv_860, kv_861, kv_470, kv_862⟩ rfl ⟨by decide, by decide, by decide⟩ ⟨Nat.le_of_ble_eq_true rfl, Nat.le_of_ble_eq_true rfl⟩ ⟨Nat.le_of_ble_eq_true rfl, Nat.le_of_ble_eq_true rfl⟩ (by decide) f64 rfl rfl hl.1 rfl (Nat.le_of_ble_eq_true rfl) dL_law_669 (fun r2 w2 H locs hp2 h => ?_)
  obtain ⟨ok2, kx2, hr2⟩ := hp2
  have rel2 : REL2 cI cB cZ ad w2 := rel1.km ok1 ok2 kx2
  refine lv_pop hx hb dL_law_672 rfl ?_
  refine lv_goto (tgt := 1230) hx hb dL_law_673 (by decide) ?_
  exact hend w2 H locs ok2 rel2 h
