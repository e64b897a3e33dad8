set_option maxHeartbeats 4000000 in
set_option maxRecDepth 100000 in
theorem c_M_ladle (l : Launch) (G : va_G) (cI cB cZ cO : ClassId) (ad : Nat → Nat) (w : Nat → va_E) (F : ∀ k, k < 74 → 64 ≤ k → w k = fr0 cI cB cZ cO ad k) (i j : Int32) : MI l G (tyq cI cB cZ cO) yX9_ladle cX9_ladle 3 (some .int) 2 46 74 ad w [.ref (ad 64), .int i, .int j] (fun r w1 => r = (-2)) := by
  refine mk_i (own := "NoonShadeModel") rfl (by decide) (Nat.le_of_ble_eq_true rfl) ?_
  intro p e s m below meth c ls X hD hN hr hlk h hl
  have hx := X.1.1
  have hb := X.1.2.1
  have hown := X.1.2.2.2.1
  have hts := X.1.2.2.2.2
  have hl : lv_has ls 3 [(0, .ref (ad 64)), (1, .int i), (2, .int j)] := hl
  refine lv_aload_n hx hb dX9_ladle_0 rfl (lv_at hl 0 rfl) ?_
  refine lv_iload_n hx hb dX9_ladle_1 rfl (lv_at hl 1 rfl) ?_
  have f1 : w 64 = .inr (7, [.ref (ad 65), .ref (ad 66), .ref (ad 67), .ref (ad 68), .long 0, .long 1, .ref (ad 69), .int 0, .ref (ad 70), .ref (ad 71), .int 0, .int 0, .int 0, .int 0, .int 0, .ref (ad 72), .ref (ad 73)]) := F 64 (by decide) (by decide)
  have f2 : w 65 = .inl (cI, 177, .inl (fun _ => 0)) := F 65 (by decide) (by decide)
  refine q_Vi (na := 1) (As := [.int i]) (rest := []) X hD hN h rfl (c_M_isCaster l G cI cB cZ cO ad w i f1 f2) ⟨kw_195, kw_196, kw_197, kw_190, kw_198⟩ rfl ⟨by decide, by decide, by decide⟩ ⟨Nat.le_of_ble_eq_true rfl, Nat.le_of_ble_eq_true rfl⟩ ⟨Nat.zero_le _, Nat.zero_le _⟩ (by decide) f1 rfl rfl hl.1 rfl (Nat.le_of_ble_eq_true rfl) dX9_ladle_2 (fun r3 w4 H locs hp5 h => ?_)
  obtain ⟨e6, rfl⟩ := hp5
  refine lv_if_eq (tgt := 16) hx hb dX9_ladle_5 (by decide) (fun _ => ?_) (fun hc => absurd (by decide) hc)
  refine lv_aload_n hx hb dX9_ladle_16 rfl (lv_at hl 0 rfl) ?_
  refine lv_bipush (v := (-2)) hx hb dX9_ladle_17 (by decide) ?_
  have f7 : w4 64 = .inr (7, [.ref (ad 65), .ref (ad 66), .ref (ad 67), .ref (ad 68), .long 0, .long 1, .ref (ad 69), .int 0, .ref (ad 70), .ref (ad 71), .int 0, .int 0, .int 0, .int 0, .int 0, .ref (ad 72), .ref (ad 73)]) := by rw [e6]; exact f1
  have f8 : w 68 = .inl (cI, 3, .inl (fun _ => 0)) := F 68 (by decide) (by decide)
  have f9 : w4 68 = .inl (cI, 3, .inl (fun _ => 0)) := by rw [e6]; exact f8
  refine q_Vi (na := 1) (As := [.int (-2)]) (rest := []) X hD hN h rfl (c_M_bad l G cI cB cZ cO ad w4 (-2) f7 f9) ⟨kw_199, kw_200, kw_201, kw_190, kw_202⟩ rfl ⟨by decide, by decide, by decide⟩ ⟨Nat.le_of_ble_eq_true rfl, Nat.le_of_ble_eq_true rfl⟩ ⟨Nat.zero_le _, Nat.zero_le _⟩ (by decide) f7 rfl rfl hl.1 rfl (Nat.le_of_ble_eq_true rfl) dX9_ladle_19 (fun r10 w11 H locs hp12 h => ?_)
  obtain ⟨rfl, hf13⟩ := hp12
  exact e_i X h hr hlk dX9_ladle_22 rfl

set_option maxHeartbeats 4000000 in
set_option maxRecDepth 100000 in
theorem c_M_pours (l : Launch) (G : va_G) (cI cB cZ cO : ClassId) (ad : Nat → Nat) (w : Nat → va_E) (F : ∀ k, k < 74 → 64 ≤ k → w k = fr0 cI cB cZ cO ad k) (j k : Int32) : MI l G (tyq cI cB cZ cO) yX9_pours cX9_pours 3 (some .int) 2 46 74 ad w [.ref (ad 64), .int j, .int k] (fun r w1 => r = (-2)) := by
  refine mk_i (own := "NoonShadeModel") rfl (by decide) (Nat.le_of_ble_eq_true rfl) ?_
  intro p e s m below meth c ls X hD hN hr hlk h hl
  have hx := X.1.1
  have hb := X.1.2.1
  have hown := X.1.2.2.2.1
  have hts := X.1.2.2.2.2
  have hl : lv_has ls 3 [(0, .ref (ad 64)), (1, .int j), (2, .int k)] := hl
  refine lv_aload_n hx hb dX9_pours_0 rfl (lv_at hl 0 rfl) ?_
  refine lv_iload_n hx hb dX9_pours_1 rfl (lv_at hl 1 rfl) ?_
  have f1 : w 64 = .inr (7, [.ref (ad 65), .ref (ad 66), .ref (ad 67), .ref (ad 68), .long 0, .long 1, .ref (ad 69), .int 0, .ref (ad 70), .ref (ad 71), .int 0, .int 0, .int 0, .int 0, .int 0, .ref (ad 72), .ref (ad 73)]) := F 64 (by decide) (by decide)
  have f2 : w 65 = .inl (cI, 177, .inl (fun _ => 0)) := F 65 (by decide) (by decide)
  refine q_Vi (na := 1) (As := [.int j]) (rest := []) X hD hN h rfl (c_M_isJar l G cI cB cZ cO ad w j f1 f2) ⟨kw_203, kw_204, kw_205, kw_190, kw_206⟩ rfl ⟨by decide, by decide, by decide⟩ ⟨Nat.le_of_ble_eq_true rfl, Nat.le_of_ble_eq_true rfl⟩ ⟨Nat.zero_le _, Nat.zero_le _⟩ (by decide) f1 rfl rfl hl.1 rfl (Nat.le_of_ble_eq_true rfl) dX9_pours_2 (fun r3 w4 H locs hp5 h => ?_)
  obtain ⟨e6, rfl⟩ := hp5
  refine lv_if_eq (tgt := 21) hx hb dX9_pours_5 (by decide) (fun _ => ?_) (fun hc => absurd (by decide) hc)
  refine lv_aload_n hx hb dX9_pours_21 rfl (lv_at hl 0 rfl) ?_
  refine lv_bipush (v := (-2)) hx hb dX9_pours_22 (by decide) ?_
  have f7 : w4 64 = .inr (7, [.ref (ad 65), .ref (ad 66), .ref (ad 67), .ref (ad 68), .long 0, .long 1, .ref (ad 69), .int 0, .ref (ad 70), .ref (ad 71), .int 0, .int 0, .int 0, .int 0, .int 0, .ref (ad 72), .ref (ad 73)]) := by rw [e6]; exact f1
  have f8 : w 68 = .inl (cI, 3, .inl (fun _ => 0)) := F 68 (by decide) (by decide)
  have f9 : w4 68 = .inl (cI, 3, .inl (fun _ => 0)) := by rw [e6]; exact f8
  refine q_Vi (na := 1) (As := [.int (-2)]) (rest := []) X hD hN h rfl (c_M_bad l G cI cB cZ cO ad w4 (-2) f7 f9) ⟨kw_199, kw_200, kw_201, kw_190, kw_202⟩ rfl ⟨by decide, by decide, by decide⟩ ⟨Nat.le_of_ble_eq_true rfl, Nat.le_of_ble_eq_true rfl⟩ ⟨Nat.zero_le _, Nat.zero_le _⟩ (by decide) f7 rfl rfl hl.1 rfl (Nat.le_of_ble_eq_true rfl) dX9_pours_24 (fun r10 w11 H locs hp12 h => ?_)
  obtain ⟨rfl, hf13⟩ := hp12
  exact e_i X h hr hlk dX9_pours_27 rfl

set_option maxHeartbeats 4000000 in
set_option maxRecDepth 100000 in
theorem c_M_sells (l : Launch) (G : va_G) (cI cB cZ cO : ClassId) (ad : Nat → Nat) (w : Nat → va_E) (F : ∀ k, k < 74 → 64 ≤ k → w k = fr0 cI cB cZ cO ad k) (j : Int32) : MI l G (tyq cI cB cZ cO) yX9_sells cX9_sells 4 (some .int) 2 46 74 ad w [.ref (ad 64), .int j] (fun r w1 => r = (-2)) := by
  refine mk_i (own := "NoonShadeModel") rfl (by decide) (Nat.le_of_ble_eq_true rfl) ?_
  intro p e s m below meth c ls X hD hN hr hlk h hl
  have hx := X.1.1
  have hb := X.1.2.1
  have hown := X.1.2.2.2.1
  have hts := X.1.2.2.2.2
  have hl : lv_has ls 4 [(0, .ref (ad 64)), (1, .int j)] := hl
  refine lv_aload_n hx hb dX9_sells_0 rfl (lv_at hl 0 rfl) ?_
  refine lv_iload_n hx hb dX9_sells_1 rfl (lv_at hl 1 rfl) ?_
  have f1 : w 64 = .inr (7, [.ref (ad 65), .ref (ad 66), .ref (ad 67), .ref (ad 68), .long 0, .long 1, .ref (ad 69), .int 0, .ref (ad 70), .ref (ad 71), .int 0, .int 0, .int 0, .int 0, .int 0, .ref (ad 72), .ref (ad 73)]) := F 64 (by decide) (by decide)
  have f2 : w 65 = .inl (cI, 177, .inl (fun _ => 0)) := F 65 (by decide) (by decide)
  refine q_Vi (na := 1) (As := [.int j]) (rest := []) X hD hN h rfl (c_M_isJar l G cI cB cZ cO ad w j f1 f2) ⟨kw_203, kw_204, kw_205, kw_190, kw_206⟩ rfl ⟨by decide, by decide, by decide⟩ ⟨Nat.le_of_ble_eq_true rfl, Nat.le_of_ble_eq_true rfl⟩ ⟨Nat.zero_le _, Nat.zero_le _⟩ (by decide) f1 rfl rfl hl.1 rfl (Nat.le_of_ble_eq_true rfl) dX9_sells_2 (fun r3 w4 H locs hp5 h => ?_)
  obtain ⟨e6, rfl⟩ := hp5
  refine lv_if_ne (tgt := 15) hx hb dX9_sells_5 (by decide) (fun hc => absurd (by decide) hc) (fun _ => ?_)
  refine lv_aload_n hx hb dX9_sells_8 rfl (lv_at hl 0 rfl) ?_
  refine lv_bipush (v := (-2)) hx hb dX9_sells_9 (by decide) ?_
  have f7 : w4 64 = .inr (7, [.ref (ad 65), .ref (ad 66), .ref (ad 67), .ref (ad 68), .long 0, .long 1, .ref (ad 69), .int 0, .ref (ad 70), .ref (ad 71), .int 0, .int 0, .int 0, .int 0, .int 0, .ref (ad 72), .ref (ad 73)]) := by rw [e6]; exact f1
  have f8 : w 68 = .inl (cI, 3, .inl (fun _ => 0)) := F 68 (by decide) (by decide)
  have f9 : w4 68 = .inl (cI, 3, .inl (fun _ => 0)) := by rw [e6]; exact f8
  refine q_Vi (na := 1) (As := [.int (-2)]) (rest := []) X hD hN h rfl (c_M_bad l G cI cB cZ cO ad w4 (-2) f7 f9) ⟨kw_199, kw_200, kw_201, kw_190, kw_202⟩ rfl ⟨by decide, by decide, by decide⟩ ⟨Nat.le_of_ble_eq_true rfl, Nat.le_of_ble_eq_true rfl⟩ ⟨Nat.zero_le _, Nat.zero_le _⟩ (by decide) f7 rfl rfl hl.1 rfl (Nat.le_of_ble_eq_true rfl) dX9_sells_11 (fun r10 w11 H locs hp12 h => ?_)
  obtain ⟨rfl, hf13⟩ := hp12
  exact e_i X h hr hlk dX9_sells_14 rfl

set_option maxHeartbeats 4000000 in
set_option maxRecDepth 100000 in
theorem c_M_of (l : Launch) (G : va_G) (cI cB cZ cO : ClassId) (ad : Nat → Nat) (w : Nat → va_E) (F : ∀ k, k < 74 → 64 ≤ k → w k = fr0 cI cB cZ cO ad k) (i u : Int32) : MI l G (tyq cI cB cZ cO) yX9_of cX9_of 3 (some .int) 2 46 74 ad w [.ref (ad 64), .int i, .int u] (fun r w1 => r = (-2)) := by
  refine mk_i (own := "NoonShadeModel") rfl (by decide) (Nat.le_of_ble_eq_true rfl) ?_
  intro p e s m below meth c ls X hD hN hr hlk h hl
  have hx := X.1.1
  have hb := X.1.2.1
  have hown := X.1.2.2.2.1
  have hts := X.1.2.2.2.2
  have hl : lv_has ls 3 [(0, .ref (ad 64)), (1, .int i), (2, .int u)] := hl
  refine lv_aload_n hx hb dX9_of_0 rfl (lv_at hl 0 rfl) ?_
  refine lv_iload_n hx hb dX9_of_1 rfl (lv_at hl 1 rfl) ?_
  have f1 : w 64 = .inr (7, [.ref (ad 65), .ref (ad 66), .ref (ad 67), .ref (ad 68), .long 0, .long 1, .ref (ad 69), .int 0, .ref (ad 70), .ref (ad 71), .int 0, .int 0, .int 0, .int 0, .int 0, .ref (ad 72), .ref (ad 73)]) := F 64 (by decide) (by decide)
  have f2 : w 65 = .inl (cI, 177, .inl (fun _ => 0)) := F 65 (by decide) (by decide)
  refine q_Vi (na := 1) (As := [.int i]) (rest := []) X hD hN h rfl (c_M_isCaster l G cI cB cZ cO ad w i f1 f2) ⟨kw_195, kw_196, kw_197, kw_190, kw_198⟩ rfl ⟨by decide, by decide, by decide⟩ ⟨Nat.le_of_ble_eq_true rfl, Nat.le_of_ble_eq_true rfl⟩ ⟨Nat.zero_le _, Nat.zero_le _⟩ (by decide) f1 rfl rfl hl.1 rfl (Nat.le_of_ble_eq_true rfl) dX9_of_2 (fun r3 w4 H locs hp5 h => ?_)
  obtain ⟨e6, rfl⟩ := hp5
  refine lv_if_eq (tgt := 29) hx hb dX9_of_5 (by decide) (fun _ => ?_) (fun hc => absurd (by decide) hc)
  refine lv_aload_n hx hb dX9_of_29 rfl (lv_at hl 0 rfl) ?_
  refine lv_bipush (v := (-2)) hx hb dX9_of_30 (by decide) ?_
  have f7 : w4 64 = .inr (7, [.ref (ad 65), .ref (ad 66), .ref (ad 67), .ref (ad 68), .long 0, .long 1, .ref (ad 69), .int 0, .ref (ad 70), .ref (ad 71), .int 0, .int 0, .int 0, .int 0, .int 0, .ref (ad 72), .ref (ad 73)]) := by rw [e6]; exact f1
  have f8 : w 68 = .inl (cI, 3, .inl (fun _ => 0)) := F 68 (by decide) (by decide)
  have f9 : w4 68 = .inl (cI, 3, .inl (fun _ => 0)) := by rw [e6]; exact f8
  refine q_Vi (na := 1) (As := [.int (-2)]) (rest := []) X hD hN h rfl (c_M_bad l G cI cB cZ cO ad w4 (-2) f7 f9) ⟨kw_199, kw_200, kw_201, kw_190, kw_202⟩ rfl ⟨by decide, by decide, by decide⟩ ⟨Nat.le_of_ble_eq_true rfl, Nat.le_of_ble_eq_true rfl⟩ ⟨Nat.zero_le _, Nat.zero_le _⟩ (by decide) f7 rfl rfl hl.1 rfl (Nat.le_of_ble_eq_true rfl) dX9_of_32 (fun r10 w11 H locs hp12 h => ?_)
  obtain ⟨rfl, hf13⟩ := hp12
  exact e_i X h hr hlk dX9_of_35 rfl

set_option maxHeartbeats 4000000 in
set_option maxRecDepth 100000 in
theorem c_M_about (l : Launch) (G : va_G) (cI cB cZ cO : ClassId) (ad : Nat → Nat) (w : Nat → va_E) (F : ∀ k, k < 74 → 64 ≤ k → w k = fr0 cI cB cZ cO ad k) (j u : Int32) : MI l G (tyq cI cB cZ cO) yX9_about cX9_about 3 (some .int) 2 46 74 ad w [.ref (ad 64), .int j, .int u] (fun r w1 => r = (-2)) := by
  refine mk_i (own := "NoonShadeModel") rfl (by decide) (Nat.le_of_ble_eq_true rfl) ?_
  intro p e s m below meth c ls X hD hN hr hlk h hl
  have hx := X.1.1
  have hb := X.1.2.1
  have hown := X.1.2.2.2.1
  have hts := X.1.2.2.2.2
  have hl : lv_has ls 3 [(0, .ref (ad 64)), (1, .int j), (2, .int u)] := hl
  refine lv_aload_n hx hb dX9_about_0 rfl (lv_at hl 0 rfl) ?_
  refine lv_iload_n hx hb dX9_about_1 rfl (lv_at hl 1 rfl) ?_
  have f1 : w 64 = .inr (7, [.ref (ad 65), .ref (ad 66), .ref (ad 67), .ref (ad 68), .long 0, .long 1, .ref (ad 69), .int 0, .ref (ad 70), .ref (ad 71), .int 0, .int 0, .int 0, .int 0, .int 0, .ref (ad 72), .ref (ad 73)]) := F 64 (by decide) (by decide)
  have f2 : w 65 = .inl (cI, 177, .inl (fun _ => 0)) := F 65 (by decide) (by decide)
  refine q_Vi (na := 1) (As := [.int j]) (rest := []) X hD hN h rfl (c_M_isJar l G cI cB cZ cO ad w j f1 f2) ⟨kw_203, kw_204, kw_205, kw_190, kw_206⟩ rfl ⟨by decide, by decide, by decide⟩ ⟨Nat.le_of_ble_eq_true rfl, Nat.le_of_ble_eq_true rfl⟩ ⟨Nat.zero_le _, Nat.zero_le _⟩ (by decide) f1 rfl rfl hl.1 rfl (Nat.le_of_ble_eq_true rfl) dX9_about_2 (fun r3 w4 H locs hp5 h => ?_)
  obtain ⟨e6, rfl⟩ := hp5
  refine lv_if_eq (tgt := 29) hx hb dX9_about_5 (by decide) (fun _ => ?_) (fun hc => absurd (by decide) hc)
  refine lv_aload_n hx hb dX9_about_29 rfl (lv_at hl 0 rfl) ?_
  refine lv_bipush (v := (-2)) hx hb dX9_about_30 (by decide) ?_
  have f7 : w4 64 = .inr (7, [.ref (ad 65), .ref (ad 66), .ref (ad 67), .ref (ad 68), .long 0, .long 1, .ref (ad 69), .int 0, .ref (ad 70), .ref (ad 71), .int 0, .int 0, .int 0, .int 0, .int 0, .ref (ad 72), .ref (ad 73)]) := by rw [e6]; exact f1
  have f8 : w 68 = .inl (cI, 3, .inl (fun _ => 0)) := F 68 (by decide) (by decide)
  have f9 : w4 68 = .inl (cI, 3, .inl (fun _ => 0)) := by rw [e6]; exact f8
  refine q_Vi (na := 1) (As := [.int (-2)]) (rest := []) X hD hN h rfl (c_M_bad l G cI cB cZ cO ad w4 (-2) f7 f9) ⟨kw_199, kw_200, kw_201, kw_190, kw_202⟩ rfl ⟨by decide, by decide, by decide⟩ ⟨Nat.le_of_ble_eq_true rfl, Nat.le_of_ble_eq_true rfl⟩ ⟨Nat.zero_le _, Nat.zero_le _⟩ (by decide) f7 rfl rfl hl.1 rfl (Nat.le_of_ble_eq_true rfl) dX9_about_32 (fun r10 w11 H locs hp12 h => ?_)
  obtain ⟨rfl, hf13⟩ := hp12
  exact e_i X h hr hlk dX9_about_35 rfl

set_option maxHeartbeats 4000000 in
set_option maxRecDepth 100000 in
theorem c_M_gives (l : Launch) (G : va_G) (cI cB cZ cO : ClassId) (ad : Nat → Nat) (w : Nat → va_E) (F : ∀ k, k < 74 → 64 ≤ k → w k = fr0 cI cB cZ cO ad k) (i u : Int32) : MI l G (tyq cI cB cZ cO) yX9_gives cX9_gives 3 (some .int) 2 46 74 ad w [.ref (ad 64), .int i, .int u] (fun r w1 => r = (-2)) := by
  refine mk_i (own := "NoonShadeModel") rfl (by decide) (Nat.le_of_ble_eq_true rfl) ?_
  intro p e s m below meth c ls X hD hN hr hlk h hl
  have hx := X.1.1
  have hb := X.1.2.1
  have hown := X.1.2.2.2.1
  have hts := X.1.2.2.2.2
  have hl : lv_has ls 3 [(0, .ref (ad 64)), (1, .int i), (2, .int u)] := hl
  refine lv_aload_n hx hb dX9_gives_0 rfl (lv_at hl 0 rfl) ?_
  refine lv_iload_n hx hb dX9_gives_1 rfl (lv_at hl 1 rfl) ?_
  have f1 : w 64 = .inr (7, [.ref (ad 65), .ref (ad 66), .ref (ad 67), .ref (ad 68), .long 0, .long 1, .ref (ad 69), .int 0, .ref (ad 70), .ref (ad 71), .int 0, .int 0, .int 0, .int 0, .int 0, .ref (ad 72), .ref (ad 73)]) := F 64 (by decide) (by decide)
  have f2 : w 65 = .inl (cI, 177, .inl (fun _ => 0)) := F 65 (by decide) (by decide)
  refine q_Vi (na := 1) (As := [.int i]) (rest := []) X hD hN h rfl (c_M_isCaster l G cI cB cZ cO ad w i f1 f2) ⟨kw_195, kw_196, kw_197, kw_190, kw_198⟩ rfl ⟨by decide, by decide, by decide⟩ ⟨Nat.le_of_ble_eq_true rfl, Nat.le_of_ble_eq_true rfl⟩ ⟨Nat.zero_le _, Nat.zero_le _⟩ (by decide) f1 rfl rfl hl.1 rfl (Nat.le_of_ble_eq_true rfl) dX9_gives_2 (fun r3 w4 H locs hp5 h => ?_)
  obtain ⟨e6, rfl⟩ := hp5
  refine lv_if_eq (tgt := 32) hx hb dX9_gives_5 (by decide) (fun _ => ?_) (fun hc => absurd (by decide) hc)
  refine lv_aload_n hx hb dX9_gives_32 rfl (lv_at hl 0 rfl) ?_
  refine lv_bipush (v := (-2)) hx hb dX9_gives_33 (by decide) ?_
  have f7 : w4 64 = .inr (7, [.ref (ad 65), .ref (ad 66), .ref (ad 67), .ref (ad 68), .long 0, .long 1, .ref (ad 69), .int 0, .ref (ad 70), .ref (ad 71), .int 0, .int 0, .int 0, .int 0, .int 0, .ref (ad 72), .ref (ad 73)]) := by rw [e6]; exact f1
  have f8 : w 68 = .inl (cI, 3, .inl (fun _ => 0)) := F 68 (by decide) (by decide)
  have f9 : w4 68 = .inl (cI, 3, .inl (fun _ => 0)) := by rw [e6]; exact f8
  refine q_Vi (na := 1) (As := [.int (-2)]) (rest := []) X hD hN h rfl (c_M_bad l G cI cB cZ cO ad w4 (-2) f7 f9) ⟨kw_199, kw_200, kw_201, kw_190, kw_202⟩ rfl ⟨by decide, by decide, by decide⟩ ⟨Nat.le_of_ble_eq_true rfl, Nat.le_of_ble_eq_true rfl⟩ ⟨Nat.zero_le _, Nat.zero_le _⟩ (by decide) f7 rfl rfl hl.1 rfl (Nat.le_of_ble_eq_true rfl) dX9_gives_35 (fun r10 w11 H locs hp12 h => ?_)
  obtain ⟨rfl, hf13⟩ := hp12
  exact e_i X h hr hlk dX9_gives_38 rfl

set_option maxHeartbeats 4000000 in
set_option maxRecDepth 100000 in
theorem c_M_keeps (l : Launch) (G : va_G) (cI cB cZ cO : ClassId) (ad : Nat → Nat) (w : Nat → va_E) (F : ∀ k, k < 74 → 64 ≤ k → w k = fr0 cI cB cZ cO ad k) (j u : Int32) : MI l G (tyq cI cB cZ cO) yX9_keeps cX9_keeps 4 (some .int) 2 46 74 ad w [.ref (ad 64), .int j, .int u] (fun r w1 => r = (-2)) := by
  refine mk_i (own := "NoonShadeModel") rfl (by decide) (Nat.le_of_ble_eq_true rfl) ?_
  intro p e s m below meth c ls X hD hN hr hlk h hl
  have hx := X.1.1
  have hb := X.1.2.1
  have hown := X.1.2.2.2.1
  have hts := X.1.2.2.2.2
  have hl : lv_has ls 4 [(0, .ref (ad 64)), (1, .int j), (2, .int u)] := hl
  refine lv_aload_n hx hb dX9_keeps_0 rfl (lv_at hl 0 rfl) ?_
  refine lv_iload_n hx hb dX9_keeps_1 rfl (lv_at hl 1 rfl) ?_
  have f1 : w 64 = .inr (7, [.ref (ad 65), .ref (ad 66), .ref (ad 67), .ref (ad 68), .long 0, .long 1, .ref (ad 69), .int 0, .ref (ad 70), .ref (ad 71), .int 0, .int 0, .int 0, .int 0, .int 0, .ref (ad 72), .ref (ad 73)]) := F 64 (by decide) (by decide)
  have f2 : w 65 = .inl (cI, 177, .inl (fun _ => 0)) := F 65 (by decide) (by decide)
  refine q_Vi (na := 1) (As := [.int j]) (rest := []) X hD hN h rfl (c_M_isJar l G cI cB cZ cO ad w j f1 f2) ⟨kw_203, kw_204, kw_205, kw_190, kw_206⟩ rfl ⟨by decide, by decide, by decide⟩ ⟨Nat.le_of_ble_eq_true rfl, Nat.le_of_ble_eq_true rfl⟩ ⟨Nat.zero_le _, Nat.zero_le _⟩ (by decide) f1 rfl rfl hl.1 rfl (Nat.le_of_ble_eq_true rfl) dX9_keeps_2 (fun r3 w4 H locs hp5 h => ?_)
  obtain ⟨e6, rfl⟩ := hp5
  refine lv_if_eq (tgt := 20) hx hb dX9_keeps_5 (by decide) (fun _ => ?_) (fun hc => absurd (by decide) hc)
  refine lv_aload_n hx hb dX9_keeps_20 rfl (lv_at hl 0 rfl) ?_
  refine lv_bipush (v := (-2)) hx hb dX9_keeps_21 (by decide) ?_
  have f7 : w4 64 = .inr (7, [.ref (ad 65), .ref (ad 66), .ref (ad 67), .ref (ad 68), .long 0, .long 1, .ref (ad 69), .int 0, .ref (ad 70), .ref (ad 71), .int 0, .int 0, .int 0, .int 0, .int 0, .ref (ad 72), .ref (ad 73)]) := by rw [e6]; exact f1
  have f8 : w 68 = .inl (cI, 3, .inl (fun _ => 0)) := F 68 (by decide) (by decide)
  have f9 : w4 68 = .inl (cI, 3, .inl (fun _ => 0)) := by rw [e6]; exact f8
  refine q_Vi (na := 1) (As := [.int (-2)]) (rest := []) X hD hN h rfl (c_M_bad l G cI cB cZ cO ad w4 (-2) f7 f9) ⟨kw_199, kw_200, kw_201, kw_190, kw_202⟩ rfl ⟨by decide, by decide, by decide⟩ ⟨Nat.le_of_ble_eq_true rfl, Nat.le_of_ble_eq_true rfl⟩ ⟨Nat.zero_le _, Nat.zero_le _⟩ (by decide) f7 rfl rfl hl.1 rfl (Nat.le_of_ble_eq_true rfl) dX9_keeps_23 (fun r10 w11 H locs hp12 h => ?_)
  obtain ⟨rfl, hf13⟩ := hp12
  exact e_i X h hr hlk dX9_keeps_26 rfl

set_option maxHeartbeats 4000000 in
set_option maxRecDepth 100000 in
theorem c_M_when (l : Launch) (G : va_G) (cI cB cZ cO : ClassId) (ad : Nat → Nat) (w : Nat → va_E) (F : ∀ k, k < 74 → 64 ≤ k → w k = fr0 cI cB cZ cO ad k) (i : Int32) : MI l G (tyq cI cB cZ cO) yX9_when cX9_when 4 (some .int) 2 46 74 ad w [.ref (ad 64), .int i] (fun r w1 => r = (-2)) := by
  refine mk_i (own := "NoonShadeModel") rfl (by decide) (Nat.le_of_ble_eq_true rfl) ?_
  intro p e s m below meth c ls X hD hN hr hlk h hl
  have hx := X.1.1
  have hb := X.1.2.1
  have hown := X.1.2.2.2.1
  have hts := X.1.2.2.2.2
  have hl : lv_has ls 4 [(0, .ref (ad 64)), (1, .int i)] := hl
  refine lv_aload_n hx hb dX9_when_0 rfl (lv_at hl 0 rfl) ?_
  refine lv_iload_n hx hb dX9_when_1 rfl (lv_at hl 1 rfl) ?_
  have f1 : w 64 = .inr (7, [.ref (ad 65), .ref (ad 66), .ref (ad 67), .ref (ad 68), .long 0, .long 1, .ref (ad 69), .int 0, .ref (ad 70), .ref (ad 71), .int 0, .int 0, .int 0, .int 0, .int 0, .ref (ad 72), .ref (ad 73)]) := F 64 (by decide) (by decide)
  have f2 : w 65 = .inl (cI, 177, .inl (fun _ => 0)) := F 65 (by decide) (by decide)
  refine q_Vi (na := 1) (As := [.int i]) (rest := []) X hD hN h rfl (c_M_isCaster l G cI cB cZ cO ad w i f1 f2) ⟨kw_195, kw_196, kw_197, kw_190, kw_198⟩ rfl ⟨by decide, by decide, by decide⟩ ⟨Nat.le_of_ble_eq_true rfl, Nat.le_of_ble_eq_true rfl⟩ ⟨Nat.zero_le _, Nat.zero_le _⟩ (by decide) f1 rfl rfl hl.1 rfl (Nat.le_of_ble_eq_true rfl) dX9_when_2 (fun r3 w4 H locs hp5 h => ?_)
  obtain ⟨e6, rfl⟩ := hp5
  refine lv_if_ne (tgt := 15) hx hb dX9_when_5 (by decide) (fun hc => absurd (by decide) hc) (fun _ => ?_)
  refine lv_aload_n hx hb dX9_when_8 rfl (lv_at hl 0 rfl) ?_
  refine lv_bipush (v := (-2)) hx hb dX9_when_9 (by decide) ?_
  have f7 : w4 64 = .inr (7, [.ref (ad 65), .ref (ad 66), .ref (ad 67), .ref (ad 68), .long 0, .long 1, .ref (ad 69), .int 0, .ref (ad 70), .ref (ad 71), .int 0, .int 0, .int 0, .int 0, .int 0, .ref (ad 72), .ref (ad 73)]) := by rw [e6]; exact f1
  have f8 : w 68 = .inl (cI, 3, .inl (fun _ => 0)) := F 68 (by decide) (by decide)
  have f9 : w4 68 = .inl (cI, 3, .inl (fun _ => 0)) := by rw [e6]; exact f8
  refine q_Vi (na := 1) (As := [.int (-2)]) (rest := []) X hD hN h rfl (c_M_bad l G cI cB cZ cO ad w4 (-2) f7 f9) ⟨kw_199, kw_200, kw_201, kw_190, kw_202⟩ rfl ⟨by decide, by decide, by decide⟩ ⟨Nat.le_of_ble_eq_true rfl, Nat.le_of_ble_eq_true rfl⟩ ⟨Nat.zero_le _, Nat.zero_le _⟩ (by decide) f7 rfl rfl hl.1 rfl (Nat.le_of_ble_eq_true rfl) dX9_when_11 (fun r10 w11 H locs hp12 h => ?_)
  obtain ⟨rfl, hf13⟩ := hp12
  exact e_i X h hr hlk dX9_when_14 rfl

set_option maxHeartbeats 4000000 in
set_option maxRecDepth 100000 in
theorem c_M_gone (l : Launch) (G : va_G) (cI cB cZ cO : ClassId) (ad : Nat → Nat) (w : Nat → va_E) (F : ∀ k, k < 74 → 64 ≤ k → w k = fr0 cI cB cZ cO ad k) (j : Int32) : MI l G (tyq cI cB cZ cO) yX9_gone cX9_gone 3 (some .int) 2 46 74 ad w [.ref (ad 64), .int j] (fun r w1 => r = (-2)) := by
  refine mk_i (own := "NoonShadeModel") rfl (by decide) (Nat.le_of_ble_eq_true rfl) ?_
  intro p e s m below meth c ls X hD hN hr hlk h hl
  have hx := X.1.1
  have hb := X.1.2.1
  have hown := X.1.2.2.2.1
  have hts := X.1.2.2.2.2
  have hl : lv_has ls 3 [(0, .ref (ad 64)), (1, .int j)] := hl
  refine lv_aload_n hx hb dX9_gone_0 rfl (lv_at hl 0 rfl) ?_
  refine lv_iload_n hx hb dX9_gone_1 rfl (lv_at hl 1 rfl) ?_
  have f1 : w 64 = .inr (7, [.ref (ad 65), .ref (ad 66), .ref (ad 67), .ref (ad 68), .long 0, .long 1, .ref (ad 69), .int 0, .ref (ad 70), .ref (ad 71), .int 0, .int 0, .int 0, .int 0, .int 0, .ref (ad 72), .ref (ad 73)]) := F 64 (by decide) (by decide)
  have f2 : w 65 = .inl (cI, 177, .inl (fun _ => 0)) := F 65 (by decide) (by decide)
  refine q_Vi (na := 1) (As := [.int j]) (rest := []) X hD hN h rfl (c_M_isJar l G cI cB cZ cO ad w j f1 f2) ⟨kw_203, kw_204, kw_205, kw_190, kw_206⟩ rfl ⟨by decide, by decide, by decide⟩ ⟨Nat.le_of_ble_eq_true rfl, Nat.le_of_ble_eq_true rfl⟩ ⟨Nat.zero_le _, Nat.zero_le _⟩ (by decide) f1 rfl rfl hl.1 rfl (Nat.le_of_ble_eq_true rfl) dX9_gone_2 (fun r3 w4 H locs hp5 h => ?_)
  obtain ⟨e6, rfl⟩ := hp5
  refine lv_if_ne (tgt := 15) hx hb dX9_gone_5 (by decide) (fun hc => absurd (by decide) hc) (fun _ => ?_)
  refine lv_aload_n hx hb dX9_gone_8 rfl (lv_at hl 0 rfl) ?_
  refine lv_bipush (v := (-2)) hx hb dX9_gone_9 (by decide) ?_
  have f7 : w4 64 = .inr (7, [.ref (ad 65), .ref (ad 66), .ref (ad 67), .ref (ad 68), .long 0, .long 1, .ref (ad 69), .int 0, .ref (ad 70), .ref (ad 71), .int 0, .int 0, .int 0, .int 0, .int 0, .ref (ad 72), .ref (ad 73)]) := by rw [e6]; exact f1
  have f8 : w 68 = .inl (cI, 3, .inl (fun _ => 0)) := F 68 (by decide) (by decide)
  have f9 : w4 68 = .inl (cI, 3, .inl (fun _ => 0)) := by rw [e6]; exact f8
  refine q_Vi (na := 1) (As := [.int (-2)]) (rest := []) X hD hN h rfl (c_M_bad l G cI cB cZ cO ad w4 (-2) f7 f9) ⟨kw_199, kw_200, kw_201, kw_190, kw_202⟩ rfl ⟨by decide, by decide, by decide⟩ ⟨Nat.le_of_ble_eq_true rfl, Nat.le_of_ble_eq_true rfl⟩ ⟨Nat.zero_le _, Nat.zero_le _⟩ (by decide) f7 rfl rfl hl.1 rfl (Nat.le_of_ble_eq_true rfl) dX9_gone_11 (fun r10 w11 H locs hp12 h => ?_)
  obtain ⟨rfl, hf13⟩ := hp12
  exact e_i X h hr hlk dX9_gone_14 rfl

set_option maxHeartbeats 4000000 in
set_option maxRecDepth 100000 in
theorem c_M_round (l : Launch) (G : va_G) (cI cB cZ cO : ClassId) (ad : Nat → Nat) (w : Nat → va_E) (F : ∀ k, k < 74 → 64 ≤ k → w k = fr0 cI cB cZ cO ad k) (j n k : Int32) : MI l G (tyq cI cB cZ cO) yX9_round cX9_round 6 (some .int) 2 46 74 ad w [.ref (ad 64), .int j, .int n, .int k] (fun r w1 => r = (-10)) := by
  refine mk_i (own := "NoonShadeModel") rfl (by decide) (Nat.le_of_ble_eq_true rfl) ?_
  intro p e s m below meth c ls X hD hN hr hlk h hl
  have hx := X.1.1
  have hb := X.1.2.1
  have hown := X.1.2.2.2.1
  have hts := X.1.2.2.2.2
  have hl : lv_has ls 6 [(0, .ref (ad 64)), (1, .int j), (2, .int n), (3, .int k)] := hl
  refine lv_aload_n hx hb dX9_round_0 rfl (lv_at hl 0 rfl) ?_
  refine lv_iload_n hx hb dX9_round_1 rfl (lv_at hl 1 rfl) ?_
  have f1 : w 64 = .inr (7, [.ref (ad 65), .ref (ad 66), .ref (ad 67), .ref (ad 68), .long 0, .long 1, .ref (ad 69), .int 0, .ref (ad 70), .ref (ad 71), .int 0, .int 0, .int 0, .int 0, .int 0, .ref (ad 72), .ref (ad 73)]) := F 64 (by decide) (by decide)
  have f2 : w 65 = .inl (cI, 177, .inl (fun _ => 0)) := F 65 (by decide) (by decide)
  refine q_Vi (na := 1) (As := [.int j]) (rest := []) X hD hN h rfl (c_M_isJar l G cI cB cZ cO ad w j f1 f2) ⟨kw_203, kw_204, kw_205, kw_190, kw_206⟩ rfl ⟨by decide, by decide, by decide⟩ ⟨Nat.le_of_ble_eq_true rfl, Nat.le_of_ble_eq_true rfl⟩ ⟨Nat.zero_le _, Nat.zero_le _⟩ (by decide) f1 rfl rfl hl.1 rfl (Nat.le_of_ble_eq_true rfl) dX9_round_2 (fun r3 w4 H locs hp5 h => ?_)
  obtain ⟨e6, rfl⟩ := hp5
  refine lv_if_eq (tgt := 30) hx hb dX9_round_5 (by decide) (fun _ => ?_) (fun hc => absurd (by decide) hc)
  refine lv_aload_n hx hb dX9_round_30 rfl (lv_at hl 0 rfl) ?_
  refine lv_bipush (v := (-10)) hx hb dX9_round_31 (by decide) ?_
  have f7 : w4 64 = .inr (7, [.ref (ad 65), .ref (ad 66), .ref (ad 67), .ref (ad 68), .long 0, .long 1, .ref (ad 69), .int 0, .ref (ad 70), .ref (ad 71), .int 0, .int 0, .int 0, .int 0, .int 0, .ref (ad 72), .ref (ad 73)]) := by rw [e6]; exact f1
  have f8 : w 68 = .inl (cI, 3, .inl (fun _ => 0)) := F 68 (by decide) (by decide)
  have f9 : w4 68 = .inl (cI, 3, .inl (fun _ => 0)) := by rw [e6]; exact f8
  refine q_Vi (na := 1) (As := [.int (-10)]) (rest := []) X hD hN h rfl (c_M_bad l G cI cB cZ cO ad w4 (-10) f7 f9) ⟨kw_199, kw_200, kw_201, kw_190, kw_202⟩ rfl ⟨by decide, by decide, by decide⟩ ⟨Nat.le_of_ble_eq_true rfl, Nat.le_of_ble_eq_true rfl⟩ ⟨Nat.zero_le _, Nat.zero_le _⟩ (by decide) f7 rfl rfl hl.1 rfl (Nat.le_of_ble_eq_true rfl) dX9_round_33 (fun r10 w11 H locs hp12 h => ?_)
  obtain ⟨rfl, hf13⟩ := hp12
  exact e_i X h hr hlk dX9_round_36 rfl

set_option maxHeartbeats 4000000 in
set_option maxRecDepth 100000 in
theorem c_M_few (l : Launch) (G : va_G) (cI cB cZ cO : ClassId) (ad : Nat → Nat) (w : Nat → va_E) (F : ∀ k, k < 74 → 64 ≤ k → w k = fr0 cI cB cZ cO ad k) (j t x u : Int32) : MI l G (tyq cI cB cZ cO) yX9_few cX9_few 9 (some .int) 2 46 74 ad w [.ref (ad 64), .int j, .int t, .int x, .int u] (fun r w1 => r = (-2)) := by
  refine mk_i (own := "NoonShadeModel") rfl (by decide) (Nat.le_of_ble_eq_true rfl) ?_
  intro p e s m below meth c ls X hD hN hr hlk h hl
  have hx := X.1.1
  have hb := X.1.2.1
  have hown := X.1.2.2.2.1
  have hts := X.1.2.2.2.2
  have hl : lv_has ls 9 [(0, .ref (ad 64)), (1, .int j), (2, .int t), (3, .int x), (4, .int u)] := hl
  refine lv_aload_n hx hb dX9_few_0 rfl (lv_at hl 0 rfl) ?_
  refine lv_iload_n hx hb dX9_few_1 rfl (lv_at hl 1 rfl) ?_
  have f1 : w 64 = .inr (7, [.ref (ad 65), .ref (ad 66), .ref (ad 67), .ref (ad 68), .long 0, .long 1, .ref (ad 69), .int 0, .ref (ad 70), .ref (ad 71), .int 0, .int 0, .int 0, .int 0, .int 0, .ref (ad 72), .ref (ad 73)]) := F 64 (by decide) (by decide)
  have f2 : w 65 = .inl (cI, 177, .inl (fun _ => 0)) := F 65 (by decide) (by decide)
  refine q_Vi (na := 1) (As := [.int j]) (rest := []) X hD hN h rfl (c_M_isJar l G cI cB cZ cO ad w j f1 f2) ⟨kw_203, kw_204, kw_205, kw_190, kw_206⟩ rfl ⟨by decide, by decide, by decide⟩ ⟨Nat.le_of_ble_eq_true rfl, Nat.le_of_ble_eq_true rfl⟩ ⟨Nat.zero_le _, Nat.zero_le _⟩ (by decide) f1 rfl rfl hl.1 rfl (Nat.le_of_ble_eq_true rfl) dX9_few_2 (fun r3 w4 H locs hp5 h => ?_)
  obtain ⟨e6, rfl⟩ := hp5
  refine lv_if_eq (tgt := 38) hx hb dX9_few_5 (by decide) (fun _ => ?_) (fun hc => absurd (by decide) hc)
  refine lv_aload_n hx hb dX9_few_38 rfl (lv_at hl 0 rfl) ?_
  refine lv_bipush (v := (-2)) hx hb dX9_few_39 (by decide) ?_
  have f7 : w4 64 = .inr (7, [.ref (ad 65), .ref (ad 66), .ref (ad 67), .ref (ad 68), .long 0, .long 1, .ref (ad 69), .int 0, .ref (ad 70), .ref (ad 71), .int 0, .int 0, .int 0, .int 0, .int 0, .ref (ad 72), .ref (ad 73)]) := by rw [e6]; exact f1
  have f8 : w 68 = .inl (cI, 3, .inl (fun _ => 0)) := F 68 (by decide) (by decide)
  have f9 : w4 68 = .inl (cI, 3, .inl (fun _ => 0)) := by rw [e6]; exact f8
  refine q_Vi (na := 1) (As := [.int (-2)]) (rest := []) X hD hN h rfl (c_M_bad l G cI cB cZ cO ad w4 (-2) f7 f9) ⟨kw_199, kw_200, kw_201, kw_190, kw_202⟩ rfl ⟨by decide, by decide, by decide⟩ ⟨Nat.le_of_ble_eq_true rfl, Nat.le_of_ble_eq_true rfl⟩ ⟨Nat.zero_le _, Nat.zero_le _⟩ (by decide) f7 rfl rfl hl.1 rfl (Nat.le_of_ble_eq_true rfl) dX9_few_41 (fun r10 w11 H locs hp12 h => ?_)
  obtain ⟨rfl, hf13⟩ := hp12
  exact e_i X h hr hlk dX9_few_44 rfl

set_option maxHeartbeats 4000000 in
set_option maxRecDepth 100000 in
theorem c_M_into (l : Launch) (G : va_G) (cI cB cZ cO : ClassId) (ad : Nat → Nat) (w : Nat → va_E) (F : ∀ k, k < 74 → 64 ≤ k → w k = fr0 cI cB cZ cO ad k) (j u x : Int32) : MI l G (tyq cI cB cZ cO) yX9_into cX9_into 9 (some .int) 2 46 74 ad w [.ref (ad 64), .int j, .int u, .int x] (fun r w1 => r = (-2)) := by
  refine mk_i (own := "NoonShadeModel") rfl (by decide) (Nat.le_of_ble_eq_true rfl) ?_
  intro p e s m below meth c ls X hD hN hr hlk h hl
  have hx := X.1.1
  have hb := X.1.2.1
  have hown := X.1.2.2.2.1
  have hts := X.1.2.2.2.2
  have hl : lv_has ls 9 [(0, .ref (ad 64)), (1, .int j), (2, .int u), (3, .int x)] := hl
  refine lv_aload_n hx hb dX9_into_0 rfl (lv_at hl 0 rfl) ?_
  refine lv_iload_n hx hb dX9_into_1 rfl (lv_at hl 1 rfl) ?_
  have f1 : w 64 = .inr (7, [.ref (ad 65), .ref (ad 66), .ref (ad 67), .ref (ad 68), .long 0, .long 1, .ref (ad 69), .int 0, .ref (ad 70), .ref (ad 71), .int 0, .int 0, .int 0, .int 0, .int 0, .ref (ad 72), .ref (ad 73)]) := F 64 (by decide) (by decide)
  have f2 : w 65 = .inl (cI, 177, .inl (fun _ => 0)) := F 65 (by decide) (by decide)
  refine q_Vi (na := 1) (As := [.int j]) (rest := []) X hD hN h rfl (c_M_isJar l G cI cB cZ cO ad w j f1 f2) ⟨kw_203, kw_204, kw_205, kw_190, kw_206⟩ rfl ⟨by decide, by decide, by decide⟩ ⟨Nat.le_of_ble_eq_true rfl, Nat.le_of_ble_eq_true rfl⟩ ⟨Nat.zero_le _, Nat.zero_le _⟩ (by decide) f1 rfl rfl hl.1 rfl (Nat.le_of_ble_eq_true rfl) dX9_into_2 (fun r3 w4 H locs hp5 h => ?_)
  obtain ⟨e6, rfl⟩ := hp5
  refine lv_if_eq (tgt := 30) hx hb dX9_into_5 (by decide) (fun _ => ?_) (fun hc => absurd (by decide) hc)
  refine lv_aload_n hx hb dX9_into_30 rfl (lv_at hl 0 rfl) ?_
  refine lv_bipush (v := (-2)) hx hb dX9_into_31 (by decide) ?_
  have f7 : w4 64 = .inr (7, [.ref (ad 65), .ref (ad 66), .ref (ad 67), .ref (ad 68), .long 0, .long 1, .ref (ad 69), .int 0, .ref (ad 70), .ref (ad 71), .int 0, .int 0, .int 0, .int 0, .int 0, .ref (ad 72), .ref (ad 73)]) := by rw [e6]; exact f1
  have f8 : w 68 = .inl (cI, 3, .inl (fun _ => 0)) := F 68 (by decide) (by decide)
  have f9 : w4 68 = .inl (cI, 3, .inl (fun _ => 0)) := by rw [e6]; exact f8
  refine q_Vi (na := 1) (As := [.int (-2)]) (rest := []) X hD hN h rfl (c_M_bad l G cI cB cZ cO ad w4 (-2) f7 f9) ⟨kw_199, kw_200, kw_201, kw_190, kw_202⟩ rfl ⟨by decide, by decide, by decide⟩ ⟨Nat.le_of_ble_eq_true rfl, Nat.le_of_ble_eq_true rfl⟩ ⟨Nat.zero_le _, Nat.zero_le _⟩ (by decide) f7 rfl rfl hl.1 rfl (Nat.le_of_ble_eq_true rfl) dX9_into_33 (fun r10 w11 H locs hp12 h => ?_)
  obtain ⟨rfl, hf13⟩ := hp12
  exact e_i X h hr hlk dX9_into_36 rfl

set_option maxHeartbeats 4000000 in
set_option maxRecDepth 100000 in
theorem c_M_note (l : Launch) (G : va_G) (cI cB cZ cO : ClassId) (ad : Nat → Nat) (w : Nat → va_E) (F : ∀ k, k < 74 → 64 ≤ k → w k = fr0 cI cB cZ cO ad k) (i u t x : Int32) : MI l G (tyq cI cB cZ cO) yX9_note cX9_note 5 (some .int) 2 46 74 ad w [.ref (ad 64), .int i, .int u, .int t, .int x] (fun r w1 => r = (-2)) := by
  refine mk_i (own := "NoonShadeModel") rfl (by decide) (Nat.le_of_ble_eq_true rfl) ?_
  intro p e s m below meth c ls X hD hN hr hlk h hl
  have hx := X.1.1
  have hb := X.1.2.1
  have hown := X.1.2.2.2.1
  have hts := X.1.2.2.2.2
  have hl : lv_has ls 5 [(0, .ref (ad 64)), (1, .int i), (2, .int u), (3, .int t), (4, .int x)] := hl
  refine lv_aload_n hx hb dX9_note_0 rfl (lv_at hl 0 rfl) ?_
  refine lv_iload_n hx hb dX9_note_1 rfl (lv_at hl 1 rfl) ?_
  have f1 : w 64 = .inr (7, [.ref (ad 65), .ref (ad 66), .ref (ad 67), .ref (ad 68), .long 0, .long 1, .ref (ad 69), .int 0, .ref (ad 70), .ref (ad 71), .int 0, .int 0, .int 0, .int 0, .int 0, .ref (ad 72), .ref (ad 73)]) := F 64 (by decide) (by decide)
  have f2 : w 65 = .inl (cI, 177, .inl (fun _ => 0)) := F 65 (by decide) (by decide)
  refine q_Vi (na := 1) (As := [.int i]) (rest := []) X hD hN h rfl (c_M_isCaster l G cI cB cZ cO ad w i f1 f2) ⟨kw_195, kw_196, kw_197, kw_190, kw_198⟩ rfl ⟨by decide, by decide, by decide⟩ ⟨Nat.le_of_ble_eq_true rfl, Nat.le_of_ble_eq_true rfl⟩ ⟨Nat.zero_le _, Nat.zero_le _⟩ (by decide) f1 rfl rfl hl.1 rfl (Nat.le_of_ble_eq_true rfl) dX9_note_2 (fun r3 w4 H locs hp5 h => ?_)
  obtain ⟨e6, rfl⟩ := hp5
  refine lv_if_eq (tgt := 35) hx hb dX9_note_5 (by decide) (fun _ => ?_) (fun hc => absurd (by decide) hc)
  refine lv_aload_n hx hb dX9_note_35 rfl (lv_at hl 0 rfl) ?_
  refine lv_bipush (v := (-2)) hx hb dX9_note_36 (by decide) ?_
  have f7 : w4 64 = .inr (7, [.ref (ad 65), .ref (ad 66), .ref (ad 67), .ref (ad 68), .long 0, .long 1, .ref (ad 69), .int 0, .ref (ad 70), .ref (ad 71), .int 0, .int 0, .int 0, .int 0, .int 0, .ref (ad 72), .ref (ad 73)]) := by rw [e6]; exact f1
  have f8 : w 68 = .inl (cI, 3, .inl (fun _ => 0)) := F 68 (by decide) (by decide)
  have f9 : w4 68 = .inl (cI, 3, .inl (fun _ => 0)) := by rw [e6]; exact f8
  refine q_Vi (na := 1) (As := [.int (-2)]) (rest := []) X hD hN h rfl (c_M_bad l G cI cB cZ cO ad w4 (-2) f7 f9) ⟨kw_199, kw_200, kw_201, kw_190, kw_202⟩ rfl ⟨by decide, by decide, by decide⟩ ⟨Nat.le_of_ble_eq_true rfl, Nat.le_of_ble_eq_true rfl⟩ ⟨Nat.zero_le _, Nat.zero_le _⟩ (by decide) f7 rfl rfl hl.1 rfl (Nat.le_of_ble_eq_true rfl) dX9_note_38 (fun r10 w11 H locs hp12 h => ?_)
  obtain ⟨rfl, hf13⟩ := hp12
  exact e_i X h hr hlk dX9_note_41 rfl

set_option maxHeartbeats 4000000 in
set_option maxRecDepth 100000 in
theorem c_M_mark (l : Launch) (G : va_G) (cI cB cZ cO : ClassId) (ad : Nat → Nat) (w : Nat → va_E) (F : ∀ k, k < 74 → 64 ≤ k → w k = fr0 cI cB cZ cO ad k) (j u t x : Int32) : MI l G (tyq cI cB cZ cO) yX9_mark cX9_mark 5 (some .int) 2 46 74 ad w [.ref (ad 64), .int j, .int u, .int t, .int x] (fun r w1 => r = (-2)) := by
  refine mk_i (own := "NoonShadeModel") rfl (by decide) (Nat.le_of_ble_eq_true rfl) ?_
  intro p e s m below meth c ls X hD hN hr hlk h hl
  have hx := X.1.1
  have hb := X.1.2.1
  have hown := X.1.2.2.2.1
  have hts := X.1.2.2.2.2
  have hl : lv_has ls 5 [(0, .ref (ad 64)), (1, .int j), (2, .int u), (3, .int t), (4, .int x)] := hl
  refine lv_aload_n hx hb dX9_mark_0 rfl (lv_at hl 0 rfl) ?_
  refine lv_iload_n hx hb dX9_mark_1 rfl (lv_at hl 1 rfl) ?_
  have f1 : w 64 = .inr (7, [.ref (ad 65), .ref (ad 66), .ref (ad 67), .ref (ad 68), .long 0, .long 1, .ref (ad 69), .int 0, .ref (ad 70), .ref (ad 71), .int 0, .int 0, .int 0, .int 0, .int 0, .ref (ad 72), .ref (ad 73)]) := F 64 (by decide) (by decide)
  have f2 : w 65 = .inl (cI, 177, .inl (fun _ => 0)) := F 65 (by decide) (by decide)
  refine q_Vi (na := 1) (As := [.int j]) (rest := []) X hD hN h rfl (c_M_isJar l G cI cB cZ cO ad w j f1 f2) ⟨kw_203, kw_204, kw_205, kw_190, kw_206⟩ rfl ⟨by decide, by decide, by decide⟩ ⟨Nat.le_of_ble_eq_true rfl, Nat.le_of_ble_eq_true rfl⟩ ⟨Nat.zero_le _, Nat.zero_le _⟩ (by decide) f1 rfl rfl hl.1 rfl (Nat.le_of_ble_eq_true rfl) dX9_mark_2 (fun r3 w4 H locs hp5 h => ?_)
  obtain ⟨e6, rfl⟩ := hp5
  refine lv_if_eq (tgt := 30) hx hb dX9_mark_5 (by decide) (fun _ => ?_) (fun hc => absurd (by decide) hc)
  refine lv_aload_n hx hb dX9_mark_30 rfl (lv_at hl 0 rfl) ?_
  refine lv_bipush (v := (-2)) hx hb dX9_mark_31 (by decide) ?_
  have f7 : w4 64 = .inr (7, [.ref (ad 65), .ref (ad 66), .ref (ad 67), .ref (ad 68), .long 0, .long 1, .ref (ad 69), .int 0, .ref (ad 70), .ref (ad 71), .int 0, .int 0, .int 0, .int 0, .int 0, .ref (ad 72), .ref (ad 73)]) := by rw [e6]; exact f1
  have f8 : w 68 = .inl (cI, 3, .inl (fun _ => 0)) := F 68 (by decide) (by decide)
  have f9 : w4 68 = .inl (cI, 3, .inl (fun _ => 0)) := by rw [e6]; exact f8
  refine q_Vi (na := 1) (As := [.int (-2)]) (rest := []) X hD hN h rfl (c_M_bad l G cI cB cZ cO ad w4 (-2) f7 f9) ⟨kw_199, kw_200, kw_201, kw_190, kw_202⟩ rfl ⟨by decide, by decide, by decide⟩ ⟨Nat.le_of_ble_eq_true rfl, Nat.le_of_ble_eq_true rfl⟩ ⟨Nat.zero_le _, Nat.zero_le _⟩ (by decide) f7 rfl rfl hl.1 rfl (Nat.le_of_ble_eq_true rfl) dX9_mark_33 (fun r10 w11 H locs hp12 h => ?_)
  obtain ⟨rfl, hf13⟩ := hp12
  exact e_i X h hr hlk dX9_mark_36 rfl

set_option maxHeartbeats 4000000 in
set_option maxRecDepth 100000 in
theorem c_M_is (l : Launch) (G : va_G) (cI cB cZ cO : ClassId) (ad : Nat → Nat) (w : Nat → va_E) (F : ∀ k, k < 74 → 64 ≤ k → w k = fr0 cI cB cZ cO ad k) (i : Int32) : MI l G (tyq cI cB cZ cO) yX9_is cX9_is 2 (some .int) 2 46 74 ad w [.ref (ad 64), .int i] (fun r w1 => r = (-2)) := by
  refine mk_i (own := "NoonShadeModel") rfl (by decide) (Nat.le_of_ble_eq_true rfl) ?_
  intro p e s m below meth c ls X hD hN hr hlk h hl
  have hx := X.1.1
  have hb := X.1.2.1
  have hown := X.1.2.2.2.1
  have hts := X.1.2.2.2.2
  have hl : lv_has ls 2 [(0, .ref (ad 64)), (1, .int i)] := hl
  refine lv_aload_n hx hb dX9_is_0 rfl (lv_at hl 0 rfl) ?_
  refine lv_iload_n hx hb dX9_is_1 rfl (lv_at hl 1 rfl) ?_
  have f1 : w 64 = .inr (7, [.ref (ad 65), .ref (ad 66), .ref (ad 67), .ref (ad 68), .long 0, .long 1, .ref (ad 69), .int 0, .ref (ad 70), .ref (ad 71), .int 0, .int 0, .int 0, .int 0, .int 0, .ref (ad 72), .ref (ad 73)]) := F 64 (by decide) (by decide)
  have f2 : w 65 = .inl (cI, 177, .inl (fun _ => 0)) := F 65 (by decide) (by decide)
  refine q_Vi (na := 1) (As := [.int i]) (rest := []) X hD hN h rfl (c_M_isCaster l G cI cB cZ cO ad w i f1 f2) ⟨kw_195, kw_196, kw_197, kw_190, kw_198⟩ rfl ⟨by decide, by decide, by decide⟩ ⟨Nat.le_of_ble_eq_true rfl, Nat.le_of_ble_eq_true rfl⟩ ⟨Nat.zero_le _, Nat.zero_le _⟩ (by decide) f1 rfl rfl hl.1 rfl (Nat.le_of_ble_eq_true rfl) dX9_is_2 (fun r3 w4 H locs hp5 h => ?_)
  obtain ⟨e6, rfl⟩ := hp5
  refine lv_if_eq (tgt := 16) hx hb dX9_is_5 (by decide) (fun _ => ?_) (fun hc => absurd (by decide) hc)
  refine lv_aload_n hx hb dX9_is_16 rfl (lv_at hl 0 rfl) ?_
  refine lv_bipush (v := (-2)) hx hb dX9_is_17 (by decide) ?_
  have f7 : w4 64 = .inr (7, [.ref (ad 65), .ref (ad 66), .ref (ad 67), .ref (ad 68), .long 0, .long 1, .ref (ad 69), .int 0, .ref (ad 70), .ref (ad 71), .int 0, .int 0, .int 0, .int 0, .int 0, .ref (ad 72), .ref (ad 73)]) := by rw [e6]; exact f1
  have f8 : w 68 = .inl (cI, 3, .inl (fun _ => 0)) := F 68 (by decide) (by decide)
  have f9 : w4 68 = .inl (cI, 3, .inl (fun _ => 0)) := by rw [e6]; exact f8
  refine q_Vi (na := 1) (As := [.int (-2)]) (rest := []) X hD hN h rfl (c_M_bad l G cI cB cZ cO ad w4 (-2) f7 f9) ⟨kw_199, kw_200, kw_201, kw_190, kw_202⟩ rfl ⟨by decide, by decide, by decide⟩ ⟨Nat.le_of_ble_eq_true rfl, Nat.le_of_ble_eq_true rfl⟩ ⟨Nat.zero_le _, Nat.zero_le _⟩ (by decide) f7 rfl rfl hl.1 rfl (Nat.le_of_ble_eq_true rfl) dX9_is_19 (fun r10 w11 H locs hp12 h => ?_)
  obtain ⟨rfl, hf13⟩ := hp12
  exact e_i X h hr hlk dX9_is_22 rfl

set_option maxHeartbeats 4000000 in
set_option maxRecDepth 100000 in
theorem c_M_look (l : Launch) (G : va_G) (cI cB cZ cO : ClassId) (ad : Nat → Nat) (w : Nat → va_E) (F : ∀ k, k < 74 → 64 ≤ k → w k = fr0 cI cB cZ cO ad k) (i : Int32) : MI l G (tyq cI cB cZ cO) yX9_look cX9_look 7 (some .int) 2 46 74 ad w [.ref (ad 64), .int i] (fun r w1 => r = (-2)) := by
  refine mk_i (own := "NoonShadeModel") rfl (by decide) (Nat.le_of_ble_eq_true rfl) ?_
  intro p e s m below meth c ls X hD hN hr hlk h hl
  have hx := X.1.1
  have hb := X.1.2.1
  have hown := X.1.2.2.2.1
  have hts := X.1.2.2.2.2
  have hl : lv_has ls 7 [(0, .ref (ad 64)), (1, .int i)] := hl
  refine lv_aload_n hx hb dX9_look_0 rfl (lv_at hl 0 rfl) ?_
  refine lv_iload_n hx hb dX9_look_1 rfl (lv_at hl 1 rfl) ?_
  have f1 : w 64 = .inr (7, [.ref (ad 65), .ref (ad 66), .ref (ad 67), .ref (ad 68), .long 0, .long 1, .ref (ad 69), .int 0, .ref (ad 70), .ref (ad 71), .int 0, .int 0, .int 0, .int 0, .int 0, .ref (ad 72), .ref (ad 73)]) := F 64 (by decide) (by decide)
  have f2 : w 65 = .inl (cI, 177, .inl (fun _ => 0)) := F 65 (by decide) (by decide)
  refine q_Vi (na := 1) (As := [.int i]) (rest := []) X hD hN h rfl (c_M_isCaster l G cI cB cZ cO ad w i f1 f2) ⟨kw_195, kw_196, kw_197, kw_190, kw_198⟩ rfl ⟨by decide, by decide, by decide⟩ ⟨Nat.le_of_ble_eq_true rfl, Nat.le_of_ble_eq_true rfl⟩ ⟨Nat.zero_le _, Nat.zero_le _⟩ (by decide) f1 rfl rfl hl.1 rfl (Nat.le_of_ble_eq_true rfl) dX9_look_2 (fun r3 w4 H locs hp5 h => ?_)
  obtain ⟨e6, rfl⟩ := hp5
  refine lv_if_ne (tgt := 15) hx hb dX9_look_5 (by decide) (fun hc => absurd (by decide) hc) (fun _ => ?_)
  refine lv_aload_n hx hb dX9_look_8 rfl (lv_at hl 0 rfl) ?_
  refine lv_bipush (v := (-2)) hx hb dX9_look_9 (by decide) ?_
  have f7 : w4 64 = .inr (7, [.ref (ad 65), .ref (ad 66), .ref (ad 67), .ref (ad 68), .long 0, .long 1, .ref (ad 69), .int 0, .ref (ad 70), .ref (ad 71), .int 0, .int 0, .int 0, .int 0, .int 0, .ref (ad 72), .ref (ad 73)]) := by rw [e6]; exact f1
  have f8 : w 68 = .inl (cI, 3, .inl (fun _ => 0)) := F 68 (by decide) (by decide)
  have f9 : w4 68 = .inl (cI, 3, .inl (fun _ => 0)) := by rw [e6]; exact f8
  refine q_Vi (na := 1) (As := [.int (-2)]) (rest := []) X hD hN h rfl (c_M_bad l G cI cB cZ cO ad w4 (-2) f7 f9) ⟨kw_199, kw_200, kw_201, kw_190, kw_202⟩ rfl ⟨by decide, by decide, by decide⟩ ⟨Nat.le_of_ble_eq_true rfl, Nat.le_of_ble_eq_true rfl⟩ ⟨Nat.zero_le _, Nat.zero_le _⟩ (by decide) f7 rfl rfl hl.1 rfl (Nat.le_of_ble_eq_true rfl) dX9_look_11 (fun r10 w11 H locs hp12 h => ?_)
  obtain ⟨rfl, hf13⟩ := hp12
  exact e_i X h hr hlk dX9_look_14 rfl

set_option maxHeartbeats 4000000 in
set_option maxRecDepth 100000 in
theorem c_M_kinds (l : Launch) (G : va_G) (cI cB cZ cO : ClassId) (ad : Nat → Nat) (w : Nat → va_E) (F : ∀ k, k < 74 → 64 ≤ k → w k = fr0 cI cB cZ cO ad k) (j : Int32) : MI l G (tyq cI cB cZ cO) yX9_kinds cX9_kinds 2 (some .int) 2 46 74 ad w [.ref (ad 64), .int j] (fun r w1 => r = (-2)) := by
  refine mk_i (own := "NoonShadeModel") rfl (by decide) (Nat.le_of_ble_eq_true rfl) ?_
  intro p e s m below meth c ls X hD hN hr hlk h hl
  have hx := X.1.1
  have hb := X.1.2.1
  have hown := X.1.2.2.2.1
  have hts := X.1.2.2.2.2
  have hl : lv_has ls 2 [(0, .ref (ad 64)), (1, .int j)] := hl
  refine lv_aload_n hx hb dX9_kinds_0 rfl (lv_at hl 0 rfl) ?_
  refine lv_iload_n hx hb dX9_kinds_1 rfl (lv_at hl 1 rfl) ?_
  have f1 : w 64 = .inr (7, [.ref (ad 65), .ref (ad 66), .ref (ad 67), .ref (ad 68), .long 0, .long 1, .ref (ad 69), .int 0, .ref (ad 70), .ref (ad 71), .int 0, .int 0, .int 0, .int 0, .int 0, .ref (ad 72), .ref (ad 73)]) := F 64 (by decide) (by decide)
  have f2 : w 65 = .inl (cI, 177, .inl (fun _ => 0)) := F 65 (by decide) (by decide)
  refine q_Vi (na := 1) (As := [.int j]) (rest := []) X hD hN h rfl (c_M_isJar l G cI cB cZ cO ad w j f1 f2) ⟨kw_203, kw_204, kw_205, kw_190, kw_206⟩ rfl ⟨by decide, by decide, by decide⟩ ⟨Nat.le_of_ble_eq_true rfl, Nat.le_of_ble_eq_true rfl⟩ ⟨Nat.zero_le _, Nat.zero_le _⟩ (by decide) f1 rfl rfl hl.1 rfl (Nat.le_of_ble_eq_true rfl) dX9_kinds_2 (fun r3 w4 H locs hp5 h => ?_)
  obtain ⟨e6, rfl⟩ := hp5
  refine lv_if_eq (tgt := 16) hx hb dX9_kinds_5 (by decide) (fun _ => ?_) (fun hc => absurd (by decide) hc)
  refine lv_aload_n hx hb dX9_kinds_16 rfl (lv_at hl 0 rfl) ?_
  refine lv_bipush (v := (-2)) hx hb dX9_kinds_17 (by decide) ?_
  have f7 : w4 64 = .inr (7, [.ref (ad 65), .ref (ad 66), .ref (ad 67), .ref (ad 68), .long 0, .long 1, .ref (ad 69), .int 0, .ref (ad 70), .ref (ad 71), .int 0, .int 0, .int 0, .int 0, .int 0, .ref (ad 72), .ref (ad 73)]) := by rw [e6]; exact f1
  have f8 : w 68 = .inl (cI, 3, .inl (fun _ => 0)) := F 68 (by decide) (by decide)
  have f9 : w4 68 = .inl (cI, 3, .inl (fun _ => 0)) := by rw [e6]; exact f8
  refine q_Vi (na := 1) (As := [.int (-2)]) (rest := []) X hD hN h rfl (c_M_bad l G cI cB cZ cO ad w4 (-2) f7 f9) ⟨kw_199, kw_200, kw_201, kw_190, kw_202⟩ rfl ⟨by decide, by decide, by decide⟩ ⟨Nat.le_of_ble_eq_true rfl, Nat.le_of_ble_eq_true rfl⟩ ⟨Nat.zero_le _, Nat.zero_le _⟩ (by decide) f7 rfl rfl hl.1 rfl (Nat.le_of_ble_eq_true rfl) dX9_kinds_19 (fun r10 w11 H locs hp12 h => ?_)
  obtain ⟨rfl, hf13⟩ := hp12
  exact e_i X h hr hlk dX9_kinds_22 rfl

set_option maxHeartbeats 4000000 in
set_option maxRecDepth 100000 in
theorem c_M_ask (l : Launch) (G : va_G) (cI cB cZ cO : ClassId) (ad : Nat → Nat) (w : Nat → va_E) (F : ∀ k, k < 74 → 64 ≤ k → w k = fr0 cI cB cZ cO ad k) (j : Int32) : MI l G (tyq cI cB cZ cO) yX9_ask cX9_ask 8 (some .int) 2 46 74 ad w [.ref (ad 64), .int j] (fun r w1 => r = (-2)) := by
  refine mk_i (own := "NoonShadeModel") rfl (by decide) (Nat.le_of_ble_eq_true rfl) ?_
  intro p e s m below meth c ls X hD hN hr hlk h hl
  have hx := X.1.1
  have hb := X.1.2.1
  have hown := X.1.2.2.2.1
  have hts := X.1.2.2.2.2
  have hl : lv_has ls 8 [(0, .ref (ad 64)), (1, .int j)] := hl
  refine lv_aload_n hx hb dX9_ask_0 rfl (lv_at hl 0 rfl) ?_
  refine lv_iload_n hx hb dX9_ask_1 rfl (lv_at hl 1 rfl) ?_
  have f1 : w 64 = .inr (7, [.ref (ad 65), .ref (ad 66), .ref (ad 67), .ref (ad 68), .long 0, .long 1, .ref (ad 69), .int 0, .ref (ad 70), .ref (ad 71), .int 0, .int 0, .int 0, .int 0, .int 0, .ref (ad 72), .ref (ad 73)]) := F 64 (by decide) (by decide)
  have f2 : w 65 = .inl (cI, 177, .inl (fun _ => 0)) := F 65 (by decide) (by decide)
  refine q_Vi (na := 1) (As := [.int j]) (rest := []) X hD hN h rfl (c_M_isJar l G cI cB cZ cO ad w j f1 f2) ⟨kw_203, kw_204, kw_205, kw_190, kw_206⟩ rfl ⟨by decide, by decide, by decide⟩ ⟨Nat.le_of_ble_eq_true rfl, Nat.le_of_ble_eq_true rfl⟩ ⟨Nat.zero_le _, Nat.zero_le _⟩ (by decide) f1 rfl rfl hl.1 rfl (Nat.le_of_ble_eq_true rfl) dX9_ask_2 (fun r3 w4 H locs hp5 h => ?_)
  obtain ⟨e6, rfl⟩ := hp5
  refine lv_if_ne (tgt := 15) hx hb dX9_ask_5 (by decide) (fun hc => absurd (by decide) hc) (fun _ => ?_)
  refine lv_aload_n hx hb dX9_ask_8 rfl (lv_at hl 0 rfl) ?_
  refine lv_bipush (v := (-2)) hx hb dX9_ask_9 (by decide) ?_
  have f7 : w4 64 = .inr (7, [.ref (ad 65), .ref (ad 66), .ref (ad 67), .ref (ad 68), .long 0, .long 1, .ref (ad 69), .int 0, .ref (ad 70), .ref (ad 71), .int 0, .int 0, .int 0, .int 0, .int 0, .ref (ad 72), .ref (ad 73)]) := by rw [e6]; exact f1
  have f8 : w 68 = .inl (cI, 3, .inl (fun _ => 0)) := F 68 (by decide) (by decide)
  have f9 : w4 68 = .inl (cI, 3, .inl (fun _ => 0)) := by rw [e6]; exact f8
  refine q_Vi (na := 1) (As := [.int (-2)]) (rest := []) X hD hN h rfl (c_M_bad l G cI cB cZ cO ad w4 (-2) f7 f9) ⟨kw_199, kw_200, kw_201, kw_190, kw_202⟩ rfl ⟨by decide, by decide, by decide⟩ ⟨Nat.le_of_ble_eq_true rfl, Nat.le_of_ble_eq_true rfl⟩ ⟨Nat.zero_le _, Nat.zero_le _⟩ (by decide) f7 rfl rfl hl.1 rfl (Nat.le_of_ble_eq_true rfl) dX9_ask_11 (fun r10 w11 H locs hp12 h => ?_)
  obtain ⟨rfl, hf13⟩ := hp12
  exact e_i X h hr hlk dX9_ask_14 rfl

set_option maxHeartbeats 4000000 in
set_option maxRecDepth 100000 in
theorem c_M_spilt (l : Launch) (G : va_G) (cI cB cZ cO : ClassId) (ad : Nat → Nat) (w : Nat → va_E) (F : ∀ k, k < 74 → 64 ≤ k → w k = fr0 cI cB cZ cO ad k) (j u x t : Int32) : MI l G (tyq cI cB cZ cO) yX9_spilt cX9_spilt 14 (some .int) 2 46 74 ad w [.ref (ad 64), .int j, .int u, .int x, .int t] (fun r w1 => r = (-2)) := by
  refine mk_i (own := "NoonShadeModel") rfl (by decide) (Nat.le_of_ble_eq_true rfl) ?_
  intro p e s m below meth c ls X hD hN hr hlk h hl
  have hx := X.1.1
  have hb := X.1.2.1
  have hown := X.1.2.2.2.1
  have hts := X.1.2.2.2.2
  have hl : lv_has ls 14 [(0, .ref (ad 64)), (1, .int j), (2, .int u), (3, .int x), (4, .int t)] := hl
  refine lv_aload_n hx hb dX9_spilt_0 rfl (lv_at hl 0 rfl) ?_
  refine lv_iload_n hx hb dX9_spilt_1 rfl (lv_at hl 1 rfl) ?_
  have f1 : w 64 = .inr (7, [.ref (ad 65), .ref (ad 66), .ref (ad 67), .ref (ad 68), .long 0, .long 1, .ref (ad 69), .int 0, .ref (ad 70), .ref (ad 71), .int 0, .int 0, .int 0, .int 0, .int 0, .ref (ad 72), .ref (ad 73)]) := F 64 (by decide) (by decide)
  have f2 : w 65 = .inl (cI, 177, .inl (fun _ => 0)) := F 65 (by decide) (by decide)
  refine q_Vi (na := 1) (As := [.int j]) (rest := []) X hD hN h rfl (c_M_isJar l G cI cB cZ cO ad w j f1 f2) ⟨kw_203, kw_204, kw_205, kw_190, kw_206⟩ rfl ⟨by decide, by decide, by decide⟩ ⟨Nat.le_of_ble_eq_true rfl, Nat.le_of_ble_eq_true rfl⟩ ⟨Nat.zero_le _, Nat.zero_le _⟩ (by decide) f1 rfl rfl hl.1 rfl (Nat.le_of_ble_eq_true rfl) dX9_spilt_2 (fun r3 w4 H locs hp5 h => ?_)
  obtain ⟨e6, rfl⟩ := hp5
  refine lv_if_eq (tgt := 40) hx hb dX9_spilt_5 (by decide) (fun _ => ?_) (fun hc => absurd (by decide) hc)
  refine lv_aload_n hx hb dX9_spilt_40 rfl (lv_at hl 0 rfl) ?_
  refine lv_bipush (v := (-2)) hx hb dX9_spilt_41 (by decide) ?_
  have f7 : w4 64 = .inr (7, [.ref (ad 65), .ref (ad 66), .ref (ad 67), .ref (ad 68), .long 0, .long 1, .ref (ad 69), .int 0, .ref (ad 70), .ref (ad 71), .int 0, .int 0, .int 0, .int 0, .int 0, .ref (ad 72), .ref (ad 73)]) := by rw [e6]; exact f1
  have f8 : w 68 = .inl (cI, 3, .inl (fun _ => 0)) := F 68 (by decide) (by decide)
  have f9 : w4 68 = .inl (cI, 3, .inl (fun _ => 0)) := by rw [e6]; exact f8
  refine q_Vi (na := 1) (As := [.int (-2)]) (rest := []) X hD hN h rfl (c_M_bad l G cI cB cZ cO ad w4 (-2) f7 f9) ⟨kw_199, kw_200, kw_201, kw_190, kw_202⟩ rfl ⟨by decide, by decide, by decide⟩ ⟨Nat.le_of_ble_eq_true rfl, Nat.le_of_ble_eq_true rfl⟩ ⟨Nat.zero_le _, Nat.zero_le _⟩ (by decide) f7 rfl rfl hl.1 rfl (Nat.le_of_ble_eq_true rfl) dX9_spilt_43 (fun r10 w11 H locs hp12 h => ?_)
  obtain ⟨rfl, hf13⟩ := hp12
  exact e_i X h hr hlk dX9_spilt_46 rfl

set_option maxHeartbeats 4000000 in
set_option maxRecDepth 100000 in
theorem c_M_island (l : Launch) (G : va_G) (cI cB cZ cO : ClassId) (ad : Nat → Nat) (w : Nat → va_E) (F : ∀ k, k < 74 → 64 ≤ k → w k = fr0 cI cB cZ cO ad k) (t : Int32) : MI l G (tyq cI cB cZ cO) yX9_island cX9_island 3 (some .int) 1 25 74 ad w [.ref (ad 64), .int t] (fun r w1 => (0 ≤ t.toInt ∧ t.toInt ≤ 99 → r = 0) ∧ (¬ (0 ≤ t.toInt ∧ t.toInt ≤ 99) → r = -2)) := by
  refine mk_i (own := "NoonShadeModel") rfl (by decide) (Nat.le_of_ble_eq_true rfl) ?_
  intro p e s m below meth c ls X hD hN hr hlk h hl
  have hx := X.1.1
  have hb := X.1.2.1
  have hown := X.1.2.2.2.1
  have hts := X.1.2.2.2.2
  have hl : lv_has ls 3 [(0, .ref (ad 64)), (1, .int t)] := hl
  refine lv_iload_n hx hb dX9_island_0 rfl (lv_at hl 1 rfl) ?_
  refine lv_i2l (v := t.toInt64) hx hb dX9_island_1 rfl ?_
  refine lv_lconst (v := 0) hx hb dX9_island_2 (by decide) ?_
  refine lv_ldc2 (v := 99) hx hb hown (hts _ kw_207) dX9_island_3 ?_
  refine q_Si (na := 3) (As := [.long t.toInt64, .long 0, .long 99]) (rest := []) X hD hN h (c_M_in l G cI cB cZ cO ad w t.toInt64 0 99 ((t).toInt) 0 99 (Int32.toInt_toInt64 _) rfl rfl) ⟨kw_188, kw_189, kw_190, kw_191⟩ ⟨by decide, by decide, by decide⟩ ⟨Nat.le_of_ble_eq_true rfl, Nat.le_of_ble_eq_true rfl⟩ ⟨Nat.zero_le _, Nat.zero_le _⟩ rfl hl.1 rfl (Nat.le_of_ble_eq_true rfl) dX9_island_6 (fun r1 w2 H locs hp3 h => ?_)
  obtain ⟨e4, hp3⟩ := hp3
  rcases hp3 with ⟨hq5a, hq5b, rfl⟩ | ⟨hq5, rfl⟩
  · refine lv_if_ne (tgt := 19) hx hb dX9_island_9 (by decide) (fun _ => ?_) (fun hc => absurd hc (by decide))
    refine lv_aload_n hx hb dX9_island_19 rfl (lv_at hl 0 rfl) ?_
    have f6 : w 64 = .inr (7, [.ref (ad 65), .ref (ad 66), .ref (ad 67), .ref (ad 68), .long 0, .long 1, .ref (ad 69), .int 0, .ref (ad 70), .ref (ad 71), .int 0, .int 0, .int 0, .int 0, .int 0, .ref (ad 72), .ref (ad 73)]) := F 64 (by decide) (by decide)
    have f7 : w2 64 = .inr (7, [.ref (ad 65), .ref (ad 66), .ref (ad 67), .ref (ad 68), .long 0, .long 1, .ref (ad 69), .int 0, .ref (ad 70), .ref (ad 71), .int 0, .int 0, .int 0, .int 0, .int 0, .ref (ad 72), .ref (ad 73)]) := by rw [e4]; exact f6
    refine r_get kc9 X h 64 0 (by decide) rfl f7 (by decide) kw_187 rfl dX9_island_20 ?_
    refine lv_iconst (v := 0) hx hb dX9_island_23 (by decide) ?_
    have f8 : w 65 = .inl (cI, 177, .inl (fun _ => 0)) := F 65 (by decide) (by decide)
    have f9 : w2 65 = .inl (cI, 177, .inl (fun _ => 0)) := by rw [e4]; exact f8
    refine o_iald (v := 0) X h 65 0 (by decide) rfl f9 rfl (by unfold vp_in; decide) rfl dX9_island_24 ?_
    refine lv_istore_n (lv' := [(2, .int 0), (0, .ref (ad 64)), (1, .int t)]) hx hb dX9_island_25 rfl hl (by decide) rfl (fun ls hl => ?_)
    refine lv_aload_n hx hb dX9_island_26 rfl (lv_at hl 1 rfl) ?_
    refine r_get kc9 X h 64 0 (by decide) rfl f7 (by decide) kw_187 rfl dX9_island_27 ?_
    refine lv_iload_n hx hb dX9_island_30 rfl (lv_at hl 2 rfl) ?_
    refine q_Sv (na := 2) (As := [.ref (ad 65), .int t]) (rest := []) X hD hN h (c_M_begin l G cI cB cZ cO ad w2 t f9) ⟨kw_208, kw_209, kw_190, kw_210⟩ ⟨by decide, by decide, by decide⟩ ⟨Nat.le_of_ble_eq_true rfl, Nat.le_of_ble_eq_true rfl⟩ ⟨Nat.zero_le _, Nat.zero_le _⟩ rfl hl.1 rfl (Nat.le_of_ble_eq_true rfl) dX9_island_31 (fun w11 H locs hp12 h => ?_)
    obtain ⟨f13, hf14⟩ := hp12
    refine lv_iload_n hx hb dX9_island_34 rfl (lv_at hl 0 rfl) ?_
    exact e_i X h hr hlk dX9_island_35 ⟨fun _ => by first | rfl | omega, fun _ => by first | rfl | omega⟩
  · refine lv_if_ne (tgt := 19) hx hb dX9_island_9 (by decide) (fun hc => absurd (by decide) hc) (fun _ => ?_)
    refine lv_aload_n hx hb dX9_island_12 rfl (lv_at hl 0 rfl) ?_
    refine lv_bipush (v := (-2)) hx hb dX9_island_13 (by decide) ?_
    have f15 : w 64 = .inr (7, [.ref (ad 65), .ref (ad 66), .ref (ad 67), .ref (ad 68), .long 0, .long 1, .ref (ad 69), .int 0, .ref (ad 70), .ref (ad 71), .int 0, .int 0, .int 0, .int 0, .int 0, .ref (ad 72), .ref (ad 73)]) := F 64 (by decide) (by decide)
    have f16 : w2 64 = .inr (7, [.ref (ad 65), .ref (ad 66), .ref (ad 67), .ref (ad 68), .long 0, .long 1, .ref (ad 69), .int 0, .ref (ad 70), .ref (ad 71), .int 0, .int 0, .int 0, .int 0, .int 0, .ref (ad 72), .ref (ad 73)]) := by rw [e4]; exact f15
    have f17 : w 68 = .inl (cI, 3, .inl (fun _ => 0)) := F 68 (by decide) (by decide)
    have f18 : w2 68 = .inl (cI, 3, .inl (fun _ => 0)) := by rw [e4]; exact f17
    refine q_Vi (na := 1) (As := [.int (-2)]) (rest := []) X hD hN h rfl (c_M_bad l G cI cB cZ cO ad w2 (-2) f16 f18) ⟨kw_199, kw_200, kw_201, kw_190, kw_202⟩ rfl ⟨by decide, by decide, by decide⟩ ⟨Nat.le_of_ble_eq_true rfl, Nat.le_of_ble_eq_true rfl⟩ ⟨Nat.zero_le _, Nat.zero_le _⟩ (by decide) f16 rfl rfl hl.1 rfl (Nat.le_of_ble_eq_true rfl) dX9_island_15 (fun r19 w20 H locs hp21 h => ?_)
    obtain ⟨rfl, hf22⟩ := hp21
    exact e_i X h hr hlk dX9_island_18 ⟨fun _ => by first | rfl | omega, fun _ => by first | rfl | omega⟩

set_option maxHeartbeats 4000000 in
set_option maxRecDepth 100000 in
theorem c_M_caster (l : Launch) (G : va_G) (cI cB cZ cO : ClassId) (ad : Nat → Nat) (w : Nat → va_E) (F : ∀ k, k < 74 → 64 ≤ k → w k = fr0 cI cB cZ cO ad k) (i j t : Int32) : MI l G (tyq cI cB cZ cO) yX9_caster cX9_caster 4 (some .int) 2 45 74 ad w [.ref (ad 64), .int i, .int j, .int t] (fun r w1 => (0 ≤ i.toInt ∧ i.toInt ≤ 5 ∧ 1 ≤ j.toInt ∧ j.toInt ≤ 9 ∧ 0 ≤ t.toInt ∧ t.toInt ≤ 3 → r = 0) ∧ (¬ (0 ≤ i.toInt ∧ i.toInt ≤ 5 ∧ 1 ≤ j.toInt ∧ j.toInt ≤ 9 ∧ 0 ≤ t.toInt ∧ t.toInt ≤ 3) → r = -2)) := by
  refine mk_i (own := "NoonShadeModel") rfl (by decide) (Nat.le_of_ble_eq_true rfl) ?_
  intro p e s m below meth c ls X hD hN hr hlk h hl
  have hx := X.1.1
  have hb := X.1.2.1
  have hown := X.1.2.2.2.1
  have hts := X.1.2.2.2.2
  have hl : lv_has ls 4 [(0, .ref (ad 64)), (1, .int i), (2, .int j), (3, .int t)] := hl
  refine lv_iload_n hx hb dX9_caster_0 rfl (lv_at hl 1 rfl) ?_
  refine q_Si (na := 1) (As := [.int i]) (rest := []) X hD hN h (c_M_isKind l G cI cB cZ cO ad w i) ⟨kw_211, kw_212, kw_190, kw_213⟩ ⟨by decide, by decide, by decide⟩ ⟨Nat.le_of_ble_eq_true rfl, Nat.le_of_ble_eq_true rfl⟩ ⟨Nat.zero_le _, Nat.zero_le _⟩ rfl hl.1 rfl (Nat.le_of_ble_eq_true rfl) dX9_caster_1 (fun r1 w2 H locs hp3 h => ?_)
  obtain ⟨e4, hp3⟩ := hp3
  rcases hp3 with ⟨hq5a, hq5b, rfl⟩ | ⟨hq5, rfl⟩
  · refine lv_if_eq (tgt := 21) hx hb dX9_caster_4 (by decide) (fun hc => absurd hc (by decide)) (fun _ => ?_)
    refine lv_iload_n hx hb dX9_caster_7 rfl (lv_at hl 2 rfl) ?_
    refine q_Si (na := 1) (As := [.int j]) (rest := []) X hD hN h (c_M_isHeight l G cI cB cZ cO ad w2 j) ⟨kw_214, kw_215, kw_190, kw_216⟩ ⟨by decide, by decide, by decide⟩ ⟨Nat.le_of_ble_eq_true rfl, Nat.le_of_ble_eq_true rfl⟩ ⟨Nat.zero_le _, Nat.zero_le _⟩ rfl hl.1 rfl (Nat.le_of_ble_eq_true rfl) dX9_caster_8 (fun r6 w7 H locs hp8 h => ?_)
    obtain ⟨e9, hp8⟩ := hp8
    rcases hp8 with ⟨hq10a, hq10b, rfl⟩ | ⟨hq10, rfl⟩
    · refine lv_if_eq (tgt := 21) hx hb dX9_caster_11 (by decide) (fun hc => absurd hc (by decide)) (fun _ => ?_)
      refine lv_iload_n hx hb dX9_caster_14 rfl (lv_at hl 3 rfl) ?_
      refine q_Si (na := 1) (As := [.int t]) (rest := []) X hD hN h (c_M_isTaste l G cI cB cZ cO ad w7 t) ⟨kw_217, kw_218, kw_190, kw_219⟩ ⟨by decide, by decide, by decide⟩ ⟨Nat.le_of_ble_eq_true rfl, Nat.le_of_ble_eq_true rfl⟩ ⟨Nat.zero_le _, Nat.zero_le _⟩ rfl hl.1 rfl (Nat.le_of_ble_eq_true rfl) dX9_caster_15 (fun r11 w12 H locs hp13 h => ?_)
      obtain ⟨e14, hp13⟩ := hp13
      rcases hp13 with ⟨hq15a, hq15b, rfl⟩ | ⟨hq15, rfl⟩
      · refine lv_if_ne (tgt := 28) hx hb dX9_caster_18 (by decide) (fun _ => ?_) (fun hc => absurd hc (by decide))
        refine lv_aload_n hx hb dX9_caster_28 rfl (lv_at hl 0 rfl) ?_
        have f16 : w 64 = .inr (7, [.ref (ad 65), .ref (ad 66), .ref (ad 67), .ref (ad 68), .long 0, .long 1, .ref (ad 69), .int 0, .ref (ad 70), .ref (ad 71), .int 0, .int 0, .int 0, .int 0, .int 0, .ref (ad 72), .ref (ad 73)]) := F 64 (by decide) (by decide)
        have f17 : w2 64 = .inr (7, [.ref (ad 65), .ref (ad 66), .ref (ad 67), .ref (ad 68), .long 0, .long 1, .ref (ad 69), .int 0, .ref (ad 70), .ref (ad 71), .int 0, .int 0, .int 0, .int 0, .int 0, .ref (ad 72), .ref (ad 73)]) := by rw [e4]; exact f16
        have f18 : w7 64 = .inr (7, [.ref (ad 65), .ref (ad 66), .ref (ad 67), .ref (ad 68), .long 0, .long 1, .ref (ad 69), .int 0, .ref (ad 70), .ref (ad 71), .int 0, .int 0, .int 0, .int 0, .int 0, .ref (ad 72), .ref (ad 73)]) := by rw [e9]; exact f17
        have f19 : w12 64 = .inr (7, [.ref (ad 65), .ref (ad 66), .ref (ad 67), .ref (ad 68), .long 0, .long 1, .ref (ad 69), .int 0, .ref (ad 70), .ref (ad 71), .int 0, .int 0, .int 0, .int 0, .int 0, .ref (ad 72), .ref (ad 73)]) := by rw [e14]; exact f18
        refine r_get kc9 X h 64 0 (by decide) rfl f19 (by decide) kw_187 rfl dX9_caster_29 ?_
        refine lv_iconst (v := 0) hx hb dX9_caster_32 (by decide) ?_
        have f20 : w 65 = .inl (cI, 177, .inl (fun _ => 0)) := F 65 (by decide) (by decide)
        have f21 : w2 65 = .inl (cI, 177, .inl (fun _ => 0)) := by rw [e4]; exact f20
        have f22 : w7 65 = .inl (cI, 177, .inl (fun _ => 0)) := by rw [e9]; exact f21
        have f23 : w12 65 = .inl (cI, 177, .inl (fun _ => 0)) := by rw [e14]; exact f22
        refine o_iald (v := 0) X h 65 0 (by decide) rfl f23 rfl (by unfold vp_in; decide) rfl dX9_caster_33 ?_
        refine lv_bipush (v := 7) hx hb dX9_caster_34 (by decide) ?_
        refine lv_icmp_ne (tgt := 44) hx hb dX9_caster_36 (by decide) (fun _ => ?_) (fun hc => absurd hc (by decide))
        refine lv_aload_n hx hb dX9_caster_44 rfl (lv_at hl 0 rfl) ?_
        refine r_get kc9 X h 64 0 (by decide) rfl f19 (by decide) kw_187 rfl dX9_caster_45 ?_
        refine lv_iload_n hx hb dX9_caster_48 rfl (lv_at hl 1 rfl) ?_
        refine lv_iload_n hx hb dX9_caster_49 rfl (lv_at hl 2 rfl) ?_
        refine lv_iload_n hx hb dX9_caster_50 rfl (lv_at hl 3 rfl) ?_
        refine q_Sv (na := 4) (As := [.ref (ad 65), .int i, .int j, .int t]) (rest := []) X hD hN h (c_M_layCaster l G cI cB cZ cO ad w12 i j t f23) ⟨kw_220, kw_221, kw_190, kw_222⟩ ⟨by decide, by decide, by decide⟩ ⟨Nat.le_of_ble_eq_true rfl, Nat.le_of_ble_eq_true rfl⟩ ⟨Nat.zero_le _, Nat.zero_le _⟩ rfl hl.1 rfl (Nat.le_of_ble_eq_true rfl) dX9_caster_51 (fun w25 H locs hp26 h => ?_)
        obtain ⟨f27, hf28⟩ := hp26
        refine lv_aload_n hx hb dX9_caster_54 rfl (lv_at hl 0 rfl) ?_
        have f29 : w25 64 = .inr (7, [.ref (ad 65), .ref (ad 66), .ref (ad 67), .ref (ad 68), .long 0, .long 1, .ref (ad 69), .int 0, .ref (ad 70), .ref (ad 71), .int 0, .int 0, .int 0, .int 0, .int 0, .ref (ad 72), .ref (ad 73)]) := (hf28 64 (by decide)).trans f19
        refine r_get kc9 X h 64 0 (by decide) rfl f29 (by decide) kw_187 rfl dX9_caster_55 ?_
        refine lv_iconst (v := 4) hx hb dX9_caster_58 (by decide) ?_
        refine lv_iconst (v := 0) hx hb dX9_caster_59 (by decide) ?_
        refine o_iast (f1 := upd (upd (upd (upd (upd (fun _ => 0) 16 i) 23 j) 30 t) 0 1) 4 0) X hD h 65 0 (by decide) rfl f27 rfl (by unfold vp_in; decide) rfl dX9_caster_60 (fun H locs w30 e31 h => ?_)
        have f32 : w30 65 = .inl (cI, 177, .inl (upd (upd (upd (upd (upd (fun _ => 0) 16 i) 23 j) 30 t) 0 1) 4 0)) := (congrFun e31 _).trans (va_up_self _ _ _)
        refine lv_aload_n hx hb dX9_caster_61 rfl (lv_at hl 0 rfl) ?_
        have f33 : w30 64 = .inr (7, [.ref (ad 65), .ref (ad 66), .ref (ad 67), .ref (ad 68), .long 0, .long 1, .ref (ad 69), .int 0, .ref (ad 70), .ref (ad 71), .int 0, .int 0, .int 0, .int 0, .int 0, .ref (ad 72), .ref (ad 73)]) := by rw [e31, va_up_ne _ _ (by decide)]; exact f29
        refine r_get kc9 X h 64 0 (by decide) rfl f33 (by decide) kw_187 rfl dX9_caster_62 ?_
        refine lv_iconst (v := 0) hx hb dX9_caster_65 (by decide) ?_
        refine o_iald (v := 1) X h 65 0 (by decide) rfl f32 rfl (by unfold vp_in; decide) rfl dX9_caster_66 ?_
        refine lv_iconst (v := 1) hx hb dX9_caster_67 (by decide) ?_
        refine o_isub (z := 0) hx hb dX9_caster_68 rfl ?_
        exact e_i X h hr hlk dX9_caster_69 ⟨fun _ => by first | rfl | omega, fun _ => by first | rfl | omega⟩
      · refine lv_if_ne (tgt := 28) hx hb dX9_caster_18 (by decide) (fun hc => absurd (by decide) hc) (fun _ => ?_)
        refine lv_aload_n hx hb dX9_caster_21 rfl (lv_at hl 0 rfl) ?_
        refine lv_bipush (v := (-2)) hx hb dX9_caster_22 (by decide) ?_
        have f34 : w 64 = .inr (7, [.ref (ad 65), .ref (ad 66), .ref (ad 67), .ref (ad 68), .long 0, .long 1, .ref (ad 69), .int 0, .ref (ad 70), .ref (ad 71), .int 0, .int 0, .int 0, .int 0, .int 0, .ref (ad 72), .ref (ad 73)]) := F 64 (by decide) (by decide)
        have f35 : w2 64 = .inr (7, [.ref (ad 65), .ref (ad 66), .ref (ad 67), .ref (ad 68), .long 0, .long 1, .ref (ad 69), .int 0, .ref (ad 70), .ref (ad 71), .int 0, .int 0, .int 0, .int 0, .int 0, .ref (ad 72), .ref (ad 73)]) := by rw [e4]; exact f34
        have f36 : w7 64 = .inr (7, [.ref (ad 65), .ref (ad 66), .ref (ad 67), .ref (ad 68), .long 0, .long 1, .ref (ad 69), .int 0, .ref (ad 70), .ref (ad 71), .int 0, .int 0, .int 0, .int 0, .int 0, .ref (ad 72), .ref (ad 73)]) := by rw [e9]; exact f35
        have f37 : w12 64 = .inr (7, [.ref (ad 65), .ref (ad 66), .ref (ad 67), .ref (ad 68), .long 0, .long 1, .ref (ad 69), .int 0, .ref (ad 70), .ref (ad 71), .int 0, .int 0, .int 0, .int 0, .int 0, .ref (ad 72), .ref (ad 73)]) := by rw [e14]; exact f36
        have f38 : w 68 = .inl (cI, 3, .inl (fun _ => 0)) := F 68 (by decide) (by decide)
        have f39 : w2 68 = .inl (cI, 3, .inl (fun _ => 0)) := by rw [e4]; exact f38
        have f40 : w7 68 = .inl (cI, 3, .inl (fun _ => 0)) := by rw [e9]; exact f39
        have f41 : w12 68 = .inl (cI, 3, .inl (fun _ => 0)) := by rw [e14]; exact f40
        refine q_Vi (na := 1) (As := [.int (-2)]) (rest := []) X hD hN h rfl (c_M_bad l G cI cB cZ cO ad w12 (-2) f37 f41) ⟨kw_199, kw_200, kw_201, kw_190, kw_202⟩ rfl ⟨by decide, by decide, by decide⟩ ⟨Nat.le_of_ble_eq_true rfl, Nat.le_of_ble_eq_true rfl⟩ ⟨Nat.zero_le _, Nat.zero_le _⟩ (by decide) f37 rfl rfl hl.1 rfl (Nat.le_of_ble_eq_true rfl) dX9_caster_24 (fun r42 w43 H locs hp44 h => ?_)
        obtain ⟨rfl, hf45⟩ := hp44
        exact e_i X h hr hlk dX9_caster_27 ⟨fun _ => by first | rfl | omega, fun _ => by first | rfl | omega⟩
    · refine lv_if_eq (tgt := 21) hx hb dX9_caster_11 (by decide) (fun _ => ?_) (fun hc => absurd (by decide) hc)
      refine lv_aload_n hx hb dX9_caster_21 rfl (lv_at hl 0 rfl) ?_
      refine lv_bipush (v := (-2)) hx hb dX9_caster_22 (by decide) ?_
      have f46 : w 64 = .inr (7, [.ref (ad 65), .ref (ad 66), .ref (ad 67), .ref (ad 68), .long 0, .long 1, .ref (ad 69), .int 0, .ref (ad 70), .ref (ad 71), .int 0, .int 0, .int 0, .int 0, .int 0, .ref (ad 72), .ref (ad 73)]) := F 64 (by decide) (by decide)
      have f47 : w2 64 = .inr (7, [.ref (ad 65), .ref (ad 66), .ref (ad 67), .ref (ad 68), .long 0, .long 1, .ref (ad 69), .int 0, .ref (ad 70), .ref (ad 71), .int 0, .int 0, .int 0, .int 0, .int 0, .ref (ad 72), .ref (ad 73)]) := by rw [e4]; exact f46
      have f48 : w7 64 = .inr (7, [.ref (ad 65), .ref (ad 66), .ref (ad 67), .ref (ad 68), .long 0, .long 1, .ref (ad 69), .int 0, .ref (ad 70), .ref (ad 71), .int 0, .int 0, .int 0, .int 0, .int 0, .ref (ad 72), .ref (ad 73)]) := by rw [e9]; exact f47
      have f49 : w 68 = .inl (cI, 3, .inl (fun _ => 0)) := F 68 (by decide) (by decide)
      have f50 : w2 68 = .inl (cI, 3, .inl (fun _ => 0)) := by rw [e4]; exact f49
      have f51 : w7 68 = .inl (cI, 3, .inl (fun _ => 0)) := by rw [e9]; exact f50
      refine q_Vi (na := 1) (As := [.int (-2)]) (rest := []) X hD hN h rfl (c_M_bad l G cI cB cZ cO ad w7 (-2) f48 f51) ⟨kw_199, kw_200, kw_201, kw_190, kw_202⟩ rfl ⟨by decide, by decide, by decide⟩ ⟨Nat.le_of_ble_eq_true rfl, Nat.le_of_ble_eq_true rfl⟩ ⟨Nat.zero_le _, Nat.zero_le _⟩ (by decide) f48 rfl rfl hl.1 rfl (Nat.le_of_ble_eq_true rfl) dX9_caster_24 (fun r52 w53 H locs hp54 h => ?_)
      obtain ⟨rfl, hf55⟩ := hp54
      exact e_i X h hr hlk dX9_caster_27 ⟨fun _ => by first | rfl | omega, fun _ => by first | rfl | omega⟩
  · refine lv_if_eq (tgt := 21) hx hb dX9_caster_4 (by decide) (fun _ => ?_) (fun hc => absurd (by decide) hc)
    refine lv_aload_n hx hb dX9_caster_21 rfl (lv_at hl 0 rfl) ?_
    refine lv_bipush (v := (-2)) hx hb dX9_caster_22 (by decide) ?_
    have f56 : w 64 = .inr (7, [.ref (ad 65), .ref (ad 66), .ref (ad 67), .ref (ad 68), .long 0, .long 1, .ref (ad 69), .int 0, .ref (ad 70), .ref (ad 71), .int 0, .int 0, .int 0, .int 0, .int 0, .ref (ad 72), .ref (ad 73)]) := F 64 (by decide) (by decide)
    have f57 : w2 64 = .inr (7, [.ref (ad 65), .ref (ad 66), .ref (ad 67), .ref (ad 68), .long 0, .long 1, .ref (ad 69), .int 0, .ref (ad 70), .ref (ad 71), .int 0, .int 0, .int 0, .int 0, .int 0, .ref (ad 72), .ref (ad 73)]) := by rw [e4]; exact f56
    have f58 : w 68 = .inl (cI, 3, .inl (fun _ => 0)) := F 68 (by decide) (by decide)
    have f59 : w2 68 = .inl (cI, 3, .inl (fun _ => 0)) := by rw [e4]; exact f58
    refine q_Vi (na := 1) (As := [.int (-2)]) (rest := []) X hD hN h rfl (c_M_bad l G cI cB cZ cO ad w2 (-2) f57 f59) ⟨kw_199, kw_200, kw_201, kw_190, kw_202⟩ rfl ⟨by decide, by decide, by decide⟩ ⟨Nat.le_of_ble_eq_true rfl, Nat.le_of_ble_eq_true rfl⟩ ⟨Nat.zero_le _, Nat.zero_le _⟩ (by decide) f57 rfl rfl hl.1 rfl (Nat.le_of_ble_eq_true rfl) dX9_caster_24 (fun r60 w61 H locs hp62 h => ?_)
    obtain ⟨rfl, hf63⟩ := hp62
    exact e_i X h hr hlk dX9_caster_27 ⟨fun _ => by first | rfl | omega, fun _ => by first | rfl | omega⟩

set_option maxHeartbeats 4000000 in
set_option maxRecDepth 100000 in
theorem c_M_jar (l : Launch) (G : va_G) (cI cB cZ cO : ClassId) (ad : Nat → Nat) (w : Nat → va_E) (F : ∀ k, k < 74 → 64 ≤ k → w k = fr0 cI cB cZ cO ad k) (i : Int32) : MI l G (tyq cI cB cZ cO) yX9_jar cX9_jar 2 (some .int) 2 45 74 ad w [.ref (ad 64), .int i] (fun r w1 => (0 ≤ i.toInt ∧ i.toInt ≤ 5 → r = 0) ∧ (¬ (0 ≤ i.toInt ∧ i.toInt ≤ 5) → r = -2)) := by
  refine mk_i (own := "NoonShadeModel") rfl (by decide) (Nat.le_of_ble_eq_true rfl) ?_
  intro p e s m below meth c ls X hD hN hr hlk h hl
  have hx := X.1.1
  have hb := X.1.2.1
  have hown := X.1.2.2.2.1
  have hts := X.1.2.2.2.2
  have hl : lv_has ls 2 [(0, .ref (ad 64)), (1, .int i)] := hl
  refine lv_iload_n hx hb dX9_jar_0 rfl (lv_at hl 1 rfl) ?_
  refine q_Si (na := 1) (As := [.int i]) (rest := []) X hD hN h (c_M_isKind l G cI cB cZ cO ad w i) ⟨kw_211, kw_212, kw_190, kw_213⟩ ⟨by decide, by decide, by decide⟩ ⟨Nat.le_of_ble_eq_true rfl, Nat.le_of_ble_eq_true rfl⟩ ⟨Nat.zero_le _, Nat.zero_le _⟩ rfl hl.1 rfl (Nat.le_of_ble_eq_true rfl) dX9_jar_1 (fun r1 w2 H locs hp3 h => ?_)
  obtain ⟨e4, hp3⟩ := hp3
  rcases hp3 with ⟨hq5a, hq5b, rfl⟩ | ⟨hq5, rfl⟩
  · refine lv_if_ne (tgt := 14) hx hb dX9_jar_4 (by decide) (fun _ => ?_) (fun hc => absurd hc (by decide))
    refine lv_aload_n hx hb dX9_jar_14 rfl (lv_at hl 0 rfl) ?_
    have f6 : w 64 = .inr (7, [.ref (ad 65), .ref (ad 66), .ref (ad 67), .ref (ad 68), .long 0, .long 1, .ref (ad 69), .int 0, .ref (ad 70), .ref (ad 71), .int 0, .int 0, .int 0, .int 0, .int 0, .ref (ad 72), .ref (ad 73)]) := F 64 (by decide) (by decide)
    have f7 : w2 64 = .inr (7, [.ref (ad 65), .ref (ad 66), .ref (ad 67), .ref (ad 68), .long 0, .long 1, .ref (ad 69), .int 0, .ref (ad 70), .ref (ad 71), .int 0, .int 0, .int 0, .int 0, .int 0, .ref (ad 72), .ref (ad 73)]) := by rw [e4]; exact f6
    refine r_get kc9 X h 64 0 (by decide) rfl f7 (by decide) kw_187 rfl dX9_jar_15 ?_
    refine lv_iconst (v := 1) hx hb dX9_jar_18 (by decide) ?_
    have f8 : w 65 = .inl (cI, 177, .inl (fun _ => 0)) := F 65 (by decide) (by decide)
    have f9 : w2 65 = .inl (cI, 177, .inl (fun _ => 0)) := by rw [e4]; exact f8
    refine o_iald (v := 0) X h 65 0 (by decide) rfl f9 rfl (by unfold vp_in; decide) rfl dX9_jar_19 ?_
    refine lv_iconst (v := 4) hx hb dX9_jar_20 (by decide) ?_
    refine lv_icmp_ne (tgt := 29) hx hb dX9_jar_21 (by decide) (fun _ => ?_) (fun hc => absurd hc (by decide))
    refine lv_aload_n hx hb dX9_jar_29 rfl (lv_at hl 0 rfl) ?_
    refine r_get kc9 X h 64 0 (by decide) rfl f7 (by decide) kw_187 rfl dX9_jar_30 ?_
    refine lv_iload_n hx hb dX9_jar_33 rfl (lv_at hl 1 rfl) ?_
    refine q_Sv (na := 2) (As := [.ref (ad 65), .int i]) (rest := []) X hD hN h (c_M_layJar l G cI cB cZ cO ad w2 i f9) ⟨kw_223, kw_224, kw_190, kw_225⟩ ⟨by decide, by decide, by decide⟩ ⟨Nat.le_of_ble_eq_true rfl, Nat.le_of_ble_eq_true rfl⟩ ⟨Nat.zero_le _, Nat.zero_le _⟩ rfl hl.1 rfl (Nat.le_of_ble_eq_true rfl) dX9_jar_34 (fun w11 H locs hp12 h => ?_)
    obtain ⟨f13, hf14⟩ := hp12
    refine lv_aload_n hx hb dX9_jar_37 rfl (lv_at hl 0 rfl) ?_
    have f15 : w11 64 = .inr (7, [.ref (ad 65), .ref (ad 66), .ref (ad 67), .ref (ad 68), .long 0, .long 1, .ref (ad 69), .int 0, .ref (ad 70), .ref (ad 71), .int 0, .int 0, .int 0, .int 0, .int 0, .ref (ad 72), .ref (ad 73)]) := (hf14 64 (by decide)).trans f7
    refine r_get kc9 X h 64 0 (by decide) rfl f15 (by decide) kw_187 rfl dX9_jar_38 ?_
    refine lv_iconst (v := 4) hx hb dX9_jar_41 (by decide) ?_
    refine lv_iconst (v := 0) hx hb dX9_jar_42 (by decide) ?_
    refine o_iast (f1 := upd (upd (upd (fun _ => 0) 37 i) 1 1) 4 0) X hD h 65 0 (by decide) rfl f13 rfl (by unfold vp_in; decide) rfl dX9_jar_43 (fun H locs w16 e17 h => ?_)
    have f18 : w16 65 = .inl (cI, 177, .inl (upd (upd (upd (fun _ => 0) 37 i) 1 1) 4 0)) := (congrFun e17 _).trans (va_up_self _ _ _)
    refine lv_aload_n hx hb dX9_jar_44 rfl (lv_at hl 0 rfl) ?_
    have f19 : w16 64 = .inr (7, [.ref (ad 65), .ref (ad 66), .ref (ad 67), .ref (ad 68), .long 0, .long 1, .ref (ad 69), .int 0, .ref (ad 70), .ref (ad 71), .int 0, .int 0, .int 0, .int 0, .int 0, .ref (ad 72), .ref (ad 73)]) := by rw [e17, va_up_ne _ _ (by decide)]; exact f15
    refine r_get kc9 X h 64 0 (by decide) rfl f19 (by decide) kw_187 rfl dX9_jar_45 ?_
    refine lv_iconst (v := 1) hx hb dX9_jar_48 (by decide) ?_
    refine o_iald (v := 1) X h 65 0 (by decide) rfl f18 rfl (by unfold vp_in; decide) rfl dX9_jar_49 ?_
    refine lv_iconst (v := 1) hx hb dX9_jar_50 (by decide) ?_
    refine o_isub (z := 0) hx hb dX9_jar_51 rfl ?_
    exact e_i X h hr hlk dX9_jar_52 ⟨fun _ => by first | rfl | omega, fun _ => by first | rfl | omega⟩
  · refine lv_if_ne (tgt := 14) hx hb dX9_jar_4 (by decide) (fun hc => absurd (by decide) hc) (fun _ => ?_)
    refine lv_aload_n hx hb dX9_jar_7 rfl (lv_at hl 0 rfl) ?_
    refine lv_bipush (v := (-2)) hx hb dX9_jar_8 (by decide) ?_
    have f20 : w 64 = .inr (7, [.ref (ad 65), .ref (ad 66), .ref (ad 67), .ref (ad 68), .long 0, .long 1, .ref (ad 69), .int 0, .ref (ad 70), .ref (ad 71), .int 0, .int 0, .int 0, .int 0, .int 0, .ref (ad 72), .ref (ad 73)]) := F 64 (by decide) (by decide)
    have f21 : w2 64 = .inr (7, [.ref (ad 65), .ref (ad 66), .ref (ad 67), .ref (ad 68), .long 0, .long 1, .ref (ad 69), .int 0, .ref (ad 70), .ref (ad 71), .int 0, .int 0, .int 0, .int 0, .int 0, .ref (ad 72), .ref (ad 73)]) := by rw [e4]; exact f20
    have f22 : w 68 = .inl (cI, 3, .inl (fun _ => 0)) := F 68 (by decide) (by decide)
    have f23 : w2 68 = .inl (cI, 3, .inl (fun _ => 0)) := by rw [e4]; exact f22
    refine q_Vi (na := 1) (As := [.int (-2)]) (rest := []) X hD hN h rfl (c_M_bad l G cI cB cZ cO ad w2 (-2) f21 f23) ⟨kw_199, kw_200, kw_201, kw_190, kw_202⟩ rfl ⟨by decide, by decide, by decide⟩ ⟨Nat.le_of_ble_eq_true rfl, Nat.le_of_ble_eq_true rfl⟩ ⟨Nat.zero_le _, Nat.zero_le _⟩ (by decide) f21 rfl rfl hl.1 rfl (Nat.le_of_ble_eq_true rfl) dX9_jar_10 (fun r24 w25 H locs hp26 h => ?_)
    obtain ⟨rfl, hf27⟩ := hp26
    exact e_i X h hr hlk dX9_jar_13 ⟨fun _ => by first | rfl | omega, fun _ => by first | rfl | omega⟩

set_option maxHeartbeats 4000000 in
set_option maxRecDepth 100000 in
theorem c_M_type (l : Launch) (G : va_G) (cI cB cZ cO : ClassId) (ad : Nat → Nat) (w : Nat → va_E) (F : ∀ k, k < 74 → 64 ≤ k → w k = fr0 cI cB cZ cO ad k) (i : Int32) : MI l G (tyq cI cB cZ cO) yX9_type cX9_type 2 (some .int) 1 25 74 ad w [.ref (ad 64), .int i] (fun r w1 => (0 ≤ i.toInt ∧ i.toInt ≤ 127 → r = 1) ∧ (¬ (0 ≤ i.toInt ∧ i.toInt ≤ 127) → r = -2)) := by
  refine mk_i (own := "NoonShadeModel") rfl (by decide) (Nat.le_of_ble_eq_true rfl) ?_
  intro p e s m below meth c ls X hD hN hr hlk h hl
  have hx := X.1.1
  have hb := X.1.2.1
  have hown := X.1.2.2.2.1
  have hts := X.1.2.2.2.2
  have hl : lv_has ls 2 [(0, .ref (ad 64)), (1, .int i)] := hl
  refine lv_iload_n hx hb dX9_type_0 rfl (lv_at hl 1 rfl) ?_
  refine lv_i2l (v := i.toInt64) hx hb dX9_type_1 rfl ?_
  refine lv_lconst (v := 0) hx hb dX9_type_2 (by decide) ?_
  refine lv_ldc2 (v := 127) hx hb hown (hts _ kw_226) dX9_type_3 ?_
  refine q_Si (na := 3) (As := [.long i.toInt64, .long 0, .long 127]) (rest := []) X hD hN h (c_M_in l G cI cB cZ cO ad w i.toInt64 0 127 ((i).toInt) 0 127 (Int32.toInt_toInt64 _) rfl rfl) ⟨kw_188, kw_189, kw_190, kw_191⟩ ⟨by decide, by decide, by decide⟩ ⟨Nat.le_of_ble_eq_true rfl, Nat.le_of_ble_eq_true rfl⟩ ⟨Nat.zero_le _, Nat.zero_le _⟩ rfl hl.1 rfl (Nat.le_of_ble_eq_true rfl) dX9_type_6 (fun r1 w2 H locs hp3 h => ?_)
  obtain ⟨e4, hp3⟩ := hp3
  rcases hp3 with ⟨hq5a, hq5b, rfl⟩ | ⟨hq5, rfl⟩
  · refine lv_if_ne (tgt := 19) hx hb dX9_type_9 (by decide) (fun _ => ?_) (fun hc => absurd hc (by decide))
    refine lv_aload_n hx hb dX9_type_19 rfl (lv_at hl 0 rfl) ?_
    have f6 : w 64 = .inr (7, [.ref (ad 65), .ref (ad 66), .ref (ad 67), .ref (ad 68), .long 0, .long 1, .ref (ad 69), .int 0, .ref (ad 70), .ref (ad 71), .int 0, .int 0, .int 0, .int 0, .int 0, .ref (ad 72), .ref (ad 73)]) := F 64 (by decide) (by decide)
    have f7 : w2 64 = .inr (7, [.ref (ad 65), .ref (ad 66), .ref (ad 67), .ref (ad 68), .long 0, .long 1, .ref (ad 69), .int 0, .ref (ad 70), .ref (ad 71), .int 0, .int 0, .int 0, .int 0, .int 0, .ref (ad 72), .ref (ad 73)]) := by rw [e4]; exact f6
    refine r_get kc9 X h 64 10 (by decide) rfl f7 (by decide) kw_227 rfl dX9_type_20 ?_
    refine lv_sipush (v := 150) hx hb dX9_type_23 (by decide) ?_
    refine lv_icmp_ne (tgt := 34) hx hb dX9_type_26 (by decide) (fun _ => ?_) (fun hc => absurd hc (by decide))
    refine lv_aload_n hx hb dX9_type_34 rfl (lv_at hl 0 rfl) ?_
    refine r_get kc9 X h 64 9 (by decide) rfl f7 (by decide) kw_228 rfl dX9_type_35 ?_
    refine lv_aload_n hx hb dX9_type_38 rfl (lv_at hl 0 rfl) ?_
    refine r_get kc9 X h 64 10 (by decide) rfl f7 (by decide) kw_227 rfl dX9_type_39 ?_
    refine lv_iload_n hx hb dX9_type_42 rfl (lv_at hl 1 rfl) ?_
    have f8 : w 71 = .inl (cI, 150, .inl (fun _ => 0)) := F 71 (by decide) (by decide)
    have f9 : w2 71 = .inl (cI, 150, .inl (fun _ => 0)) := by rw [e4]; exact f8
    refine o_iast (f1 := upd (fun _ => 0) 0 i) X hD h 71 0 (by decide) rfl f9 rfl (by unfold vp_in; decide) rfl dX9_type_43 (fun H locs w10 e11 h => ?_)
    have f12 : w10 71 = .inl (cI, 150, .inl (upd (fun _ => 0) 0 i)) := (congrFun e11 _).trans (va_up_self _ _ _)
    refine lv_aload_n hx hb dX9_type_44 rfl (lv_at hl 0 rfl) ?_
    refine lv_dup hx hb dX9_type_45 rfl ?_
    have f13 : w10 64 = .inr (7, [.ref (ad 65), .ref (ad 66), .ref (ad 67), .ref (ad 68), .long 0, .long 1, .ref (ad 69), .int 0, .ref (ad 70), .ref (ad 71), .int 0, .int 0, .int 0, .int 0, .int 0, .ref (ad 72), .ref (ad 73)]) := by rw [e11, va_up_ne _ _ (by decide)]; exact f7
    refine r_get kc9 X h 64 10 (by decide) rfl f13 (by decide) kw_227 rfl dX9_type_46 ?_
    refine lv_iconst (v := 1) hx hb dX9_type_49 (by decide) ?_
    refine o_iadd (z := 1) hx hb dX9_type_50 rfl ?_
    refine r_put kc9 X hD h 64 10 (by decide) rfl f13 (by decide) kw_227 rfl rfl rfl (Nat.le_of_ble_eq_true rfl) dX9_type_51 (fun H locs w14 e15 h => ?_)
    have f16 : w14 64 = .inr (7, [.ref (ad 65), .ref (ad 66), .ref (ad 67), .ref (ad 68), .long 0, .long 1, .ref (ad 69), .int 0, .ref (ad 70), .ref (ad 71), .int 1, .int 0, .int 0, .int 0, .int 0, .ref (ad 72), .ref (ad 73)]) := (congrFun e15 _).trans (va_up_self _ _ _)
    refine lv_aload_n hx hb dX9_type_54 rfl (lv_at hl 0 rfl) ?_
    refine r_get kc9 X h 64 10 (by decide) rfl f16 (by decide) kw_227 rfl dX9_type_55 ?_
    exact e_i X h hr hlk dX9_type_58 ⟨fun _ => by first | rfl | omega, fun _ => by first | rfl | omega⟩
  · refine lv_if_ne (tgt := 19) hx hb dX9_type_9 (by decide) (fun hc => absurd (by decide) hc) (fun _ => ?_)
    refine lv_aload_n hx hb dX9_type_12 rfl (lv_at hl 0 rfl) ?_
    refine lv_bipush (v := (-2)) hx hb dX9_type_13 (by decide) ?_
    have f17 : w 64 = .inr (7, [.ref (ad 65), .ref (ad 66), .ref (ad 67), .ref (ad 68), .long 0, .long 1, .ref (ad 69), .int 0, .ref (ad 70), .ref (ad 71), .int 0, .int 0, .int 0, .int 0, .int 0, .ref (ad 72), .ref (ad 73)]) := F 64 (by decide) (by decide)
    have f18 : w2 64 = .inr (7, [.ref (ad 65), .ref (ad 66), .ref (ad 67), .ref (ad 68), .long 0, .long 1, .ref (ad 69), .int 0, .ref (ad 70), .ref (ad 71), .int 0, .int 0, .int 0, .int 0, .int 0, .ref (ad 72), .ref (ad 73)]) := by rw [e4]; exact f17
    have f19 : w 68 = .inl (cI, 3, .inl (fun _ => 0)) := F 68 (by decide) (by decide)
    have f20 : w2 68 = .inl (cI, 3, .inl (fun _ => 0)) := by rw [e4]; exact f19
    refine q_Vi (na := 1) (As := [.int (-2)]) (rest := []) X hD hN h rfl (c_M_bad l G cI cB cZ cO ad w2 (-2) f18 f20) ⟨kw_199, kw_200, kw_201, kw_190, kw_202⟩ rfl ⟨by decide, by decide, by decide⟩ ⟨Nat.le_of_ble_eq_true rfl, Nat.le_of_ble_eq_true rfl⟩ ⟨Nat.zero_le _, Nat.zero_le _⟩ (by decide) f18 rfl rfl hl.1 rfl (Nat.le_of_ble_eq_true rfl) dX9_type_15 (fun r21 w22 H locs hp23 h => ?_)
    obtain ⟨rfl, hf24⟩ := hp23
    exact e_i X h hr hlk dX9_type_18 ⟨fun _ => by first | rfl | omega, fun _ => by first | rfl | omega⟩

set_option maxHeartbeats 4000000 in
set_option maxRecDepth 100000 in
theorem c_M_clear (l : Launch) (G : va_G) (cI cB cZ cO : ClassId) (ad : Nat → Nat) (w : Nat → va_E) (F : ∀ k, k < 74 → 64 ≤ k → w k = fr0 cI cB cZ cO ad k)  : MI l G (tyq cI cB cZ cO) yX9_clear cX9_clear 2 (some .int) 0 0 74 ad w [.ref (ad 64)] (fun r w1 => r = 0) := by
  refine mk_i (own := "NoonShadeModel") rfl (by decide) (Nat.le_of_ble_eq_true rfl) ?_
  intro p e s m below meth c ls X hD hN hr hlk h hl
  have hx := X.1.1
  have hb := X.1.2.1
  have hown := X.1.2.2.2.1
  have hts := X.1.2.2.2.2
  have hl : lv_has ls 2 [(0, .ref (ad 64))] := hl
  refine lv_aload_n hx hb dX9_clear_0 rfl (lv_at hl 0 rfl) ?_
  have f1 : w 64 = .inr (7, [.ref (ad 65), .ref (ad 66), .ref (ad 67), .ref (ad 68), .long 0, .long 1, .ref (ad 69), .int 0, .ref (ad 70), .ref (ad 71), .int 0, .int 0, .int 0, .int 0, .int 0, .ref (ad 72), .ref (ad 73)]) := F 64 (by decide) (by decide)
  refine r_get kc9 X h 64 10 (by decide) rfl f1 (by decide) kw_227 rfl dX9_clear_1 ?_
  refine lv_istore_n (lv' := [(1, .int 0), (0, .ref (ad 64))]) hx hb dX9_clear_4 rfl hl (by decide) rfl (fun ls hl => ?_)
  refine lv_aload_n hx hb dX9_clear_5 rfl (lv_at hl 1 rfl) ?_
  refine lv_iconst (v := 0) hx hb dX9_clear_6 (by decide) ?_
  refine r_put kc9 X hD h 64 10 (by decide) rfl f1 (by decide) kw_227 rfl rfl rfl (Nat.le_of_ble_eq_true rfl) dX9_clear_7 (fun H locs w2 e3 h => ?_)
  have f4 : w2 64 = .inr (7, [.ref (ad 65), .ref (ad 66), .ref (ad 67), .ref (ad 68), .long 0, .long 1, .ref (ad 69), .int 0, .ref (ad 70), .ref (ad 71), .int 0, .int 0, .int 0, .int 0, .int 0, .ref (ad 72), .ref (ad 73)]) := (congrFun e3 _).trans (va_up_self _ _ _)
  refine lv_iload_n hx hb dX9_clear_10 rfl (lv_at hl 0 rfl) ?_
  exact e_i X h hr hlk dX9_clear_11 rfl

set_option maxHeartbeats 4000000 in
set_option maxRecDepth 100000 in
theorem c_M_read (l : Launch) (G : va_G) (cI cB cZ cO : ClassId) (ad : Nat → Nat) (w : Nat → va_E) (F : ∀ k, k < 74 → 64 ≤ k → w k = fr0 cI cB cZ cO ad k)  : MI l G (tyq cI cB cZ cO) yX9_read cX9_read 3 (some .int) 1 29 74 ad w [.ref (ad 64)] (fun r w1 => r = (-10)) := by
  refine mk_i (own := "NoonShadeModel") rfl (by decide) (Nat.le_of_ble_eq_true rfl) ?_
  intro p e s m below meth c ls X hD hN hr hlk h hl
  have hx := X.1.1
  have hb := X.1.2.1
  have hown := X.1.2.2.2.1
  have hts := X.1.2.2.2.2
  have hl : lv_has ls 3 [(0, .ref (ad 64))] := hl
  refine lv_aload_n hx hb dX9_read_0 rfl (lv_at hl 0 rfl) ?_
  refine lv_iconst (v := 0) hx hb dX9_read_1 (by decide) ?_
  have f1 : w 64 = .inr (7, [.ref (ad 65), .ref (ad 66), .ref (ad 67), .ref (ad 68), .long 0, .long 1, .ref (ad 69), .int 0, .ref (ad 70), .ref (ad 71), .int 0, .int 0, .int 0, .int 0, .int 0, .ref (ad 72), .ref (ad 73)]) := F 64 (by decide) (by decide)
  refine q_Vv (na := 1) (As := [.int 0]) (rest := []) X hD hN h rfl (c_M_lookAt l G cI cB cZ cO ad w f1) ⟨kw_233, kw_234, kw_235, kw_190, kw_236⟩ rfl ⟨by decide, by decide, by decide⟩ ⟨Nat.le_of_ble_eq_true rfl, Nat.le_of_ble_eq_true rfl⟩ ⟨Nat.zero_le _, Nat.zero_le _⟩ (by decide) f1 rfl rfl hl.1 rfl (Nat.le_of_ble_eq_true rfl) dX9_read_2 (fun w3 H locs hp4 h => ?_)
  obtain ⟨f5, hf6⟩ := hp4
  refine lv_aload_n hx hb dX9_read_5 rfl (lv_at hl 0 rfl) ?_
  refine lv_bipush (v := 6) hx hb dX9_read_6 (by decide) ?_
  refine lv_bipush (v := 105) hx hb dX9_read_8 (by decide) ?_
  refine lv_bipush (v := 115) hx hb dX9_read_10 (by decide) ?_
  refine lv_bipush (v := 108) hx hb dX9_read_12 (by decide) ?_
  refine lv_bipush (v := 97) hx hb dX9_read_14 (by decide) ?_
  refine lv_bipush (v := 110) hx hb dX9_read_16 (by decide) ?_
  refine lv_bipush (v := 100) hx hb dX9_read_18 (by decide) ?_
  refine q_Vi (na := 7) (As := [.int 6, .int 105, .int 115, .int 108, .int 97, .int 110, .int 100]) (rest := []) X hD hN h rfl (c_M_spells l G cI cB cZ cO ad w3 105 115 108 97 110 100 f5) ⟨kw_237, kw_238, kw_239, kw_190, kw_240⟩ rfl ⟨by decide, by decide, by decide⟩ ⟨Nat.le_of_ble_eq_true rfl, Nat.le_of_ble_eq_true rfl⟩ ⟨Nat.zero_le _, Nat.zero_le _⟩ (by decide) f5 rfl rfl hl.1 rfl (Nat.le_of_ble_eq_true rfl) dX9_read_20 (fun r7 w8 H locs hp9 h => ?_)
  obtain ⟨e10, rfl⟩ := hp9
  refine lv_if_ne (tgt := 34) hx hb dX9_read_23 (by decide) (fun hc => absurd (by decide) hc) (fun _ => ?_)
  refine lv_bipush (v := (-10)) hx hb dX9_read_26 (by decide) ?_
  refine lv_aload_n hx hb dX9_read_28 rfl (lv_at hl 0 rfl) ?_
  have f11 : w8 64 = .inr (7, [.ref (ad 65), .ref (ad 66), .ref (ad 67), .ref (ad 68), .long 0, .long 1, .ref (ad 69), .int 0, .ref (ad 70), .ref (ad 71), .int 0, .int 0, .int 0, .int 0, .int 0, .ref (ad 72), .ref (ad 73)]) := by rw [e10]; exact f5
  refine r_get kc9 X h 64 11 (by decide) rfl f11 (by decide) kw_229 rfl dX9_read_29 ?_
  refine o_isub (z := (-10)) hx hb dX9_read_32 rfl ?_
  exact e_i X h hr hlk dX9_read_33 rfl

set_option maxHeartbeats 4000000 in
set_option maxRecDepth 100000 in
theorem c_M_undo (l : Launch) (G : va_G) (cI cB cZ cO : ClassId) (ad : Nat → Nat) (w : Nat → va_E) (F : ∀ k, k < 74 → 64 ≤ k → w k = fr0 cI cB cZ cO ad k)  : MI l G (tyq cI cB cZ cO) yX9_undo cX9_undo 2 (some .int) 1 20 74 ad w [.ref (ad 64)] (fun r w1 => r = (-3)) := by
  refine mk_i (own := "NoonShadeModel") rfl (by decide) (Nat.le_of_ble_eq_true rfl) ?_
  intro p e s m below meth c ls X hD hN hr hlk h hl
  have hx := X.1.1
  have hb := X.1.2.1
  have hown := X.1.2.2.2.1
  have hts := X.1.2.2.2.2
  have hl : lv_has ls 2 [(0, .ref (ad 64))] := hl
  refine lv_aload_n hx hb dX9_undo_0 rfl (lv_at hl 0 rfl) ?_
  have f1 : w 64 = .inr (7, [.ref (ad 65), .ref (ad 66), .ref (ad 67), .ref (ad 68), .long 0, .long 1, .ref (ad 69), .int 0, .ref (ad 70), .ref (ad 71), .int 0, .int 0, .int 0, .int 0, .int 0, .ref (ad 72), .ref (ad 73)]) := F 64 (by decide) (by decide)
  refine r_get kc9 X h 64 0 (by decide) rfl f1 (by decide) kw_187 rfl dX9_undo_1 ?_
  refine lv_iconst (v := 4) hx hb dX9_undo_4 (by decide) ?_
  have f2 : w 65 = .inl (cI, 177, .inl (fun _ => 0)) := F 65 (by decide) (by decide)
  refine o_iald (v := 0) X h 65 0 (by decide) rfl f2 rfl (by unfold vp_in; decide) rfl dX9_undo_5 ?_
  refine lv_if_ne (tgt := 14) hx hb dX9_undo_6 (by decide) (fun hc => absurd (by decide) hc) (fun _ => ?_)
  refine lv_aload_n hx hb dX9_undo_9 rfl (lv_at hl 0 rfl) ?_
  have f3 : w 68 = .inl (cI, 3, .inl (fun _ => 0)) := F 68 (by decide) (by decide)
  refine q_Vi (na := 0) (As := []) (rest := []) X hD hN h rfl (c_M_no l G cI cB cZ cO ad w f1 f3) ⟨kw_241, kw_242, kw_243, kw_190, kw_244⟩ rfl ⟨by decide, by decide, by decide⟩ ⟨Nat.le_of_ble_eq_true rfl, Nat.le_of_ble_eq_true rfl⟩ ⟨Nat.zero_le _, Nat.zero_le _⟩ (by decide) f1 rfl rfl hl.1 rfl (Nat.le_of_ble_eq_true rfl) dX9_undo_10 (fun r4 w5 H locs hp6 h => ?_)
  obtain ⟨rfl, hf7⟩ := hp6
  exact e_i X h hr hlk dX9_undo_13 rfl

set_option maxHeartbeats 4000000 in
set_option maxRecDepth 100000 in
theorem c_M_forget (l : Launch) (G : va_G) (cI cB cZ cO : ClassId) (ad : Nat → Nat) (w : Nat → va_E) (F : ∀ k, k < 74 → 64 ≤ k → w k = fr0 cI cB cZ cO ad k) (u : Int32) : MI l G (tyq cI cB cZ cO) yX9_forget cX9_forget 3 (some .int) 1 25 74 ad w [.ref (ad 64), .int u] (fun r w1 => (u.toInt = 0 ∨ u.toInt = 1 → r = 0) ∧ (¬ (u.toInt = 0 ∨ u.toInt = 1) → r = -2)) := by
  refine mk_i (own := "NoonShadeModel") rfl (by decide) (Nat.le_of_ble_eq_true rfl) ?_
  intro p e s m below meth c ls X hD hN hr hlk h hl
  have hx := X.1.1
  have hb := X.1.2.1
  have hown := X.1.2.2.2.1
  have hts := X.1.2.2.2.2
  have hl : lv_has ls 3 [(0, .ref (ad 64)), (1, .int u)] := hl
  refine lv_iload_n hx hb dX9_forget_0 rfl (lv_at hl 1 rfl) ?_
  refine lv_i2l (v := u.toInt64) hx hb dX9_forget_1 rfl ?_
  refine lv_lconst (v := 0) hx hb dX9_forget_2 (by decide) ?_
  refine lv_lconst (v := 1) hx hb dX9_forget_3 (by decide) ?_
  refine q_Si (na := 3) (As := [.long u.toInt64, .long 0, .long 1]) (rest := []) X hD hN h (c_M_in l G cI cB cZ cO ad w u.toInt64 0 1 ((u).toInt) 0 1 (Int32.toInt_toInt64 _) rfl rfl) ⟨kw_188, kw_189, kw_190, kw_191⟩ ⟨by decide, by decide, by decide⟩ ⟨Nat.le_of_ble_eq_true rfl, Nat.le_of_ble_eq_true rfl⟩ ⟨Nat.zero_le _, Nat.zero_le _⟩ rfl hl.1 rfl (Nat.le_of_ble_eq_true rfl) dX9_forget_4 (fun r1 w2 H locs hp3 h => ?_)
  obtain ⟨e4, hp3⟩ := hp3
  rcases hp3 with ⟨hq5a, hq5b, rfl⟩ | ⟨hq5, rfl⟩
  · refine lv_if_ne (tgt := 17) hx hb dX9_forget_7 (by decide) (fun _ => ?_) (fun hc => absurd hc (by decide))
    refine lv_aload_n hx hb dX9_forget_17 rfl (lv_at hl 0 rfl) ?_
    have f6 : w 64 = .inr (7, [.ref (ad 65), .ref (ad 66), .ref (ad 67), .ref (ad 68), .long 0, .long 1, .ref (ad 69), .int 0, .ref (ad 70), .ref (ad 71), .int 0, .int 0, .int 0, .int 0, .int 0, .ref (ad 72), .ref (ad 73)]) := F 64 (by decide) (by decide)
    have f7 : w2 64 = .inr (7, [.ref (ad 65), .ref (ad 66), .ref (ad 67), .ref (ad 68), .long 0, .long 1, .ref (ad 69), .int 0, .ref (ad 70), .ref (ad 71), .int 0, .int 0, .int 0, .int 0, .int 0, .ref (ad 72), .ref (ad 73)]) := by rw [e4]; exact f6
    refine r_get kc9 X h 64 0 (by decide) rfl f7 (by decide) kw_187 rfl dX9_forget_18 ?_
    refine lv_iconst (v := 2) hx hb dX9_forget_21 (by decide) ?_
    refine lv_iload_n hx hb dX9_forget_22 rfl (lv_at hl 1 rfl) ?_
    refine o_iadd (z := (2 : Int32) + u) hx hb dX9_forget_23 rfl ?_
    have f8 : w 65 = .inl (cI, 177, .inl (fun _ => 0)) := F 65 (by decide) (by decide)
    have f9 : w2 65 = .inl (cI, 177, .inl (fun _ => 0)) := by rw [e4]; exact f8
    refine o_iald (v := 0) X h 65 0 (by decide) rfl f9 rfl (in_of (by rw [fb_addI (by show -2147483648 ≤ 2 + u.toInt; omega) (by show 2 + u.toInt < 2147483648; omega)]; show 0 ≤ 2 + u.toInt; omega) (by rw [fb_addI (by show -2147483648 ≤ 2 + u.toInt; omega) (by show 2 + u.toInt < 2147483648; omega)]; show 2 + u.toInt < 177; omega)) rfl dX9_forget_24 ?_
    refine lv_istore_n (lv' := [(2, .int 0), (0, .ref (ad 64)), (1, .int u)]) hx hb dX9_forget_25 rfl hl (by decide) rfl (fun ls hl => ?_)
    refine lv_aload_n hx hb dX9_forget_26 rfl (lv_at hl 1 rfl) ?_
    refine r_get kc9 X h 64 0 (by decide) rfl f7 (by decide) kw_187 rfl dX9_forget_27 ?_
    refine lv_iconst (v := 2) hx hb dX9_forget_30 (by decide) ?_
    refine lv_iload_n hx hb dX9_forget_31 rfl (lv_at hl 2 rfl) ?_
    refine o_iadd (z := (2 : Int32) + u) hx hb dX9_forget_32 rfl ?_
    refine lv_iconst (v := 0) hx hb dX9_forget_33 (by decide) ?_
    refine o_iast (f1 := fun _ => 0) X hD h 65 0 (by decide) rfl f9 rfl (in_of (by rw [fb_addI (by show -2147483648 ≤ 2 + u.toInt; omega) (by show 2 + u.toInt < 2147483648; omega)]; show 0 ≤ 2 + u.toInt; omega) (by rw [fb_addI (by show -2147483648 ≤ 2 + u.toInt; omega) (by show 2 + u.toInt < 2147483648; omega)]; show 2 + u.toInt < 177; omega)) (upd0 _) dX9_forget_34 (fun H locs w10 e11 h => ?_)
    have f12 : w10 65 = .inl (cI, 177, .inl (fun _ => 0)) := (congrFun e11 _).trans (va_up_self _ _ _)
    refine lv_iload_n hx hb dX9_forget_35 rfl (lv_at hl 0 rfl) ?_
    exact e_i X h hr hlk dX9_forget_36 ⟨fun _ => by first | rfl | omega, fun _ => by first | rfl | omega⟩
  · refine lv_if_ne (tgt := 17) hx hb dX9_forget_7 (by decide) (fun hc => absurd (by decide) hc) (fun _ => ?_)
    refine lv_aload_n hx hb dX9_forget_10 rfl (lv_at hl 0 rfl) ?_
    refine lv_bipush (v := (-2)) hx hb dX9_forget_11 (by decide) ?_
    have f13 : w 64 = .inr (7, [.ref (ad 65), .ref (ad 66), .ref (ad 67), .ref (ad 68), .long 0, .long 1, .ref (ad 69), .int 0, .ref (ad 70), .ref (ad 71), .int 0, .int 0, .int 0, .int 0, .int 0, .ref (ad 72), .ref (ad 73)]) := F 64 (by decide) (by decide)
    have f14 : w2 64 = .inr (7, [.ref (ad 65), .ref (ad 66), .ref (ad 67), .ref (ad 68), .long 0, .long 1, .ref (ad 69), .int 0, .ref (ad 70), .ref (ad 71), .int 0, .int 0, .int 0, .int 0, .int 0, .ref (ad 72), .ref (ad 73)]) := by rw [e4]; exact f13
    have f15 : w 68 = .inl (cI, 3, .inl (fun _ => 0)) := F 68 (by decide) (by decide)
    have f16 : w2 68 = .inl (cI, 3, .inl (fun _ => 0)) := by rw [e4]; exact f15
    refine q_Vi (na := 1) (As := [.int (-2)]) (rest := []) X hD hN h rfl (c_M_bad l G cI cB cZ cO ad w2 (-2) f14 f16) ⟨kw_199, kw_200, kw_201, kw_190, kw_202⟩ rfl ⟨by decide, by decide, by decide⟩ ⟨Nat.le_of_ble_eq_true rfl, Nat.le_of_ble_eq_true rfl⟩ ⟨Nat.zero_le _, Nat.zero_le _⟩ (by decide) f14 rfl rfl hl.1 rfl (Nat.le_of_ble_eq_true rfl) dX9_forget_13 (fun r17 w18 H locs hp19 h => ?_)
    obtain ⟨rfl, hf20⟩ := hp19
    exact e_i X h hr hlk dX9_forget_16 ⟨fun _ => by first | rfl | omega, fun _ => by first | rfl | omega⟩

set_option maxHeartbeats 4000000 in
set_option maxRecDepth 100000 in
theorem c_M_hours (l : Launch) (G : va_G) (cI cB cZ cO : ClassId) (ad : Nat → Nat) (w : Nat → va_E) (F : ∀ k, k < 74 → 64 ≤ k → w k = fr0 cI cB cZ cO ad k) (i : Int32) : MI l G (tyq cI cB cZ cO) yX9_hours cX9_hours 2 (some .int) 2 43 74 ad w [.ref (ad 64), .int i] (fun r w1 => (1 ≤ i.toInt ∧ i.toInt ≤ 60 → r = i) ∧ (¬ (1 ≤ i.toInt ∧ i.toInt ≤ 60) → r = -2)) := by
  refine mk_i (own := "NoonShadeModel") rfl (by decide) (Nat.le_of_ble_eq_true rfl) ?_
  intro p e s m below meth c ls X hD hN hr hlk h hl
  have hx := X.1.1
  have hb := X.1.2.1
  have hown := X.1.2.2.2.1
  have hts := X.1.2.2.2.2
  have hl : lv_has ls 2 [(0, .ref (ad 64)), (1, .int i)] := hl
  refine lv_iload_n hx hb dX9_hours_0 rfl (lv_at hl 1 rfl) ?_
  refine lv_i2l (v := i.toInt64) hx hb dX9_hours_1 rfl ?_
  refine lv_lconst (v := 1) hx hb dX9_hours_2 (by decide) ?_
  refine lv_ldc2 (v := 60) hx hb hown (hts _ kw_248) dX9_hours_3 ?_
  refine q_Si (na := 3) (As := [.long i.toInt64, .long 1, .long 60]) (rest := []) X hD hN h (c_M_in l G cI cB cZ cO ad w i.toInt64 1 60 ((i).toInt) 1 60 (Int32.toInt_toInt64 _) rfl rfl) ⟨kw_188, kw_189, kw_190, kw_191⟩ ⟨by decide, by decide, by decide⟩ ⟨Nat.le_of_ble_eq_true rfl, Nat.le_of_ble_eq_true rfl⟩ ⟨Nat.zero_le _, Nat.zero_le _⟩ rfl hl.1 rfl (Nat.le_of_ble_eq_true rfl) dX9_hours_6 (fun r1 w2 H locs hp3 h => ?_)
  obtain ⟨e4, hp3⟩ := hp3
  rcases hp3 with ⟨hq5a, hq5b, rfl⟩ | ⟨hq5, rfl⟩
  · refine lv_if_ne (tgt := 19) hx hb dX9_hours_9 (by decide) (fun _ => ?_) (fun hc => absurd hc (by decide))
    refine lv_aload_n hx hb dX9_hours_19 rfl (lv_at hl 0 rfl) ?_
    have f6 : w 64 = .inr (7, [.ref (ad 65), .ref (ad 66), .ref (ad 67), .ref (ad 68), .long 0, .long 1, .ref (ad 69), .int 0, .ref (ad 70), .ref (ad 71), .int 0, .int 0, .int 0, .int 0, .int 0, .ref (ad 72), .ref (ad 73)]) := F 64 (by decide) (by decide)
    have f7 : w2 64 = .inr (7, [.ref (ad 65), .ref (ad 66), .ref (ad 67), .ref (ad 68), .long 0, .long 1, .ref (ad 69), .int 0, .ref (ad 70), .ref (ad 71), .int 0, .int 0, .int 0, .int 0, .int 0, .ref (ad 72), .ref (ad 73)]) := by rw [e4]; exact f6
    have f8 : w 65 = .inl (cI, 177, .inl (fun _ => 0)) := F 65 (by decide) (by decide)
    have f9 : w2 65 = .inl (cI, 177, .inl (fun _ => 0)) := by rw [e4]; exact f8
    refine q_Vv (na := 0) (As := []) (rest := []) X hD hN h rfl (c_M_save l G cI cB cZ cO ad w2 f7 f9) ⟨kw_249, kw_250, kw_251, kw_190, kw_252⟩ rfl ⟨by decide, by decide, by decide⟩ ⟨Nat.le_of_ble_eq_true rfl, Nat.le_of_ble_eq_true rfl⟩ ⟨Nat.zero_le _, Nat.zero_le _⟩ (by decide) f7 rfl rfl hl.1 rfl (Nat.le_of_ble_eq_true rfl) dX9_hours_20 (fun w11 H locs hp12 h => ?_)
    obtain ⟨f13, hf14⟩ := hp12
    refine lv_aload_n hx hb dX9_hours_23 rfl (lv_at hl 0 rfl) ?_
    have f15 : w11 64 = .inr (7, [.ref (ad 65), .ref (ad 66), .ref (ad 67), .ref (ad 68), .long 0, .long 1, .ref (ad 69), .int 0, .ref (ad 70), .ref (ad 71), .int 0, .int 0, .int 0, .int 0, .int 0, .ref (ad 72), .ref (ad 73)]) := (hf14 64 (by decide)).trans f7
    refine r_get kc9 X h 64 0 (by decide) rfl f15 (by decide) kw_187 rfl dX9_hours_24 ?_
    refine lv_iload_n hx hb dX9_hours_27 rfl (lv_at hl 1 rfl) ?_
    have f16 : w11 65 = .inl (cI, 177, .inl (hz 1 0)) := by rw [f13, hz0]
    refine q_Sv (na := 2) (As := [.ref (ad 65), .int i]) (rest := []) X hD hN h (c_M_goHours l G cI cB cZ cO ad w11 i (by omega) (by omega) f16) ⟨kw_253, kw_254, kw_190, kw_255⟩ ⟨by decide, by decide, by decide⟩ ⟨Nat.le_of_ble_eq_true rfl, Nat.le_of_ble_eq_true rfl⟩ ⟨Nat.zero_le _, Nat.zero_le _⟩ rfl hl.1 rfl (Nat.le_of_ble_eq_true rfl) dX9_hours_28 (fun w18 H locs hp19 h => ?_)
    obtain ⟨f20, hf21⟩ := hp19
    refine lv_aload_n hx hb dX9_hours_31 rfl (lv_at hl 0 rfl) ?_
    have f22 : w18 64 = .inr (7, [.ref (ad 65), .ref (ad 66), .ref (ad 67), .ref (ad 68), .long 0, .long 1, .ref (ad 69), .int 0, .ref (ad 70), .ref (ad 71), .int 0, .int 0, .int 0, .int 0, .int 0, .ref (ad 72), .ref (ad 73)]) := (hf21 64 (by decide)).trans f15
    refine r_get kc9 X h 64 0 (by decide) rfl f22 (by decide) kw_187 rfl dX9_hours_32 ?_
    refine lv_iconst (v := 5) hx hb dX9_hours_35 (by decide) ?_
    refine o_iald (v := i) X h 65 0 (by decide) rfl f20 rfl (by unfold vp_in; decide) rfl dX9_hours_36 ?_
    exact e_i X h hr hlk dX9_hours_37 ⟨fun _ => by first | rfl | omega, fun _ => by first | rfl | omega⟩
  · refine lv_if_ne (tgt := 19) hx hb dX9_hours_9 (by decide) (fun hc => absurd (by decide) hc) (fun _ => ?_)
    refine lv_aload_n hx hb dX9_hours_12 rfl (lv_at hl 0 rfl) ?_
    refine lv_bipush (v := (-2)) hx hb dX9_hours_13 (by decide) ?_
    have f23 : w 64 = .inr (7, [.ref (ad 65), .ref (ad 66), .ref (ad 67), .ref (ad 68), .long 0, .long 1, .ref (ad 69), .int 0, .ref (ad 70), .ref (ad 71), .int 0, .int 0, .int 0, .int 0, .int 0, .ref (ad 72), .ref (ad 73)]) := F 64 (by decide) (by decide)
    have f24 : w2 64 = .inr (7, [.ref (ad 65), .ref (ad 66), .ref (ad 67), .ref (ad 68), .long 0, .long 1, .ref (ad 69), .int 0, .ref (ad 70), .ref (ad 71), .int 0, .int 0, .int 0, .int 0, .int 0, .ref (ad 72), .ref (ad 73)]) := by rw [e4]; exact f23
    have f25 : w 68 = .inl (cI, 3, .inl (fun _ => 0)) := F 68 (by decide) (by decide)
    have f26 : w2 68 = .inl (cI, 3, .inl (fun _ => 0)) := by rw [e4]; exact f25
    refine q_Vi (na := 1) (As := [.int (-2)]) (rest := []) X hD hN h rfl (c_M_bad l G cI cB cZ cO ad w2 (-2) f24 f26) ⟨kw_199, kw_200, kw_201, kw_190, kw_202⟩ rfl ⟨by decide, by decide, by decide⟩ ⟨Nat.le_of_ble_eq_true rfl, Nat.le_of_ble_eq_true rfl⟩ ⟨Nat.zero_le _, Nat.zero_le _⟩ (by decide) f24 rfl rfl hl.1 rfl (Nat.le_of_ble_eq_true rfl) dX9_hours_15 (fun r27 w28 H locs hp29 h => ?_)
    obtain ⟨rfl, hf30⟩ := hp29
    exact e_i X h hr hlk dX9_hours_18 ⟨fun _ => by first | rfl | omega, fun _ => by first | rfl | omega⟩

set_option maxHeartbeats 4000000 in
set_option maxRecDepth 100000 in
theorem c_M_two (l : Launch) (G : va_G) (cI cB cZ cO : ClassId) (ad : Nat → Nat) (w : Nat → va_E) (F : ∀ k, k < 74 → 64 ≤ k → w k = fr0 cI cB cZ cO ad k) (k : Int32) : MI l G (tyq cI cB cZ cO) yX9_two cX9_two 5 (some .int) 3 67 74 ad w [.ref (ad 64), .int k] (fun r w1 => (k.toInt < -1 → r = -10) ∧ (k.toInt = -1 → r = 0) ∧ (-1 < k.toInt → r = -5)) := by
  refine mk_i (own := "NoonShadeModel") rfl (by decide) (Nat.le_of_ble_eq_true rfl) ?_
  intro p e s m below meth c ls X hD hN hr hlk h hl
  have hx := X.1.1
  have hb := X.1.2.1
  have hown := X.1.2.2.2.1
  have hts := X.1.2.2.2.2
  have hl : lv_has ls 5 [(0, .ref (ad 64)), (1, .int k)] := hl
  refine lv_iload_n hx hb dX9_two_0 rfl (lv_at hl 1 rfl) ?_
  refine lv_iconst (v := (-1)) hx hb dX9_two_1 (by decide) ?_
  refine lv_icmp_ge (tgt := 12) hx hb dX9_two_2 (by decide) (fun hc1 => ?_) (fun hc1 => ?_)
  · have hc1 : (-1) ≤ (k).toInt := i_le hc1 rfl rfl
    refine lv_iconst (v := 0) hx hb dX9_two_12 (by decide) ?_
    refine lv_istore_n (lv' := [(2, .int 0), (0, .ref (ad 64)), (1, .int k)]) hx hb dX9_two_13 rfl hl (by decide) rfl (fun ls hl => ?_)
    refine lv_iconst (v := 0) hx hb dX9_two_14 (by decide) ?_
    refine lv_istore_n (lv' := [(3, .int 0), (2, .int 0), (0, .ref (ad 64)), (1, .int k)]) hx hb dX9_two_15 rfl hl (by decide) rfl (fun ls hl => ?_)
    refine lv_iload_n hx hb dX9_two_16 rfl (lv_at hl 0 rfl) ?_
    refine lv_bipush (v := 7) hx hb dX9_two_17 (by decide) ?_
    refine lv_icmp_ge (tgt := 87) hx hb dX9_two_19 (by decide) (fun hc => absurd hc (by decide)) (fun _ => ?_)
    refine lv_iconst (v := 0) hx hb dX9_two_22 (by decide) ?_
    refine lv_istore (lv' := [(4, .int 0), (3, .int 0), (2, .int 0), (0, .ref (ad 64)), (1, .int k)]) hx hb dX9_two_23 hl (by decide) rfl (fun ls hl => ?_)
    refine lv_iload hx hb dX9_two_25 (lv_at hl 0 rfl) ?_
    refine lv_bipush (v := 7) hx hb dX9_two_27 (by decide) ?_
    refine lv_icmp_ge (tgt := 81) hx hb dX9_two_29 (by decide) (fun hc => absurd hc (by decide)) (fun _ => ?_)
    refine lv_aload_n hx hb dX9_two_32 rfl (lv_at hl 3 rfl) ?_
    refine lv_iload_n hx hb dX9_two_33 rfl (lv_at hl 1 rfl) ?_
    have f2 : w 64 = .inr (7, [.ref (ad 65), .ref (ad 66), .ref (ad 67), .ref (ad 68), .long 0, .long 1, .ref (ad 69), .int 0, .ref (ad 70), .ref (ad 71), .int 0, .int 0, .int 0, .int 0, .int 0, .ref (ad 72), .ref (ad 73)]) := F 64 (by decide) (by decide)
    have f3 : w 65 = .inl (cI, 177, .inl (fun _ => 0)) := F 65 (by decide) (by decide)
    refine q_Vi (na := 1) (As := [.int 0]) (rest := []) X hD hN h rfl (c_M_mayName l G cI cB cZ cO ad w 0 f2 f3) ⟨kw_256, kw_257, kw_258, kw_190, kw_259⟩ rfl ⟨by decide, by decide, by decide⟩ ⟨Nat.le_of_ble_eq_true rfl, Nat.le_of_ble_eq_true rfl⟩ ⟨Nat.zero_le _, Nat.zero_le _⟩ (by decide) f2 rfl rfl hl.1 rfl (Nat.le_of_ble_eq_true rfl) dX9_two_34 (fun r4 w5 H locs hp6 h => ?_)
    obtain ⟨e7, rfl⟩ := hp6
    refine lv_if_eq (tgt := 75) hx hb dX9_two_37 (by decide) (fun _ => ?_) (fun hc => absurd (by decide) hc)
    refine lv_iinc (v := 1) (lv' := [(4, .int 1), (3, .int 0), (2, .int 0), (0, .ref (ad 64)), (1, .int k)]) hx hb dX9_two_75 hl (k := 0) rfl rfl (by decide) rfl (fun ls hl => ?_)
    refine lv_goto (tgt := 25) hx hb dX9_two_78 (by decide) ?_
    refine lv_iload hx hb dX9_two_25 (lv_at hl 0 rfl) ?_
    refine lv_bipush (v := 7) hx hb dX9_two_27 (by decide) ?_
    refine lv_icmp_ge (tgt := 81) hx hb dX9_two_29 (by decide) (fun hc => absurd hc (by decide)) (fun _ => ?_)
    refine lv_aload_n hx hb dX9_two_32 rfl (lv_at hl 3 rfl) ?_
    refine lv_iload_n hx hb dX9_two_33 rfl (lv_at hl 1 rfl) ?_
    have f8 : w5 64 = .inr (7, [.ref (ad 65), .ref (ad 66), .ref (ad 67), .ref (ad 68), .long 0, .long 1, .ref (ad 69), .int 0, .ref (ad 70), .ref (ad 71), .int 0, .int 0, .int 0, .int 0, .int 0, .ref (ad 72), .ref (ad 73)]) := by rw [e7]; exact f2
    have f9 : w5 65 = .inl (cI, 177, .inl (fun _ => 0)) := by rw [e7]; exact f3
    refine q_Vi (na := 1) (As := [.int 0]) (rest := []) X hD hN h rfl (c_M_mayName l G cI cB cZ cO ad w5 0 f8 f9) ⟨kw_256, kw_257, kw_258, kw_190, kw_259⟩ rfl ⟨by decide, by decide, by decide⟩ ⟨Nat.le_of_ble_eq_true rfl, Nat.le_of_ble_eq_true rfl⟩ ⟨Nat.zero_le _, Nat.zero_le _⟩ (by decide) f8 rfl rfl hl.1 rfl (Nat.le_of_ble_eq_true rfl) dX9_two_34 (fun r10 w11 H locs hp12 h => ?_)
    obtain ⟨e13, rfl⟩ := hp12
    refine lv_if_eq (tgt := 75) hx hb dX9_two_37 (by decide) (fun _ => ?_) (fun hc => absurd (by decide) hc)
    refine lv_iinc (v := 2) (lv' := [(4, .int 2), (3, .int 0), (2, .int 0), (0, .ref (ad 64)), (1, .int k)]) hx hb dX9_two_75 hl (k := 0) rfl rfl (by decide) rfl (fun ls hl => ?_)
    refine lv_goto (tgt := 25) hx hb dX9_two_78 (by decide) ?_
    refine lv_iload hx hb dX9_two_25 (lv_at hl 0 rfl) ?_
    refine lv_bipush (v := 7) hx hb dX9_two_27 (by decide) ?_
    refine lv_icmp_ge (tgt := 81) hx hb dX9_two_29 (by decide) (fun hc => absurd hc (by decide)) (fun _ => ?_)
    refine lv_aload_n hx hb dX9_two_32 rfl (lv_at hl 3 rfl) ?_
    refine lv_iload_n hx hb dX9_two_33 rfl (lv_at hl 1 rfl) ?_
    have f14 : w11 64 = .inr (7, [.ref (ad 65), .ref (ad 66), .ref (ad 67), .ref (ad 68), .long 0, .long 1, .ref (ad 69), .int 0, .ref (ad 70), .ref (ad 71), .int 0, .int 0, .int 0, .int 0, .int 0, .ref (ad 72), .ref (ad 73)]) := by rw [e13]; exact f8
    have f15 : w11 65 = .inl (cI, 177, .inl (fun _ => 0)) := by rw [e13]; exact f9
    refine q_Vi (na := 1) (As := [.int 0]) (rest := []) X hD hN h rfl (c_M_mayName l G cI cB cZ cO ad w11 0 f14 f15) ⟨kw_256, kw_257, kw_258, kw_190, kw_259⟩ rfl ⟨by decide, by decide, by decide⟩ ⟨Nat.le_of_ble_eq_true rfl, Nat.le_of_ble_eq_true rfl⟩ ⟨Nat.zero_le _, Nat.zero_le _⟩ (by decide) f14 rfl rfl hl.1 rfl (Nat.le_of_ble_eq_true rfl) dX9_two_34 (fun r16 w17 H locs hp18 h => ?_)
    obtain ⟨e19, rfl⟩ := hp18
    refine lv_if_eq (tgt := 75) hx hb dX9_two_37 (by decide) (fun _ => ?_) (fun hc => absurd (by decide) hc)
    refine lv_iinc (v := 3) (lv' := [(4, .int 3), (3, .int 0), (2, .int 0), (0, .ref (ad 64)), (1, .int k)]) hx hb dX9_two_75 hl (k := 0) rfl rfl (by decide) rfl (fun ls hl => ?_)
    refine lv_goto (tgt := 25) hx hb dX9_two_78 (by decide) ?_
    refine lv_iload hx hb dX9_two_25 (lv_at hl 0 rfl) ?_
    refine lv_bipush (v := 7) hx hb dX9_two_27 (by decide) ?_
    refine lv_icmp_ge (tgt := 81) hx hb dX9_two_29 (by decide) (fun hc => absurd hc (by decide)) (fun _ => ?_)
    refine lv_aload_n hx hb dX9_two_32 rfl (lv_at hl 3 rfl) ?_
    refine lv_iload_n hx hb dX9_two_33 rfl (lv_at hl 1 rfl) ?_
    have f20 : w17 64 = .inr (7, [.ref (ad 65), .ref (ad 66), .ref (ad 67), .ref (ad 68), .long 0, .long 1, .ref (ad 69), .int 0, .ref (ad 70), .ref (ad 71), .int 0, .int 0, .int 0, .int 0, .int 0, .ref (ad 72), .ref (ad 73)]) := by rw [e19]; exact f14
    have f21 : w17 65 = .inl (cI, 177, .inl (fun _ => 0)) := by rw [e19]; exact f15
    refine q_Vi (na := 1) (As := [.int 0]) (rest := []) X hD hN h rfl (c_M_mayName l G cI cB cZ cO ad w17 0 f20 f21) ⟨kw_256, kw_257, kw_258, kw_190, kw_259⟩ rfl ⟨by decide, by decide, by decide⟩ ⟨Nat.le_of_ble_eq_true rfl, Nat.le_of_ble_eq_true rfl⟩ ⟨Nat.zero_le _, Nat.zero_le _⟩ (by decide) f20 rfl rfl hl.1 rfl (Nat.le_of_ble_eq_true rfl) dX9_two_34 (fun r22 w23 H locs hp24 h => ?_)
    obtain ⟨e25, rfl⟩ := hp24
    refine lv_if_eq (tgt := 75) hx hb dX9_two_37 (by decide) (fun _ => ?_) (fun hc => absurd (by decide) hc)
    refine lv_iinc (v := 4) (lv' := [(4, .int 4), (3, .int 0), (2, .int 0), (0, .ref (ad 64)), (1, .int k)]) hx hb dX9_two_75 hl (k := 0) rfl rfl (by decide) rfl (fun ls hl => ?_)
    refine lv_goto (tgt := 25) hx hb dX9_two_78 (by decide) ?_
    refine lv_iload hx hb dX9_two_25 (lv_at hl 0 rfl) ?_
    refine lv_bipush (v := 7) hx hb dX9_two_27 (by decide) ?_
    refine lv_icmp_ge (tgt := 81) hx hb dX9_two_29 (by decide) (fun hc => absurd hc (by decide)) (fun _ => ?_)
    refine lv_aload_n hx hb dX9_two_32 rfl (lv_at hl 3 rfl) ?_
    refine lv_iload_n hx hb dX9_two_33 rfl (lv_at hl 1 rfl) ?_
    have f26 : w23 64 = .inr (7, [.ref (ad 65), .ref (ad 66), .ref (ad 67), .ref (ad 68), .long 0, .long 1, .ref (ad 69), .int 0, .ref (ad 70), .ref (ad 71), .int 0, .int 0, .int 0, .int 0, .int 0, .ref (ad 72), .ref (ad 73)]) := by rw [e25]; exact f20
    have f27 : w23 65 = .inl (cI, 177, .inl (fun _ => 0)) := by rw [e25]; exact f21
    refine q_Vi (na := 1) (As := [.int 0]) (rest := []) X hD hN h rfl (c_M_mayName l G cI cB cZ cO ad w23 0 f26 f27) ⟨kw_256, kw_257, kw_258, kw_190, kw_259⟩ rfl ⟨by decide, by decide, by decide⟩ ⟨Nat.le_of_ble_eq_true rfl, Nat.le_of_ble_eq_true rfl⟩ ⟨Nat.zero_le _, Nat.zero_le _⟩ (by decide) f26 rfl rfl hl.1 rfl (Nat.le_of_ble_eq_true rfl) dX9_two_34 (fun r28 w29 H locs hp30 h => ?_)
    obtain ⟨e31, rfl⟩ := hp30
    refine lv_if_eq (tgt := 75) hx hb dX9_two_37 (by decide) (fun _ => ?_) (fun hc => absurd (by decide) hc)
    refine lv_iinc (v := 5) (lv' := [(4, .int 5), (3, .int 0), (2, .int 0), (0, .ref (ad 64)), (1, .int k)]) hx hb dX9_two_75 hl (k := 0) rfl rfl (by decide) rfl (fun ls hl => ?_)
    refine lv_goto (tgt := 25) hx hb dX9_two_78 (by decide) ?_
    refine lv_iload hx hb dX9_two_25 (lv_at hl 0 rfl) ?_
    refine lv_bipush (v := 7) hx hb dX9_two_27 (by decide) ?_
    refine lv_icmp_ge (tgt := 81) hx hb dX9_two_29 (by decide) (fun hc => absurd hc (by decide)) (fun _ => ?_)
    refine lv_aload_n hx hb dX9_two_32 rfl (lv_at hl 3 rfl) ?_
    refine lv_iload_n hx hb dX9_two_33 rfl (lv_at hl 1 rfl) ?_
    have f32 : w29 64 = .inr (7, [.ref (ad 65), .ref (ad 66), .ref (ad 67), .ref (ad 68), .long 0, .long 1, .ref (ad 69), .int 0, .ref (ad 70), .ref (ad 71), .int 0, .int 0, .int 0, .int 0, .int 0, .ref (ad 72), .ref (ad 73)]) := by rw [e31]; exact f26
    have f33 : w29 65 = .inl (cI, 177, .inl (fun _ => 0)) := by rw [e31]; exact f27
    refine q_Vi (na := 1) (As := [.int 0]) (rest := []) X hD hN h rfl (c_M_mayName l G cI cB cZ cO ad w29 0 f32 f33) ⟨kw_256, kw_257, kw_258, kw_190, kw_259⟩ rfl ⟨by decide, by decide, by decide⟩ ⟨Nat.le_of_ble_eq_true rfl, Nat.le_of_ble_eq_true rfl⟩ ⟨Nat.zero_le _, Nat.zero_le _⟩ (by decide) f32 rfl rfl hl.1 rfl (Nat.le_of_ble_eq_true rfl) dX9_two_34 (fun r34 w35 H locs hp36 h => ?_)
    obtain ⟨e37, rfl⟩ := hp36
    refine lv_if_eq (tgt := 75) hx hb dX9_two_37 (by decide) (fun _ => ?_) (fun hc => absurd (by decide) hc)
    refine lv_iinc (v := 6) (lv' := [(4, .int 6), (3, .int 0), (2, .int 0), (0, .ref (ad 64)), (1, .int k)]) hx hb dX9_two_75 hl (k := 0) rfl rfl (by decide) rfl (fun ls hl => ?_)
    refine lv_goto (tgt := 25) hx hb dX9_two_78 (by decide) ?_
    refine lv_iload hx hb dX9_two_25 (lv_at hl 0 rfl) ?_
    refine lv_bipush (v := 7) hx hb dX9_two_27 (by decide) ?_
    refine lv_icmp_ge (tgt := 81) hx hb dX9_two_29 (by decide) (fun hc => absurd hc (by decide)) (fun _ => ?_)
    refine lv_aload_n hx hb dX9_two_32 rfl (lv_at hl 3 rfl) ?_
    refine lv_iload_n hx hb dX9_two_33 rfl (lv_at hl 1 rfl) ?_
    have f38 : w35 64 = .inr (7, [.ref (ad 65), .ref (ad 66), .ref (ad 67), .ref (ad 68), .long 0, .long 1, .ref (ad 69), .int 0, .ref (ad 70), .ref (ad 71), .int 0, .int 0, .int 0, .int 0, .int 0, .ref (ad 72), .ref (ad 73)]) := by rw [e37]; exact f32
    have f39 : w35 65 = .inl (cI, 177, .inl (fun _ => 0)) := by rw [e37]; exact f33
    refine q_Vi (na := 1) (As := [.int 0]) (rest := []) X hD hN h rfl (c_M_mayName l G cI cB cZ cO ad w35 0 f38 f39) ⟨kw_256, kw_257, kw_258, kw_190, kw_259⟩ rfl ⟨by decide, by decide, by decide⟩ ⟨Nat.le_of_ble_eq_true rfl, Nat.le_of_ble_eq_true rfl⟩ ⟨Nat.zero_le _, Nat.zero_le _⟩ (by decide) f38 rfl rfl hl.1 rfl (Nat.le_of_ble_eq_true rfl) dX9_two_34 (fun r40 w41 H locs hp42 h => ?_)
    obtain ⟨e43, rfl⟩ := hp42
    refine lv_if_eq (tgt := 75) hx hb dX9_two_37 (by decide) (fun _ => ?_) (fun hc => absurd (by decide) hc)
    refine lv_iinc (v := 7) (lv' := [(4, .int 7), (3, .int 0), (2, .int 0), (0, .ref (ad 64)), (1, .int k)]) hx hb dX9_two_75 hl (k := 0) rfl rfl (by decide) rfl (fun ls hl => ?_)
    refine lv_goto (tgt := 25) hx hb dX9_two_78 (by decide) ?_
    refine lv_iload hx hb dX9_two_25 (lv_at hl 0 rfl) ?_
    refine lv_bipush (v := 7) hx hb dX9_two_27 (by decide) ?_
    refine lv_icmp_ge (tgt := 81) hx hb dX9_two_29 (by decide) (fun _ => ?_) (fun hc => absurd (by decide) hc)
    refine lv_iinc (v := 1) (lv' := [(3, .int 1), (4, .int 7), (2, .int 0), (0, .ref (ad 64)), (1, .int k)]) hx hb dX9_two_81 hl (k := 1) rfl rfl (by decide) rfl (fun ls hl => ?_)
    refine lv_goto (tgt := 16) hx hb dX9_two_84 (by decide) ?_
    refine lv_iload_n hx hb dX9_two_16 rfl (lv_at hl 0 rfl) ?_
    refine lv_bipush (v := 7) hx hb dX9_two_17 (by decide) ?_
    refine lv_icmp_ge (tgt := 87) hx hb dX9_two_19 (by decide) (fun hc => absurd hc (by decide)) (fun _ => ?_)
    refine lv_iconst (v := 0) hx hb dX9_two_22 (by decide) ?_
    refine lv_istore (lv' := [(4, .int 0), (3, .int 1), (2, .int 0), (0, .ref (ad 64)), (1, .int k)]) hx hb dX9_two_23 hl (by decide) rfl (fun ls hl => ?_)
    refine lv_iload hx hb dX9_two_25 (lv_at hl 0 rfl) ?_
    refine lv_bipush (v := 7) hx hb dX9_two_27 (by decide) ?_
    refine lv_icmp_ge (tgt := 81) hx hb dX9_two_29 (by decide) (fun hc => absurd hc (by decide)) (fun _ => ?_)
    refine lv_aload_n hx hb dX9_two_32 rfl (lv_at hl 3 rfl) ?_
    refine lv_iload_n hx hb dX9_two_33 rfl (lv_at hl 1 rfl) ?_
    have f44 : w41 64 = .inr (7, [.ref (ad 65), .ref (ad 66), .ref (ad 67), .ref (ad 68), .long 0, .long 1, .ref (ad 69), .int 0, .ref (ad 70), .ref (ad 71), .int 0, .int 0, .int 0, .int 0, .int 0, .ref (ad 72), .ref (ad 73)]) := by rw [e43]; exact f38
    have f45 : w41 65 = .inl (cI, 177, .inl (fun _ => 0)) := by rw [e43]; exact f39
    refine q_Vi (na := 1) (As := [.int 1]) (rest := []) X hD hN h rfl (c_M_mayName l G cI cB cZ cO ad w41 1 f44 f45) ⟨kw_256, kw_257, kw_258, kw_190, kw_259⟩ rfl ⟨by decide, by decide, by decide⟩ ⟨Nat.le_of_ble_eq_true rfl, Nat.le_of_ble_eq_true rfl⟩ ⟨Nat.zero_le _, Nat.zero_le _⟩ (by decide) f44 rfl rfl hl.1 rfl (Nat.le_of_ble_eq_true rfl) dX9_two_34 (fun r46 w47 H locs hp48 h => ?_)
    obtain ⟨e49, rfl⟩ := hp48
    refine lv_if_eq (tgt := 75) hx hb dX9_two_37 (by decide) (fun _ => ?_) (fun hc => absurd (by decide) hc)
    refine lv_iinc (v := 1) (lv' := [(4, .int 1), (3, .int 1), (2, .int 0), (0, .ref (ad 64)), (1, .int k)]) hx hb dX9_two_75 hl (k := 0) rfl rfl (by decide) rfl (fun ls hl => ?_)
    refine lv_goto (tgt := 25) hx hb dX9_two_78 (by decide) ?_
    refine lv_iload hx hb dX9_two_25 (lv_at hl 0 rfl) ?_
    refine lv_bipush (v := 7) hx hb dX9_two_27 (by decide) ?_
    refine lv_icmp_ge (tgt := 81) hx hb dX9_two_29 (by decide) (fun hc => absurd hc (by decide)) (fun _ => ?_)
    refine lv_aload_n hx hb dX9_two_32 rfl (lv_at hl 3 rfl) ?_
    refine lv_iload_n hx hb dX9_two_33 rfl (lv_at hl 1 rfl) ?_
    have f50 : w47 64 = .inr (7, [.ref (ad 65), .ref (ad 66), .ref (ad 67), .ref (ad 68), .long 0, .long 1, .ref (ad 69), .int 0, .ref (ad 70), .ref (ad 71), .int 0, .int 0, .int 0, .int 0, .int 0, .ref (ad 72), .ref (ad 73)]) := by rw [e49]; exact f44
    have f51 : w47 65 = .inl (cI, 177, .inl (fun _ => 0)) := by rw [e49]; exact f45
    refine q_Vi (na := 1) (As := [.int 1]) (rest := []) X hD hN h rfl (c_M_mayName l G cI cB cZ cO ad w47 1 f50 f51) ⟨kw_256, kw_257, kw_258, kw_190, kw_259⟩ rfl ⟨by decide, by decide, by decide⟩ ⟨Nat.le_of_ble_eq_true rfl, Nat.le_of_ble_eq_true rfl⟩ ⟨Nat.zero_le _, Nat.zero_le _⟩ (by decide) f50 rfl rfl hl.1 rfl (Nat.le_of_ble_eq_true rfl) dX9_two_34 (fun r52 w53 H locs hp54 h => ?_)
    obtain ⟨e55, rfl⟩ := hp54
    refine lv_if_eq (tgt := 75) hx hb dX9_two_37 (by decide) (fun _ => ?_) (fun hc => absurd (by decide) hc)
    refine lv_iinc (v := 2) (lv' := [(4, .int 2), (3, .int 1), (2, .int 0), (0, .ref (ad 64)), (1, .int k)]) hx hb dX9_two_75 hl (k := 0) rfl rfl (by decide) rfl (fun ls hl => ?_)
    refine lv_goto (tgt := 25) hx hb dX9_two_78 (by decide) ?_
    refine lv_iload hx hb dX9_two_25 (lv_at hl 0 rfl) ?_
    refine lv_bipush (v := 7) hx hb dX9_two_27 (by decide) ?_
    refine lv_icmp_ge (tgt := 81) hx hb dX9_two_29 (by decide) (fun hc => absurd hc (by decide)) (fun _ => ?_)
    refine lv_aload_n hx hb dX9_two_32 rfl (lv_at hl 3 rfl) ?_
    refine lv_iload_n hx hb dX9_two_33 rfl (lv_at hl 1 rfl) ?_
    have f56 : w53 64 = .inr (7, [.ref (ad 65), .ref (ad 66), .ref (ad 67), .ref (ad 68), .long 0, .long 1, .ref (ad 69), .int 0, .ref (ad 70), .ref (ad 71), .int 0, .int 0, .int 0, .int 0, .int 0, .ref (ad 72), .ref (ad 73)]) := by rw [e55]; exact f50
    have f57 : w53 65 = .inl (cI, 177, .inl (fun _ => 0)) := by rw [e55]; exact f51
    refine q_Vi (na := 1) (As := [.int 1]) (rest := []) X hD hN h rfl (c_M_mayName l G cI cB cZ cO ad w53 1 f56 f57) ⟨kw_256, kw_257, kw_258, kw_190, kw_259⟩ rfl ⟨by decide, by decide, by decide⟩ ⟨Nat.le_of_ble_eq_true rfl, Nat.le_of_ble_eq_true rfl⟩ ⟨Nat.zero_le _, Nat.zero_le _⟩ (by decide) f56 rfl rfl hl.1 rfl (Nat.le_of_ble_eq_true rfl) dX9_two_34 (fun r58 w59 H locs hp60 h => ?_)
    obtain ⟨e61, rfl⟩ := hp60
    refine lv_if_eq (tgt := 75) hx hb dX9_two_37 (by decide) (fun _ => ?_) (fun hc => absurd (by decide) hc)
    refine lv_iinc (v := 3) (lv' := [(4, .int 3), (3, .int 1), (2, .int 0), (0, .ref (ad 64)), (1, .int k)]) hx hb dX9_two_75 hl (k := 0) rfl rfl (by decide) rfl (fun ls hl => ?_)
    refine lv_goto (tgt := 25) hx hb dX9_two_78 (by decide) ?_
    refine lv_iload hx hb dX9_two_25 (lv_at hl 0 rfl) ?_
    refine lv_bipush (v := 7) hx hb dX9_two_27 (by decide) ?_
    refine lv_icmp_ge (tgt := 81) hx hb dX9_two_29 (by decide) (fun hc => absurd hc (by decide)) (fun _ => ?_)
    refine lv_aload_n hx hb dX9_two_32 rfl (lv_at hl 3 rfl) ?_
    refine lv_iload_n hx hb dX9_two_33 rfl (lv_at hl 1 rfl) ?_
    have f62 : w59 64 = .inr (7, [.ref (ad 65), .ref (ad 66), .ref (ad 67), .ref (ad 68), .long 0, .long 1, .ref (ad 69), .int 0, .ref (ad 70), .ref (ad 71), .int 0, .int 0, .int 0, .int 0, .int 0, .ref (ad 72), .ref (ad 73)]) := by rw [e61]; exact f56
    have f63 : w59 65 = .inl (cI, 177, .inl (fun _ => 0)) := by rw [e61]; exact f57
    refine q_Vi (na := 1) (As := [.int 1]) (rest := []) X hD hN h rfl (c_M_mayName l G cI cB cZ cO ad w59 1 f62 f63) ⟨kw_256, kw_257, kw_258, kw_190, kw_259⟩ rfl ⟨by decide, by decide, by decide⟩ ⟨Nat.le_of_ble_eq_true rfl, Nat.le_of_ble_eq_true rfl⟩ ⟨Nat.zero_le _, Nat.zero_le _⟩ (by decide) f62 rfl rfl hl.1 rfl (Nat.le_of_ble_eq_true rfl) dX9_two_34 (fun r64 w65 H locs hp66 h => ?_)
    obtain ⟨e67, rfl⟩ := hp66
    refine lv_if_eq (tgt := 75) hx hb dX9_two_37 (by decide) (fun _ => ?_) (fun hc => absurd (by decide) hc)
    refine lv_iinc (v := 4) (lv' := [(4, .int 4), (3, .int 1), (2, .int 0), (0, .ref (ad 64)), (1, .int k)]) hx hb dX9_two_75 hl (k := 0) rfl rfl (by decide) rfl (fun ls hl => ?_)
    refine lv_goto (tgt := 25) hx hb dX9_two_78 (by decide) ?_
    refine lv_iload hx hb dX9_two_25 (lv_at hl 0 rfl) ?_
    refine lv_bipush (v := 7) hx hb dX9_two_27 (by decide) ?_
    refine lv_icmp_ge (tgt := 81) hx hb dX9_two_29 (by decide) (fun hc => absurd hc (by decide)) (fun _ => ?_)
    refine lv_aload_n hx hb dX9_two_32 rfl (lv_at hl 3 rfl) ?_
    refine lv_iload_n hx hb dX9_two_33 rfl (lv_at hl 1 rfl) ?_
    have f68 : w65 64 = .inr (7, [.ref (ad 65), .ref (ad 66), .ref (ad 67), .ref (ad 68), .long 0, .long 1, .ref (ad 69), .int 0, .ref (ad 70), .ref (ad 71), .int 0, .int 0, .int 0, .int 0, .int 0, .ref (ad 72), .ref (ad 73)]) := by rw [e67]; exact f62
    have f69 : w65 65 = .inl (cI, 177, .inl (fun _ => 0)) := by rw [e67]; exact f63
    refine q_Vi (na := 1) (As := [.int 1]) (rest := []) X hD hN h rfl (c_M_mayName l G cI cB cZ cO ad w65 1 f68 f69) ⟨kw_256, kw_257, kw_258, kw_190, kw_259⟩ rfl ⟨by decide, by decide, by decide⟩ ⟨Nat.le_of_ble_eq_true rfl, Nat.le_of_ble_eq_true rfl⟩ ⟨Nat.zero_le _, Nat.zero_le _⟩ (by decide) f68 rfl rfl hl.1 rfl (Nat.le_of_ble_eq_true rfl) dX9_two_34 (fun r70 w71 H locs hp72 h => ?_)
    obtain ⟨e73, rfl⟩ := hp72
    refine lv_if_eq (tgt := 75) hx hb dX9_two_37 (by decide) (fun _ => ?_) (fun hc => absurd (by decide) hc)
    refine lv_iinc (v := 5) (lv' := [(4, .int 5), (3, .int 1), (2, .int 0), (0, .ref (ad 64)), (1, .int k)]) hx hb dX9_two_75 hl (k := 0) rfl rfl (by decide) rfl (fun ls hl => ?_)
    refine lv_goto (tgt := 25) hx hb dX9_two_78 (by decide) ?_
    refine lv_iload hx hb dX9_two_25 (lv_at hl 0 rfl) ?_
    refine lv_bipush (v := 7) hx hb dX9_two_27 (by decide) ?_
    refine lv_icmp_ge (tgt := 81) hx hb dX9_two_29 (by decide) (fun hc => absurd hc (by decide)) (fun _ => ?_)
    refine lv_aload_n hx hb dX9_two_32 rfl (lv_at hl 3 rfl) ?_
    refine lv_iload_n hx hb dX9_two_33 rfl (lv_at hl 1 rfl) ?_
    have f74 : w71 64 = .inr (7, [.ref (ad 65), .ref (ad 66), .ref (ad 67), .ref (ad 68), .long 0, .long 1, .ref (ad 69), .int 0, .ref (ad 70), .ref (ad 71), .int 0, .int 0, .int 0, .int 0, .int 0, .ref (ad 72), .ref (ad 73)]) := by rw [e73]; exact f68
    have f75 : w71 65 = .inl (cI, 177, .inl (fun _ => 0)) := by rw [e73]; exact f69
    refine q_Vi (na := 1) (As := [.int 1]) (rest := []) X hD hN h rfl (c_M_mayName l G cI cB cZ cO ad w71 1 f74 f75) ⟨kw_256, kw_257, kw_258, kw_190, kw_259⟩ rfl ⟨by decide, by decide, by decide⟩ ⟨Nat.le_of_ble_eq_true rfl, Nat.le_of_ble_eq_true rfl⟩ ⟨Nat.zero_le _, Nat.zero_le _⟩ (by decide) f74 rfl rfl hl.1 rfl (Nat.le_of_ble_eq_true rfl) dX9_two_34 (fun r76 w77 H locs hp78 h => ?_)
    obtain ⟨e79, rfl⟩ := hp78
    refine lv_if_eq (tgt := 75) hx hb dX9_two_37 (by decide) (fun _ => ?_) (fun hc => absurd (by decide) hc)
    refine lv_iinc (v := 6) (lv' := [(4, .int 6), (3, .int 1), (2, .int 0), (0, .ref (ad 64)), (1, .int k)]) hx hb dX9_two_75 hl (k := 0) rfl rfl (by decide) rfl (fun ls hl => ?_)
    refine lv_goto (tgt := 25) hx hb dX9_two_78 (by decide) ?_
    refine lv_iload hx hb dX9_two_25 (lv_at hl 0 rfl) ?_
    refine lv_bipush (v := 7) hx hb dX9_two_27 (by decide) ?_
    refine lv_icmp_ge (tgt := 81) hx hb dX9_two_29 (by decide) (fun hc => absurd hc (by decide)) (fun _ => ?_)
    refine lv_aload_n hx hb dX9_two_32 rfl (lv_at hl 3 rfl) ?_
    refine lv_iload_n hx hb dX9_two_33 rfl (lv_at hl 1 rfl) ?_
    have f80 : w77 64 = .inr (7, [.ref (ad 65), .ref (ad 66), .ref (ad 67), .ref (ad 68), .long 0, .long 1, .ref (ad 69), .int 0, .ref (ad 70), .ref (ad 71), .int 0, .int 0, .int 0, .int 0, .int 0, .ref (ad 72), .ref (ad 73)]) := by rw [e79]; exact f74
    have f81 : w77 65 = .inl (cI, 177, .inl (fun _ => 0)) := by rw [e79]; exact f75
    refine q_Vi (na := 1) (As := [.int 1]) (rest := []) X hD hN h rfl (c_M_mayName l G cI cB cZ cO ad w77 1 f80 f81) ⟨kw_256, kw_257, kw_258, kw_190, kw_259⟩ rfl ⟨by decide, by decide, by decide⟩ ⟨Nat.le_of_ble_eq_true rfl, Nat.le_of_ble_eq_true rfl⟩ ⟨Nat.zero_le _, Nat.zero_le _⟩ (by decide) f80 rfl rfl hl.1 rfl (Nat.le_of_ble_eq_true rfl) dX9_two_34 (fun r82 w83 H locs hp84 h => ?_)
    obtain ⟨e85, rfl⟩ := hp84
    refine lv_if_eq (tgt := 75) hx hb dX9_two_37 (by decide) (fun _ => ?_) (fun hc => absurd (by decide) hc)
    refine lv_iinc (v := 7) (lv' := [(4, .int 7), (3, .int 1), (2, .int 0), (0, .ref (ad 64)), (1, .int k)]) hx hb dX9_two_75 hl (k := 0) rfl rfl (by decide) rfl (fun ls hl => ?_)
    refine lv_goto (tgt := 25) hx hb dX9_two_78 (by decide) ?_
    refine lv_iload hx hb dX9_two_25 (lv_at hl 0 rfl) ?_
    refine lv_bipush (v := 7) hx hb dX9_two_27 (by decide) ?_
    refine lv_icmp_ge (tgt := 81) hx hb dX9_two_29 (by decide) (fun _ => ?_) (fun hc => absurd (by decide) hc)
    refine lv_iinc (v := 2) (lv' := [(3, .int 2), (4, .int 7), (2, .int 0), (0, .ref (ad 64)), (1, .int k)]) hx hb dX9_two_81 hl (k := 1) rfl rfl (by decide) rfl (fun ls hl => ?_)
    refine lv_goto (tgt := 16) hx hb dX9_two_84 (by decide) ?_
    refine lv_iload_n hx hb dX9_two_16 rfl (lv_at hl 0 rfl) ?_
    refine lv_bipush (v := 7) hx hb dX9_two_17 (by decide) ?_
    refine lv_icmp_ge (tgt := 87) hx hb dX9_two_19 (by decide) (fun hc => absurd hc (by decide)) (fun _ => ?_)
    refine lv_iconst (v := 0) hx hb dX9_two_22 (by decide) ?_
    refine lv_istore (lv' := [(4, .int 0), (3, .int 2), (2, .int 0), (0, .ref (ad 64)), (1, .int k)]) hx hb dX9_two_23 hl (by decide) rfl (fun ls hl => ?_)
    refine lv_iload hx hb dX9_two_25 (lv_at hl 0 rfl) ?_
    refine lv_bipush (v := 7) hx hb dX9_two_27 (by decide) ?_
    refine lv_icmp_ge (tgt := 81) hx hb dX9_two_29 (by decide) (fun hc => absurd hc (by decide)) (fun _ => ?_)
    refine lv_aload_n hx hb dX9_two_32 rfl (lv_at hl 3 rfl) ?_
    refine lv_iload_n hx hb dX9_two_33 rfl (lv_at hl 1 rfl) ?_
    have f86 : w83 64 = .inr (7, [.ref (ad 65), .ref (ad 66), .ref (ad 67), .ref (ad 68), .long 0, .long 1, .ref (ad 69), .int 0, .ref (ad 70), .ref (ad 71), .int 0, .int 0, .int 0, .int 0, .int 0, .ref (ad 72), .ref (ad 73)]) := by rw [e85]; exact f80
    have f87 : w83 65 = .inl (cI, 177, .inl (fun _ => 0)) := by rw [e85]; exact f81
    refine q_Vi (na := 1) (As := [.int 2]) (rest := []) X hD hN h rfl (c_M_mayName l G cI cB cZ cO ad w83 2 f86 f87) ⟨kw_256, kw_257, kw_258, kw_190, kw_259⟩ rfl ⟨by decide, by decide, by decide⟩ ⟨Nat.le_of_ble_eq_true rfl, Nat.le_of_ble_eq_true rfl⟩ ⟨Nat.zero_le _, Nat.zero_le _⟩ (by decide) f86 rfl rfl hl.1 rfl (Nat.le_of_ble_eq_true rfl) dX9_two_34 (fun r88 w89 H locs hp90 h => ?_)
    obtain ⟨e91, rfl⟩ := hp90
    refine lv_if_eq (tgt := 75) hx hb dX9_two_37 (by decide) (fun _ => ?_) (fun hc => absurd (by decide) hc)
    refine lv_iinc (v := 1) (lv' := [(4, .int 1), (3, .int 2), (2, .int 0), (0, .ref (ad 64)), (1, .int k)]) hx hb dX9_two_75 hl (k := 0) rfl rfl (by decide) rfl (fun ls hl => ?_)
    refine lv_goto (tgt := 25) hx hb dX9_two_78 (by decide) ?_
    refine lv_iload hx hb dX9_two_25 (lv_at hl 0 rfl) ?_
    refine lv_bipush (v := 7) hx hb dX9_two_27 (by decide) ?_
    refine lv_icmp_ge (tgt := 81) hx hb dX9_two_29 (by decide) (fun hc => absurd hc (by decide)) (fun _ => ?_)
    refine lv_aload_n hx hb dX9_two_32 rfl (lv_at hl 3 rfl) ?_
    refine lv_iload_n hx hb dX9_two_33 rfl (lv_at hl 1 rfl) ?_
    have f92 : w89 64 = .inr (7, [.ref (ad 65), .ref (ad 66), .ref (ad 67), .ref (ad 68), .long 0, .long 1, .ref (ad 69), .int 0, .ref (ad 70), .ref (ad 71), .int 0, .int 0, .int 0, .int 0, .int 0, .ref (ad 72), .ref (ad 73)]) := by rw [e91]; exact f86
    have f93 : w89 65 = .inl (cI, 177, .inl (fun _ => 0)) := by rw [e91]; exact f87
    refine q_Vi (na := 1) (As := [.int 2]) (rest := []) X hD hN h rfl (c_M_mayName l G cI cB cZ cO ad w89 2 f92 f93) ⟨kw_256, kw_257, kw_258, kw_190, kw_259⟩ rfl ⟨by decide, by decide, by decide⟩ ⟨Nat.le_of_ble_eq_true rfl, Nat.le_of_ble_eq_true rfl⟩ ⟨Nat.zero_le _, Nat.zero_le _⟩ (by decide) f92 rfl rfl hl.1 rfl (Nat.le_of_ble_eq_true rfl) dX9_two_34 (fun r94 w95 H locs hp96 h => ?_)
    obtain ⟨e97, rfl⟩ := hp96
    refine lv_if_eq (tgt := 75) hx hb dX9_two_37 (by decide) (fun _ => ?_) (fun hc => absurd (by decide) hc)
    refine lv_iinc (v := 2) (lv' := [(4, .int 2), (3, .int 2), (2, .int 0), (0, .ref (ad 64)), (1, .int k)]) hx hb dX9_two_75 hl (k := 0) rfl rfl (by decide) rfl (fun ls hl => ?_)
    refine lv_goto (tgt := 25) hx hb dX9_two_78 (by decide) ?_
    refine lv_iload hx hb dX9_two_25 (lv_at hl 0 rfl) ?_
    refine lv_bipush (v := 7) hx hb dX9_two_27 (by decide) ?_
    refine lv_icmp_ge (tgt := 81) hx hb dX9_two_29 (by decide) (fun hc => absurd hc (by decide)) (fun _ => ?_)
    refine lv_aload_n hx hb dX9_two_32 rfl (lv_at hl 3 rfl) ?_
    refine lv_iload_n hx hb dX9_two_33 rfl (lv_at hl 1 rfl) ?_
    have f98 : w95 64 = .inr (7, [.ref (ad 65), .ref (ad 66), .ref (ad 67), .ref (ad 68), .long 0, .long 1, .ref (ad 69), .int 0, .ref (ad 70), .ref (ad 71), .int 0, .int 0, .int 0, .int 0, .int 0, .ref (ad 72), .ref (ad 73)]) := by rw [e97]; exact f92
    have f99 : w95 65 = .inl (cI, 177, .inl (fun _ => 0)) := by rw [e97]; exact f93
    refine q_Vi (na := 1) (As := [.int 2]) (rest := []) X hD hN h rfl (c_M_mayName l G cI cB cZ cO ad w95 2 f98 f99) ⟨kw_256, kw_257, kw_258, kw_190, kw_259⟩ rfl ⟨by decide, by decide, by decide⟩ ⟨Nat.le_of_ble_eq_true rfl, Nat.le_of_ble_eq_true rfl⟩ ⟨Nat.zero_le _, Nat.zero_le _⟩ (by decide) f98 rfl rfl hl.1 rfl (Nat.le_of_ble_eq_true rfl) dX9_two_34 (fun r100 w101 H locs hp102 h => ?_)
    obtain ⟨e103, rfl⟩ := hp102
    refine lv_if_eq (tgt := 75) hx hb dX9_two_37 (by decide) (fun _ => ?_) (fun hc => absurd (by decide) hc)
    refine lv_iinc (v := 3) (lv' := [(4, .int 3), (3, .int 2), (2, .int 0), (0, .ref (ad 64)), (1, .int k)]) hx hb dX9_two_75 hl (k := 0) rfl rfl (by decide) rfl (fun ls hl => ?_)
    refine lv_goto (tgt := 25) hx hb dX9_two_78 (by decide) ?_
    refine lv_iload hx hb dX9_two_25 (lv_at hl 0 rfl) ?_
    refine lv_bipush (v := 7) hx hb dX9_two_27 (by decide) ?_
    refine lv_icmp_ge (tgt := 81) hx hb dX9_two_29 (by decide) (fun hc => absurd hc (by decide)) (fun _ => ?_)
    refine lv_aload_n hx hb dX9_two_32 rfl (lv_at hl 3 rfl) ?_
    refine lv_iload_n hx hb dX9_two_33 rfl (lv_at hl 1 rfl) ?_
    have f104 : w101 64 = .inr (7, [.ref (ad 65), .ref (ad 66), .ref (ad 67), .ref (ad 68), .long 0, .long 1, .ref (ad 69), .int 0, .ref (ad 70), .ref (ad 71), .int 0, .int 0, .int 0, .int 0, .int 0, .ref (ad 72), .ref (ad 73)]) := by rw [e103]; exact f98
    have f105 : w101 65 = .inl (cI, 177, .inl (fun _ => 0)) := by rw [e103]; exact f99
    refine q_Vi (na := 1) (As := [.int 2]) (rest := []) X hD hN h rfl (c_M_mayName l G cI cB cZ cO ad w101 2 f104 f105) ⟨kw_256, kw_257, kw_258, kw_190, kw_259⟩ rfl ⟨by decide, by decide, by decide⟩ ⟨Nat.le_of_ble_eq_true rfl, Nat.le_of_ble_eq_true rfl⟩ ⟨Nat.zero_le _, Nat.zero_le _⟩ (by decide) f104 rfl rfl hl.1 rfl (Nat.le_of_ble_eq_true rfl) dX9_two_34 (fun r106 w107 H locs hp108 h => ?_)
    obtain ⟨e109, rfl⟩ := hp108
    refine lv_if_eq (tgt := 75) hx hb dX9_two_37 (by decide) (fun _ => ?_) (fun hc => absurd (by decide) hc)
    refine lv_iinc (v := 4) (lv' := [(4, .int 4), (3, .int 2), (2, .int 0), (0, .ref (ad 64)), (1, .int k)]) hx hb dX9_two_75 hl (k := 0) rfl rfl (by decide) rfl (fun ls hl => ?_)
    refine lv_goto (tgt := 25) hx hb dX9_two_78 (by decide) ?_
    refine lv_iload hx hb dX9_two_25 (lv_at hl 0 rfl) ?_
    refine lv_bipush (v := 7) hx hb dX9_two_27 (by decide) ?_
    refine lv_icmp_ge (tgt := 81) hx hb dX9_two_29 (by decide) (fun hc => absurd hc (by decide)) (fun _ => ?_)
    refine lv_aload_n hx hb dX9_two_32 rfl (lv_at hl 3 rfl) ?_
    refine lv_iload_n hx hb dX9_two_33 rfl (lv_at hl 1 rfl) ?_
    have f110 : w107 64 = .inr (7, [.ref (ad 65), .ref (ad 66), .ref (ad 67), .ref (ad 68), .long 0, .long 1, .ref (ad 69), .int 0, .ref (ad 70), .ref (ad 71), .int 0, .int 0, .int 0, .int 0, .int 0, .ref (ad 72), .ref (ad 73)]) := by rw [e109]; exact f104
    have f111 : w107 65 = .inl (cI, 177, .inl (fun _ => 0)) := by rw [e109]; exact f105
    refine q_Vi (na := 1) (As := [.int 2]) (rest := []) X hD hN h rfl (c_M_mayName l G cI cB cZ cO ad w107 2 f110 f111) ⟨kw_256, kw_257, kw_258, kw_190, kw_259⟩ rfl ⟨by decide, by decide, by decide⟩ ⟨Nat.le_of_ble_eq_true rfl, Nat.le_of_ble_eq_true rfl⟩ ⟨Nat.zero_le _, Nat.zero_le _⟩ (by decide) f110 rfl rfl hl.1 rfl (Nat.le_of_ble_eq_true rfl) dX9_two_34 (fun r112 w113 H locs hp114 h => ?_)
    obtain ⟨e115, rfl⟩ := hp114
    refine lv_if_eq (tgt := 75) hx hb dX9_two_37 (by decide) (fun _ => ?_) (fun hc => absurd (by decide) hc)
    refine lv_iinc (v := 5) (lv' := [(4, .int 5), (3, .int 2), (2, .int 0), (0, .ref (ad 64)), (1, .int k)]) hx hb dX9_two_75 hl (k := 0) rfl rfl (by decide) rfl (fun ls hl => ?_)
    refine lv_goto (tgt := 25) hx hb dX9_two_78 (by decide) ?_
    refine lv_iload hx hb dX9_two_25 (lv_at hl 0 rfl) ?_
    refine lv_bipush (v := 7) hx hb dX9_two_27 (by decide) ?_
    refine lv_icmp_ge (tgt := 81) hx hb dX9_two_29 (by decide) (fun hc => absurd hc (by decide)) (fun _ => ?_)
    refine lv_aload_n hx hb dX9_two_32 rfl (lv_at hl 3 rfl) ?_
    refine lv_iload_n hx hb dX9_two_33 rfl (lv_at hl 1 rfl) ?_
    have f116 : w113 64 = .inr (7, [.ref (ad 65), .ref (ad 66), .ref (ad 67), .ref (ad 68), .long 0, .long 1, .ref (ad 69), .int 0, .ref (ad 70), .ref (ad 71), .int 0, .int 0, .int 0, .int 0, .int 0, .ref (ad 72), .ref (ad 73)]) := by rw [e115]; exact f110
    have f117 : w113 65 = .inl (cI, 177, .inl (fun _ => 0)) := by rw [e115]; exact f111
    refine q_Vi (na := 1) (As := [.int 2]) (rest := []) X hD hN h rfl (c_M_mayName l G cI cB cZ cO ad w113 2 f116 f117) ⟨kw_256, kw_257, kw_258, kw_190, kw_259⟩ rfl ⟨by decide, by decide, by decide⟩ ⟨Nat.le_of_ble_eq_true rfl, Nat.le_of_ble_eq_true rfl⟩ ⟨Nat.zero_le _, Nat.zero_le _⟩ (by decide) f116 rfl rfl hl.1 rfl (Nat.le_of_ble_eq_true rfl) dX9_two_34 (fun r118 w119 H locs hp120 h => ?_)
    obtain ⟨e121, rfl⟩ := hp120
    refine lv_if_eq (tgt := 75) hx hb dX9_two_37 (by decide) (fun _ => ?_) (fun hc => absurd (by decide) hc)
    refine lv_iinc (v := 6) (lv' := [(4, .int 6), (3, .int 2), (2, .int 0), (0, .ref (ad 64)), (1, .int k)]) hx hb dX9_two_75 hl (k := 0) rfl rfl (by decide) rfl (fun ls hl => ?_)
    refine lv_goto (tgt := 25) hx hb dX9_two_78 (by decide) ?_
    refine lv_iload hx hb dX9_two_25 (lv_at hl 0 rfl) ?_
    refine lv_bipush (v := 7) hx hb dX9_two_27 (by decide) ?_
    refine lv_icmp_ge (tgt := 81) hx hb dX9_two_29 (by decide) (fun hc => absurd hc (by decide)) (fun _ => ?_)
    refine lv_aload_n hx hb dX9_two_32 rfl (lv_at hl 3 rfl) ?_
    refine lv_iload_n hx hb dX9_two_33 rfl (lv_at hl 1 rfl) ?_
    have f122 : w119 64 = .inr (7, [.ref (ad 65), .ref (ad 66), .ref (ad 67), .ref (ad 68), .long 0, .long 1, .ref (ad 69), .int 0, .ref (ad 70), .ref (ad 71), .int 0, .int 0, .int 0, .int 0, .int 0, .ref (ad 72), .ref (ad 73)]) := by rw [e121]; exact f116
    have f123 : w119 65 = .inl (cI, 177, .inl (fun _ => 0)) := by rw [e121]; exact f117
    refine q_Vi (na := 1) (As := [.int 2]) (rest := []) X hD hN h rfl (c_M_mayName l G cI cB cZ cO ad w119 2 f122 f123) ⟨kw_256, kw_257, kw_258, kw_190, kw_259⟩ rfl ⟨by decide, by decide, by decide⟩ ⟨Nat.le_of_ble_eq_true rfl, Nat.le_of_ble_eq_true rfl⟩ ⟨Nat.zero_le _, Nat.zero_le _⟩ (by decide) f122 rfl rfl hl.1 rfl (Nat.le_of_ble_eq_true rfl) dX9_two_34 (fun r124 w125 H locs hp126 h => ?_)
    obtain ⟨e127, rfl⟩ := hp126
    refine lv_if_eq (tgt := 75) hx hb dX9_two_37 (by decide) (fun _ => ?_) (fun hc => absurd (by decide) hc)
    refine lv_iinc (v := 7) (lv' := [(4, .int 7), (3, .int 2), (2, .int 0), (0, .ref (ad 64)), (1, .int k)]) hx hb dX9_two_75 hl (k := 0) rfl rfl (by decide) rfl (fun ls hl => ?_)
    refine lv_goto (tgt := 25) hx hb dX9_two_78 (by decide) ?_
    refine lv_iload hx hb dX9_two_25 (lv_at hl 0 rfl) ?_
    refine lv_bipush (v := 7) hx hb dX9_two_27 (by decide) ?_
    refine lv_icmp_ge (tgt := 81) hx hb dX9_two_29 (by decide) (fun _ => ?_) (fun hc => absurd (by decide) hc)
    refine lv_iinc (v := 3) (lv' := [(3, .int 3), (4, .int 7), (2, .int 0), (0, .ref (ad 64)), (1, .int k)]) hx hb dX9_two_81 hl (k := 1) rfl rfl (by decide) rfl (fun ls hl => ?_)
    refine lv_goto (tgt := 16) hx hb dX9_two_84 (by decide) ?_
    refine lv_iload_n hx hb dX9_two_16 rfl (lv_at hl 0 rfl) ?_
    refine lv_bipush (v := 7) hx hb dX9_two_17 (by decide) ?_
    refine lv_icmp_ge (tgt := 87) hx hb dX9_two_19 (by decide) (fun hc => absurd hc (by decide)) (fun _ => ?_)
    refine lv_iconst (v := 0) hx hb dX9_two_22 (by decide) ?_
    refine lv_istore (lv' := [(4, .int 0), (3, .int 3), (2, .int 0), (0, .ref (ad 64)), (1, .int k)]) hx hb dX9_two_23 hl (by decide) rfl (fun ls hl => ?_)
    refine lv_iload hx hb dX9_two_25 (lv_at hl 0 rfl) ?_
    refine lv_bipush (v := 7) hx hb dX9_two_27 (by decide) ?_
    refine lv_icmp_ge (tgt := 81) hx hb dX9_two_29 (by decide) (fun hc => absurd hc (by decide)) (fun _ => ?_)
    refine lv_aload_n hx hb dX9_two_32 rfl (lv_at hl 3 rfl) ?_
    refine lv_iload_n hx hb dX9_two_33 rfl (lv_at hl 1 rfl) ?_
    have f128 : w125 64 = .inr (7, [.ref (ad 65), .ref (ad 66), .ref (ad 67), .ref (ad 68), .long 0, .long 1, .ref (ad 69), .int 0, .ref (ad 70), .ref (ad 71), .int 0, .int 0, .int 0, .int 0, .int 0, .ref (ad 72), .ref (ad 73)]) := by rw [e127]; exact f122
    have f129 : w125 65 = .inl (cI, 177, .inl (fun _ => 0)) := by rw [e127]; exact f123
    refine q_Vi (na := 1) (As := [.int 3]) (rest := []) X hD hN h rfl (c_M_mayName l G cI cB cZ cO ad w125 3 f128 f129) ⟨kw_256, kw_257, kw_258, kw_190, kw_259⟩ rfl ⟨by decide, by decide, by decide⟩ ⟨Nat.le_of_ble_eq_true rfl, Nat.le_of_ble_eq_true rfl⟩ ⟨Nat.zero_le _, Nat.zero_le _⟩ (by decide) f128 rfl rfl hl.1 rfl (Nat.le_of_ble_eq_true rfl) dX9_two_34 (fun r130 w131 H locs hp132 h => ?_)
    obtain ⟨e133, rfl⟩ := hp132
    refine lv_if_eq (tgt := 75) hx hb dX9_two_37 (by decide) (fun _ => ?_) (fun hc => absurd (by decide) hc)
    refine lv_iinc (v := 1) (lv' := [(4, .int 1), (3, .int 3), (2, .int 0), (0, .ref (ad 64)), (1, .int k)]) hx hb dX9_two_75 hl (k := 0) rfl rfl (by decide) rfl (fun ls hl => ?_)
    refine lv_goto (tgt := 25) hx hb dX9_two_78 (by decide) ?_
    refine lv_iload hx hb dX9_two_25 (lv_at hl 0 rfl) ?_
    refine lv_bipush (v := 7) hx hb dX9_two_27 (by decide) ?_
    refine lv_icmp_ge (tgt := 81) hx hb dX9_two_29 (by decide) (fun hc => absurd hc (by decide)) (fun _ => ?_)
    refine lv_aload_n hx hb dX9_two_32 rfl (lv_at hl 3 rfl) ?_
    refine lv_iload_n hx hb dX9_two_33 rfl (lv_at hl 1 rfl) ?_
    have f134 : w131 64 = .inr (7, [.ref (ad 65), .ref (ad 66), .ref (ad 67), .ref (ad 68), .long 0, .long 1, .ref (ad 69), .int 0, .ref (ad 70), .ref (ad 71), .int 0, .int 0, .int 0, .int 0, .int 0, .ref (ad 72), .ref (ad 73)]) := by rw [e133]; exact f128
    have f135 : w131 65 = .inl (cI, 177, .inl (fun _ => 0)) := by rw [e133]; exact f129
    refine q_Vi (na := 1) (As := [.int 3]) (rest := []) X hD hN h rfl (c_M_mayName l G cI cB cZ cO ad w131 3 f134 f135) ⟨kw_256, kw_257, kw_258, kw_190, kw_259⟩ rfl ⟨by decide, by decide, by decide⟩ ⟨Nat.le_of_ble_eq_true rfl, Nat.le_of_ble_eq_true rfl⟩ ⟨Nat.zero_le _, Nat.zero_le _⟩ (by decide) f134 rfl rfl hl.1 rfl (Nat.le_of_ble_eq_true rfl) dX9_two_34 (fun r136 w137 H locs hp138 h => ?_)
    obtain ⟨e139, rfl⟩ := hp138
    refine lv_if_eq (tgt := 75) hx hb dX9_two_37 (by decide) (fun _ => ?_) (fun hc => absurd (by decide) hc)
    refine lv_iinc (v := 2) (lv' := [(4, .int 2), (3, .int 3), (2, .int 0), (0, .ref (ad 64)), (1, .int k)]) hx hb dX9_two_75 hl (k := 0) rfl rfl (by decide) rfl (fun ls hl => ?_)
    refine lv_goto (tgt := 25) hx hb dX9_two_78 (by decide) ?_
    refine lv_iload hx hb dX9_two_25 (lv_at hl 0 rfl) ?_
    refine lv_bipush (v := 7) hx hb dX9_two_27 (by decide) ?_
    refine lv_icmp_ge (tgt := 81) hx hb dX9_two_29 (by decide) (fun hc => absurd hc (by decide)) (fun _ => ?_)
    refine lv_aload_n hx hb dX9_two_32 rfl (lv_at hl 3 rfl) ?_
    refine lv_iload_n hx hb dX9_two_33 rfl (lv_at hl 1 rfl) ?_
    have f140 : w137 64 = .inr (7, [.ref (ad 65), .ref (ad 66), .ref (ad 67), .ref (ad 68), .long 0, .long 1, .ref (ad 69), .int 0, .ref (ad 70), .ref (ad 71), .int 0, .int 0, .int 0, .int 0, .int 0, .ref (ad 72), .ref (ad 73)]) := by rw [e139]; exact f134
    have f141 : w137 65 = .inl (cI, 177, .inl (fun _ => 0)) := by rw [e139]; exact f135
    refine q_Vi (na := 1) (As := [.int 3]) (rest := []) X hD hN h rfl (c_M_mayName l G cI cB cZ cO ad w137 3 f140 f141) ⟨kw_256, kw_257, kw_258, kw_190, kw_259⟩ rfl ⟨by decide, by decide, by decide⟩ ⟨Nat.le_of_ble_eq_true rfl, Nat.le_of_ble_eq_true rfl⟩ ⟨Nat.zero_le _, Nat.zero_le _⟩ (by decide) f140 rfl rfl hl.1 rfl (Nat.le_of_ble_eq_true rfl) dX9_two_34 (fun r142 w143 H locs hp144 h => ?_)
    obtain ⟨e145, rfl⟩ := hp144
    refine lv_if_eq (tgt := 75) hx hb dX9_two_37 (by decide) (fun _ => ?_) (fun hc => absurd (by decide) hc)
    refine lv_iinc (v := 3) (lv' := [(4, .int 3), (3, .int 3), (2, .int 0), (0, .ref (ad 64)), (1, .int k)]) hx hb dX9_two_75 hl (k := 0) rfl rfl (by decide) rfl (fun ls hl => ?_)
    refine lv_goto (tgt := 25) hx hb dX9_two_78 (by decide) ?_
    refine lv_iload hx hb dX9_two_25 (lv_at hl 0 rfl) ?_
    refine lv_bipush (v := 7) hx hb dX9_two_27 (by decide) ?_
    refine lv_icmp_ge (tgt := 81) hx hb dX9_two_29 (by decide) (fun hc => absurd hc (by decide)) (fun _ => ?_)
    refine lv_aload_n hx hb dX9_two_32 rfl (lv_at hl 3 rfl) ?_
    refine lv_iload_n hx hb dX9_two_33 rfl (lv_at hl 1 rfl) ?_
    have f146 : w143 64 = .inr (7, [.ref (ad 65), .ref (ad 66), .ref (ad 67), .ref (ad 68), .long 0, .long 1, .ref (ad 69), .int 0, .ref (ad 70), .ref (ad 71), .int 0, .int 0, .int 0, .int 0, .int 0, .ref (ad 72), .ref (ad 73)]) := by rw [e145]; exact f140
    have f147 : w143 65 = .inl (cI, 177, .inl (fun _ => 0)) := by rw [e145]; exact f141
    refine q_Vi (na := 1) (As := [.int 3]) (rest := []) X hD hN h rfl (c_M_mayName l G cI cB cZ cO ad w143 3 f146 f147) ⟨kw_256, kw_257, kw_258, kw_190, kw_259⟩ rfl ⟨by decide, by decide, by decide⟩ ⟨Nat.le_of_ble_eq_true rfl, Nat.le_of_ble_eq_true rfl⟩ ⟨Nat.zero_le _, Nat.zero_le _⟩ (by decide) f146 rfl rfl hl.1 rfl (Nat.le_of_ble_eq_true rfl) dX9_two_34 (fun r148 w149 H locs hp150 h => ?_)
    obtain ⟨e151, rfl⟩ := hp150
    refine lv_if_eq (tgt := 75) hx hb dX9_two_37 (by decide) (fun _ => ?_) (fun hc => absurd (by decide) hc)
    refine lv_iinc (v := 4) (lv' := [(4, .int 4), (3, .int 3), (2, .int 0), (0, .ref (ad 64)), (1, .int k)]) hx hb dX9_two_75 hl (k := 0) rfl rfl (by decide) rfl (fun ls hl => ?_)
    refine lv_goto (tgt := 25) hx hb dX9_two_78 (by decide) ?_
    refine lv_iload hx hb dX9_two_25 (lv_at hl 0 rfl) ?_
    refine lv_bipush (v := 7) hx hb dX9_two_27 (by decide) ?_
    refine lv_icmp_ge (tgt := 81) hx hb dX9_two_29 (by decide) (fun hc => absurd hc (by decide)) (fun _ => ?_)
    refine lv_aload_n hx hb dX9_two_32 rfl (lv_at hl 3 rfl) ?_
    refine lv_iload_n hx hb dX9_two_33 rfl (lv_at hl 1 rfl) ?_
    have f152 : w149 64 = .inr (7, [.ref (ad 65), .ref (ad 66), .ref (ad 67), .ref (ad 68), .long 0, .long 1, .ref (ad 69), .int 0, .ref (ad 70), .ref (ad 71), .int 0, .int 0, .int 0, .int 0, .int 0, .ref (ad 72), .ref (ad 73)]) := by rw [e151]; exact f146
    have f153 : w149 65 = .inl (cI, 177, .inl (fun _ => 0)) := by rw [e151]; exact f147
    refine q_Vi (na := 1) (As := [.int 3]) (rest := []) X hD hN h rfl (c_M_mayName l G cI cB cZ cO ad w149 3 f152 f153) ⟨kw_256, kw_257, kw_258, kw_190, kw_259⟩ rfl ⟨by decide, by decide, by decide⟩ ⟨Nat.le_of_ble_eq_true rfl, Nat.le_of_ble_eq_true rfl⟩ ⟨Nat.zero_le _, Nat.zero_le _⟩ (by decide) f152 rfl rfl hl.1 rfl (Nat.le_of_ble_eq_true rfl) dX9_two_34 (fun r154 w155 H locs hp156 h => ?_)
    obtain ⟨e157, rfl⟩ := hp156
    refine lv_if_eq (tgt := 75) hx hb dX9_two_37 (by decide) (fun _ => ?_) (fun hc => absurd (by decide) hc)
    refine lv_iinc (v := 5) (lv' := [(4, .int 5), (3, .int 3), (2, .int 0), (0, .ref (ad 64)), (1, .int k)]) hx hb dX9_two_75 hl (k := 0) rfl rfl (by decide) rfl (fun ls hl => ?_)
    refine lv_goto (tgt := 25) hx hb dX9_two_78 (by decide) ?_
    refine lv_iload hx hb dX9_two_25 (lv_at hl 0 rfl) ?_
    refine lv_bipush (v := 7) hx hb dX9_two_27 (by decide) ?_
    refine lv_icmp_ge (tgt := 81) hx hb dX9_two_29 (by decide) (fun hc => absurd hc (by decide)) (fun _ => ?_)
    refine lv_aload_n hx hb dX9_two_32 rfl (lv_at hl 3 rfl) ?_
    refine lv_iload_n hx hb dX9_two_33 rfl (lv_at hl 1 rfl) ?_
    have f158 : w155 64 = .inr (7, [.ref (ad 65), .ref (ad 66), .ref (ad 67), .ref (ad 68), .long 0, .long 1, .ref (ad 69), .int 0, .ref (ad 70), .ref (ad 71), .int 0, .int 0, .int 0, .int 0, .int 0, .ref (ad 72), .ref (ad 73)]) := by rw [e157]; exact f152
    have f159 : w155 65 = .inl (cI, 177, .inl (fun _ => 0)) := by rw [e157]; exact f153
    refine q_Vi (na := 1) (As := [.int 3]) (rest := []) X hD hN h rfl (c_M_mayName l G cI cB cZ cO ad w155 3 f158 f159) ⟨kw_256, kw_257, kw_258, kw_190, kw_259⟩ rfl ⟨by decide, by decide, by decide⟩ ⟨Nat.le_of_ble_eq_true rfl, Nat.le_of_ble_eq_true rfl⟩ ⟨Nat.zero_le _, Nat.zero_le _⟩ (by decide) f158 rfl rfl hl.1 rfl (Nat.le_of_ble_eq_true rfl) dX9_two_34 (fun r160 w161 H locs hp162 h => ?_)
    obtain ⟨e163, rfl⟩ := hp162
    refine lv_if_eq (tgt := 75) hx hb dX9_two_37 (by decide) (fun _ => ?_) (fun hc => absurd (by decide) hc)
    refine lv_iinc (v := 6) (lv' := [(4, .int 6), (3, .int 3), (2, .int 0), (0, .ref (ad 64)), (1, .int k)]) hx hb dX9_two_75 hl (k := 0) rfl rfl (by decide) rfl (fun ls hl => ?_)
    refine lv_goto (tgt := 25) hx hb dX9_two_78 (by decide) ?_
    refine lv_iload hx hb dX9_two_25 (lv_at hl 0 rfl) ?_
    refine lv_bipush (v := 7) hx hb dX9_two_27 (by decide) ?_
    refine lv_icmp_ge (tgt := 81) hx hb dX9_two_29 (by decide) (fun hc => absurd hc (by decide)) (fun _ => ?_)
    refine lv_aload_n hx hb dX9_two_32 rfl (lv_at hl 3 rfl) ?_
    refine lv_iload_n hx hb dX9_two_33 rfl (lv_at hl 1 rfl) ?_
    have f164 : w161 64 = .inr (7, [.ref (ad 65), .ref (ad 66), .ref (ad 67), .ref (ad 68), .long 0, .long 1, .ref (ad 69), .int 0, .ref (ad 70), .ref (ad 71), .int 0, .int 0, .int 0, .int 0, .int 0, .ref (ad 72), .ref (ad 73)]) := by rw [e163]; exact f158
    have f165 : w161 65 = .inl (cI, 177, .inl (fun _ => 0)) := by rw [e163]; exact f159
    refine q_Vi (na := 1) (As := [.int 3]) (rest := []) X hD hN h rfl (c_M_mayName l G cI cB cZ cO ad w161 3 f164 f165) ⟨kw_256, kw_257, kw_258, kw_190, kw_259⟩ rfl ⟨by decide, by decide, by decide⟩ ⟨Nat.le_of_ble_eq_true rfl, Nat.le_of_ble_eq_true rfl⟩ ⟨Nat.zero_le _, Nat.zero_le _⟩ (by decide) f164 rfl rfl hl.1 rfl (Nat.le_of_ble_eq_true rfl) dX9_two_34 (fun r166 w167 H locs hp168 h => ?_)
    obtain ⟨e169, rfl⟩ := hp168
    refine lv_if_eq (tgt := 75) hx hb dX9_two_37 (by decide) (fun _ => ?_) (fun hc => absurd (by decide) hc)
    refine lv_iinc (v := 7) (lv' := [(4, .int 7), (3, .int 3), (2, .int 0), (0, .ref (ad 64)), (1, .int k)]) hx hb dX9_two_75 hl (k := 0) rfl rfl (by decide) rfl (fun ls hl => ?_)
    refine lv_goto (tgt := 25) hx hb dX9_two_78 (by decide) ?_
    refine lv_iload hx hb dX9_two_25 (lv_at hl 0 rfl) ?_
    refine lv_bipush (v := 7) hx hb dX9_two_27 (by decide) ?_
    refine lv_icmp_ge (tgt := 81) hx hb dX9_two_29 (by decide) (fun _ => ?_) (fun hc => absurd (by decide) hc)
    refine lv_iinc (v := 4) (lv' := [(3, .int 4), (4, .int 7), (2, .int 0), (0, .ref (ad 64)), (1, .int k)]) hx hb dX9_two_81 hl (k := 1) rfl rfl (by decide) rfl (fun ls hl => ?_)
    refine lv_goto (tgt := 16) hx hb dX9_two_84 (by decide) ?_
    refine lv_iload_n hx hb dX9_two_16 rfl (lv_at hl 0 rfl) ?_
    refine lv_bipush (v := 7) hx hb dX9_two_17 (by decide) ?_
    refine lv_icmp_ge (tgt := 87) hx hb dX9_two_19 (by decide) (fun hc => absurd hc (by decide)) (fun _ => ?_)
    refine lv_iconst (v := 0) hx hb dX9_two_22 (by decide) ?_
    refine lv_istore (lv' := [(4, .int 0), (3, .int 4), (2, .int 0), (0, .ref (ad 64)), (1, .int k)]) hx hb dX9_two_23 hl (by decide) rfl (fun ls hl => ?_)
    refine lv_iload hx hb dX9_two_25 (lv_at hl 0 rfl) ?_
    refine lv_bipush (v := 7) hx hb dX9_two_27 (by decide) ?_
    refine lv_icmp_ge (tgt := 81) hx hb dX9_two_29 (by decide) (fun hc => absurd hc (by decide)) (fun _ => ?_)
    refine lv_aload_n hx hb dX9_two_32 rfl (lv_at hl 3 rfl) ?_
    refine lv_iload_n hx hb dX9_two_33 rfl (lv_at hl 1 rfl) ?_
    have f170 : w167 64 = .inr (7, [.ref (ad 65), .ref (ad 66), .ref (ad 67), .ref (ad 68), .long 0, .long 1, .ref (ad 69), .int 0, .ref (ad 70), .ref (ad 71), .int 0, .int 0, .int 0, .int 0, .int 0, .ref (ad 72), .ref (ad 73)]) := by rw [e169]; exact f164
    have f171 : w167 65 = .inl (cI, 177, .inl (fun _ => 0)) := by rw [e169]; exact f165
    refine q_Vi (na := 1) (As := [.int 4]) (rest := []) X hD hN h rfl (c_M_mayName l G cI cB cZ cO ad w167 4 f170 f171) ⟨kw_256, kw_257, kw_258, kw_190, kw_259⟩ rfl ⟨by decide, by decide, by decide⟩ ⟨Nat.le_of_ble_eq_true rfl, Nat.le_of_ble_eq_true rfl⟩ ⟨Nat.zero_le _, Nat.zero_le _⟩ (by decide) f170 rfl rfl hl.1 rfl (Nat.le_of_ble_eq_true rfl) dX9_two_34 (fun r172 w173 H locs hp174 h => ?_)
    obtain ⟨e175, rfl⟩ := hp174
    refine lv_if_eq (tgt := 75) hx hb dX9_two_37 (by decide) (fun _ => ?_) (fun hc => absurd (by decide) hc)
    refine lv_iinc (v := 1) (lv' := [(4, .int 1), (3, .int 4), (2, .int 0), (0, .ref (ad 64)), (1, .int k)]) hx hb dX9_two_75 hl (k := 0) rfl rfl (by decide) rfl (fun ls hl => ?_)
    refine lv_goto (tgt := 25) hx hb dX9_two_78 (by decide) ?_
    refine lv_iload hx hb dX9_two_25 (lv_at hl 0 rfl) ?_
    refine lv_bipush (v := 7) hx hb dX9_two_27 (by decide) ?_
    refine lv_icmp_ge (tgt := 81) hx hb dX9_two_29 (by decide) (fun hc => absurd hc (by decide)) (fun _ => ?_)
    refine lv_aload_n hx hb dX9_two_32 rfl (lv_at hl 3 rfl) ?_
    refine lv_iload_n hx hb dX9_two_33 rfl (lv_at hl 1 rfl) ?_
    have f176 : w173 64 = .inr (7, [.ref (ad 65), .ref (ad 66), .ref (ad 67), .ref (ad 68), .long 0, .long 1, .ref (ad 69), .int 0, .ref (ad 70), .ref (ad 71), .int 0, .int 0, .int 0, .int 0, .int 0, .ref (ad 72), .ref (ad 73)]) := by rw [e175]; exact f170
    have f177 : w173 65 = .inl (cI, 177, .inl (fun _ => 0)) := by rw [e175]; exact f171
    refine q_Vi (na := 1) (As := [.int 4]) (rest := []) X hD hN h rfl (c_M_mayName l G cI cB cZ cO ad w173 4 f176 f177) ⟨kw_256, kw_257, kw_258, kw_190, kw_259⟩ rfl ⟨by decide, by decide, by decide⟩ ⟨Nat.le_of_ble_eq_true rfl, Nat.le_of_ble_eq_true rfl⟩ ⟨Nat.zero_le _, Nat.zero_le _⟩ (by decide) f176 rfl rfl hl.1 rfl (Nat.le_of_ble_eq_true rfl) dX9_two_34 (fun r178 w179 H locs hp180 h => ?_)
    obtain ⟨e181, rfl⟩ := hp180
    refine lv_if_eq (tgt := 75) hx hb dX9_two_37 (by decide) (fun _ => ?_) (fun hc => absurd (by decide) hc)
    refine lv_iinc (v := 2) (lv' := [(4, .int 2), (3, .int 4), (2, .int 0), (0, .ref (ad 64)), (1, .int k)]) hx hb dX9_two_75 hl (k := 0) rfl rfl (by decide) rfl (fun ls hl => ?_)
    refine lv_goto (tgt := 25) hx hb dX9_two_78 (by decide) ?_
    refine lv_iload hx hb dX9_two_25 (lv_at hl 0 rfl) ?_
    refine lv_bipush (v := 7) hx hb dX9_two_27 (by decide) ?_
    refine lv_icmp_ge (tgt := 81) hx hb dX9_two_29 (by decide) (fun hc => absurd hc (by decide)) (fun _ => ?_)
    refine lv_aload_n hx hb dX9_two_32 rfl (lv_at hl 3 rfl) ?_
    refine lv_iload_n hx hb dX9_two_33 rfl (lv_at hl 1 rfl) ?_
    have f182 : w179 64 = .inr (7, [.ref (ad 65), .ref (ad 66), .ref (ad 67), .ref (ad 68), .long 0, .long 1, .ref (ad 69), .int 0, .ref (ad 70), .ref (ad 71), .int 0, .int 0, .int 0, .int 0, .int 0, .ref (ad 72), .ref (ad 73)]) := by rw [e181]; exact f176
    have f183 : w179 65 = .inl (cI, 177, .inl (fun _ => 0)) := by rw [e181]; exact f177
    refine q_Vi (na := 1) (As := [.int 4]) (rest := []) X hD hN h rfl (c_M_mayName l G cI cB cZ cO ad w179 4 f182 f183) ⟨kw_256, kw_257, kw_258, kw_190, kw_259⟩ rfl ⟨by decide, by decide, by decide⟩ ⟨Nat.le_of_ble_eq_true rfl, Nat.le_of_ble_eq_true rfl⟩ ⟨Nat.zero_le _, Nat.zero_le _⟩ (by decide) f182 rfl rfl hl.1 rfl (Nat.le_of_ble_eq_true rfl) dX9_two_34 (fun r184 w185 H locs hp186 h => ?_)
    obtain ⟨e187, rfl⟩ := hp186
    refine lv_if_eq (tgt := 75) hx hb dX9_two_37 (by decide) (fun _ => ?_) (fun hc => absurd (by decide) hc)
    refine lv_iinc (v := 3) (lv' := [(4, .int 3), (3, .int 4), (2, .int 0), (0, .ref (ad 64)), (1, .int k)]) hx hb dX9_two_75 hl (k := 0) rfl rfl (by decide) rfl (fun ls hl => ?_)
    refine lv_goto (tgt := 25) hx hb dX9_two_78 (by decide) ?_
    refine lv_iload hx hb dX9_two_25 (lv_at hl 0 rfl) ?_
    refine lv_bipush (v := 7) hx hb dX9_two_27 (by decide) ?_
    refine lv_icmp_ge (tgt := 81) hx hb dX9_two_29 (by decide) (fun hc => absurd hc (by decide)) (fun _ => ?_)
    refine lv_aload_n hx hb dX9_two_32 rfl (lv_at hl 3 rfl) ?_
    refine lv_iload_n hx hb dX9_two_33 rfl (lv_at hl 1 rfl) ?_
    have f188 : w185 64 = .inr (7, [.ref (ad 65), .ref (ad 66), .ref (ad 67), .ref (ad 68), .long 0, .long 1, .ref (ad 69), .int 0, .ref (ad 70), .ref (ad 71), .int 0, .int 0, .int 0, .int 0, .int 0, .ref (ad 72), .ref (ad 73)]) := by rw [e187]; exact f182
    have f189 : w185 65 = .inl (cI, 177, .inl (fun _ => 0)) := by rw [e187]; exact f183
    refine q_Vi (na := 1) (As := [.int 4]) (rest := []) X hD hN h rfl (c_M_mayName l G cI cB cZ cO ad w185 4 f188 f189) ⟨kw_256, kw_257, kw_258, kw_190, kw_259⟩ rfl ⟨by decide, by decide, by decide⟩ ⟨Nat.le_of_ble_eq_true rfl, Nat.le_of_ble_eq_true rfl⟩ ⟨Nat.zero_le _, Nat.zero_le _⟩ (by decide) f188 rfl rfl hl.1 rfl (Nat.le_of_ble_eq_true rfl) dX9_two_34 (fun r190 w191 H locs hp192 h => ?_)
    obtain ⟨e193, rfl⟩ := hp192
    refine lv_if_eq (tgt := 75) hx hb dX9_two_37 (by decide) (fun _ => ?_) (fun hc => absurd (by decide) hc)
    refine lv_iinc (v := 4) (lv' := [(4, .int 4), (3, .int 4), (2, .int 0), (0, .ref (ad 64)), (1, .int k)]) hx hb dX9_two_75 hl (k := 0) rfl rfl (by decide) rfl (fun ls hl => ?_)
    refine lv_goto (tgt := 25) hx hb dX9_two_78 (by decide) ?_
    refine lv_iload hx hb dX9_two_25 (lv_at hl 0 rfl) ?_
    refine lv_bipush (v := 7) hx hb dX9_two_27 (by decide) ?_
    refine lv_icmp_ge (tgt := 81) hx hb dX9_two_29 (by decide) (fun hc => absurd hc (by decide)) (fun _ => ?_)
    refine lv_aload_n hx hb dX9_two_32 rfl (lv_at hl 3 rfl) ?_
    refine lv_iload_n hx hb dX9_two_33 rfl (lv_at hl 1 rfl) ?_
    have f194 : w191 64 = .inr (7, [.ref (ad 65), .ref (ad 66), .ref (ad 67), .ref (ad 68), .long 0, .long 1, .ref (ad 69), .int 0, .ref (ad 70), .ref (ad 71), .int 0, .int 0, .int 0, .int 0, .int 0, .ref (ad 72), .ref (ad 73)]) := by rw [e193]; exact f188
    have f195 : w191 65 = .inl (cI, 177, .inl (fun _ => 0)) := by rw [e193]; exact f189
    refine q_Vi (na := 1) (As := [.int 4]) (rest := []) X hD hN h rfl (c_M_mayName l G cI cB cZ cO ad w191 4 f194 f195) ⟨kw_256, kw_257, kw_258, kw_190, kw_259⟩ rfl ⟨by decide, by decide, by decide⟩ ⟨Nat.le_of_ble_eq_true rfl, Nat.le_of_ble_eq_true rfl⟩ ⟨Nat.zero_le _, Nat.zero_le _⟩ (by decide) f194 rfl rfl hl.1 rfl (Nat.le_of_ble_eq_true rfl) dX9_two_34 (fun r196 w197 H locs hp198 h => ?_)
    obtain ⟨e199, rfl⟩ := hp198
    refine lv_if_eq (tgt := 75) hx hb dX9_two_37 (by decide) (fun _ => ?_) (fun hc => absurd (by decide) hc)
    refine lv_iinc (v := 5) (lv' := [(4, .int 5), (3, .int 4), (2, .int 0), (0, .ref (ad 64)), (1, .int k)]) hx hb dX9_two_75 hl (k := 0) rfl rfl (by decide) rfl (fun ls hl => ?_)
    refine lv_goto (tgt := 25) hx hb dX9_two_78 (by decide) ?_
    refine lv_iload hx hb dX9_two_25 (lv_at hl 0 rfl) ?_
    refine lv_bipush (v := 7) hx hb dX9_two_27 (by decide) ?_
    refine lv_icmp_ge (tgt := 81) hx hb dX9_two_29 (by decide) (fun hc => absurd hc (by decide)) (fun _ => ?_)
    refine lv_aload_n hx hb dX9_two_32 rfl (lv_at hl 3 rfl) ?_
    refine lv_iload_n hx hb dX9_two_33 rfl (lv_at hl 1 rfl) ?_
    have f200 : w197 64 = .inr (7, [.ref (ad 65), .ref (ad 66), .ref (ad 67), .ref (ad 68), .long 0, .long 1, .ref (ad 69), .int 0, .ref (ad 70), .ref (ad 71), .int 0, .int 0, .int 0, .int 0, .int 0, .ref (ad 72), .ref (ad 73)]) := by rw [e199]; exact f194
    have f201 : w197 65 = .inl (cI, 177, .inl (fun _ => 0)) := by rw [e199]; exact f195
    refine q_Vi (na := 1) (As := [.int 4]) (rest := []) X hD hN h rfl (c_M_mayName l G cI cB cZ cO ad w197 4 f200 f201) ⟨kw_256, kw_257, kw_258, kw_190, kw_259⟩ rfl ⟨by decide, by decide, by decide⟩ ⟨Nat.le_of_ble_eq_true rfl, Nat.le_of_ble_eq_true rfl⟩ ⟨Nat.zero_le _, Nat.zero_le _⟩ (by decide) f200 rfl rfl hl.1 rfl (Nat.le_of_ble_eq_true rfl) dX9_two_34 (fun r202 w203 H locs hp204 h => ?_)
    obtain ⟨e205, rfl⟩ := hp204
    refine lv_if_eq (tgt := 75) hx hb dX9_two_37 (by decide) (fun _ => ?_) (fun hc => absurd (by decide) hc)
    refine lv_iinc (v := 6) (lv' := [(4, .int 6), (3, .int 4), (2, .int 0), (0, .ref (ad 64)), (1, .int k)]) hx hb dX9_two_75 hl (k := 0) rfl rfl (by decide) rfl (fun ls hl => ?_)
    refine lv_goto (tgt := 25) hx hb dX9_two_78 (by decide) ?_
    refine lv_iload hx hb dX9_two_25 (lv_at hl 0 rfl) ?_
    refine lv_bipush (v := 7) hx hb dX9_two_27 (by decide) ?_
    refine lv_icmp_ge (tgt := 81) hx hb dX9_two_29 (by decide) (fun hc => absurd hc (by decide)) (fun _ => ?_)
    refine lv_aload_n hx hb dX9_two_32 rfl (lv_at hl 3 rfl) ?_
    refine lv_iload_n hx hb dX9_two_33 rfl (lv_at hl 1 rfl) ?_
    have f206 : w203 64 = .inr (7, [.ref (ad 65), .ref (ad 66), .ref (ad 67), .ref (ad 68), .long 0, .long 1, .ref (ad 69), .int 0, .ref (ad 70), .ref (ad 71), .int 0, .int 0, .int 0, .int 0, .int 0, .ref (ad 72), .ref (ad 73)]) := by rw [e205]; exact f200
    have f207 : w203 65 = .inl (cI, 177, .inl (fun _ => 0)) := by rw [e205]; exact f201
    refine q_Vi (na := 1) (As := [.int 4]) (rest := []) X hD hN h rfl (c_M_mayName l G cI cB cZ cO ad w203 4 f206 f207) ⟨kw_256, kw_257, kw_258, kw_190, kw_259⟩ rfl ⟨by decide, by decide, by decide⟩ ⟨Nat.le_of_ble_eq_true rfl, Nat.le_of_ble_eq_true rfl⟩ ⟨Nat.zero_le _, Nat.zero_le _⟩ (by decide) f206 rfl rfl hl.1 rfl (Nat.le_of_ble_eq_true rfl) dX9_two_34 (fun r208 w209 H locs hp210 h => ?_)
    obtain ⟨e211, rfl⟩ := hp210
    refine lv_if_eq (tgt := 75) hx hb dX9_two_37 (by decide) (fun _ => ?_) (fun hc => absurd (by decide) hc)
    refine lv_iinc (v := 7) (lv' := [(4, .int 7), (3, .int 4), (2, .int 0), (0, .ref (ad 64)), (1, .int k)]) hx hb dX9_two_75 hl (k := 0) rfl rfl (by decide) rfl (fun ls hl => ?_)
    refine lv_goto (tgt := 25) hx hb dX9_two_78 (by decide) ?_
    refine lv_iload hx hb dX9_two_25 (lv_at hl 0 rfl) ?_
    refine lv_bipush (v := 7) hx hb dX9_two_27 (by decide) ?_
    refine lv_icmp_ge (tgt := 81) hx hb dX9_two_29 (by decide) (fun _ => ?_) (fun hc => absurd (by decide) hc)
    refine lv_iinc (v := 5) (lv' := [(3, .int 5), (4, .int 7), (2, .int 0), (0, .ref (ad 64)), (1, .int k)]) hx hb dX9_two_81 hl (k := 1) rfl rfl (by decide) rfl (fun ls hl => ?_)
    refine lv_goto (tgt := 16) hx hb dX9_two_84 (by decide) ?_
    refine lv_iload_n hx hb dX9_two_16 rfl (lv_at hl 0 rfl) ?_
    refine lv_bipush (v := 7) hx hb dX9_two_17 (by decide) ?_
    refine lv_icmp_ge (tgt := 87) hx hb dX9_two_19 (by decide) (fun hc => absurd hc (by decide)) (fun _ => ?_)
    refine lv_iconst (v := 0) hx hb dX9_two_22 (by decide) ?_
    refine lv_istore (lv' := [(4, .int 0), (3, .int 5), (2, .int 0), (0, .ref (ad 64)), (1, .int k)]) hx hb dX9_two_23 hl (by decide) rfl (fun ls hl => ?_)
    refine lv_iload hx hb dX9_two_25 (lv_at hl 0 rfl) ?_
    refine lv_bipush (v := 7) hx hb dX9_two_27 (by decide) ?_
    refine lv_icmp_ge (tgt := 81) hx hb dX9_two_29 (by decide) (fun hc => absurd hc (by decide)) (fun _ => ?_)
    refine lv_aload_n hx hb dX9_two_32 rfl (lv_at hl 3 rfl) ?_
    refine lv_iload_n hx hb dX9_two_33 rfl (lv_at hl 1 rfl) ?_
    have f212 : w209 64 = .inr (7, [.ref (ad 65), .ref (ad 66), .ref (ad 67), .ref (ad 68), .long 0, .long 1, .ref (ad 69), .int 0, .ref (ad 70), .ref (ad 71), .int 0, .int 0, .int 0, .int 0, .int 0, .ref (ad 72), .ref (ad 73)]) := by rw [e211]; exact f206
    have f213 : w209 65 = .inl (cI, 177, .inl (fun _ => 0)) := by rw [e211]; exact f207
    refine q_Vi (na := 1) (As := [.int 5]) (rest := []) X hD hN h rfl (c_M_mayName l G cI cB cZ cO ad w209 5 f212 f213) ⟨kw_256, kw_257, kw_258, kw_190, kw_259⟩ rfl ⟨by decide, by decide, by decide⟩ ⟨Nat.le_of_ble_eq_true rfl, Nat.le_of_ble_eq_true rfl⟩ ⟨Nat.zero_le _, Nat.zero_le _⟩ (by decide) f212 rfl rfl hl.1 rfl (Nat.le_of_ble_eq_true rfl) dX9_two_34 (fun r214 w215 H locs hp216 h => ?_)
    obtain ⟨e217, rfl⟩ := hp216
    refine lv_if_eq (tgt := 75) hx hb dX9_two_37 (by decide) (fun _ => ?_) (fun hc => absurd (by decide) hc)
    refine lv_iinc (v := 1) (lv' := [(4, .int 1), (3, .int 5), (2, .int 0), (0, .ref (ad 64)), (1, .int k)]) hx hb dX9_two_75 hl (k := 0) rfl rfl (by decide) rfl (fun ls hl => ?_)
    refine lv_goto (tgt := 25) hx hb dX9_two_78 (by decide) ?_
    refine lv_iload hx hb dX9_two_25 (lv_at hl 0 rfl) ?_
    refine lv_bipush (v := 7) hx hb dX9_two_27 (by decide) ?_
    refine lv_icmp_ge (tgt := 81) hx hb dX9_two_29 (by decide) (fun hc => absurd hc (by decide)) (fun _ => ?_)
    refine lv_aload_n hx hb dX9_two_32 rfl (lv_at hl 3 rfl) ?_
    refine lv_iload_n hx hb dX9_two_33 rfl (lv_at hl 1 rfl) ?_
    have f218 : w215 64 = .inr (7, [.ref (ad 65), .ref (ad 66), .ref (ad 67), .ref (ad 68), .long 0, .long 1, .ref (ad 69), .int 0, .ref (ad 70), .ref (ad 71), .int 0, .int 0, .int 0, .int 0, .int 0, .ref (ad 72), .ref (ad 73)]) := by rw [e217]; exact f212
    have f219 : w215 65 = .inl (cI, 177, .inl (fun _ => 0)) := by rw [e217]; exact f213
    refine q_Vi (na := 1) (As := [.int 5]) (rest := []) X hD hN h rfl (c_M_mayName l G cI cB cZ cO ad w215 5 f218 f219) ⟨kw_256, kw_257, kw_258, kw_190, kw_259⟩ rfl ⟨by decide, by decide, by decide⟩ ⟨Nat.le_of_ble_eq_true rfl, Nat.le_of_ble_eq_true rfl⟩ ⟨Nat.zero_le _, Nat.zero_le _⟩ (by decide) f218 rfl rfl hl.1 rfl (Nat.le_of_ble_eq_true rfl) dX9_two_34 (fun r220 w221 H locs hp222 h => ?_)
    obtain ⟨e223, rfl⟩ := hp222
    refine lv_if_eq (tgt := 75) hx hb dX9_two_37 (by decide) (fun _ => ?_) (fun hc => absurd (by decide) hc)
    refine lv_iinc (v := 2) (lv' := [(4, .int 2), (3, .int 5), (2, .int 0), (0, .ref (ad 64)), (1, .int k)]) hx hb dX9_two_75 hl (k := 0) rfl rfl (by decide) rfl (fun ls hl => ?_)
    refine lv_goto (tgt := 25) hx hb dX9_two_78 (by decide) ?_
    refine lv_iload hx hb dX9_two_25 (lv_at hl 0 rfl) ?_
    refine lv_bipush (v := 7) hx hb dX9_two_27 (by decide) ?_
    refine lv_icmp_ge (tgt := 81) hx hb dX9_two_29 (by decide) (fun hc => absurd hc (by decide)) (fun _ => ?_)
    refine lv_aload_n hx hb dX9_two_32 rfl (lv_at hl 3 rfl) ?_
    refine lv_iload_n hx hb dX9_two_33 rfl (lv_at hl 1 rfl) ?_
    have f224 : w221 64 = .inr (7, [.ref (ad 65), .ref (ad 66), .ref (ad 67), .ref (ad 68), .long 0, .long 1, .ref (ad 69), .int 0, .ref (ad 70), .ref (ad 71), .int 0, .int 0, .int 0, .int 0, .int 0, .ref (ad 72), .ref (ad 73)]) := by rw [e223]; exact f218
    have f225 : w221 65 = .inl (cI, 177, .inl (fun _ => 0)) := by rw [e223]; exact f219
    refine q_Vi (na := 1) (As := [.int 5]) (rest := []) X hD hN h rfl (c_M_mayName l G cI cB cZ cO ad w221 5 f224 f225) ⟨kw_256, kw_257, kw_258, kw_190, kw_259⟩ rfl ⟨by decide, by decide, by decide⟩ ⟨Nat.le_of_ble_eq_true rfl, Nat.le_of_ble_eq_true rfl⟩ ⟨Nat.zero_le _, Nat.zero_le _⟩ (by decide) f224 rfl rfl hl.1 rfl (Nat.le_of_ble_eq_true rfl) dX9_two_34 (fun r226 w227 H locs hp228 h => ?_)
    obtain ⟨e229, rfl⟩ := hp228
    refine lv_if_eq (tgt := 75) hx hb dX9_two_37 (by decide) (fun _ => ?_) (fun hc => absurd (by decide) hc)
    refine lv_iinc (v := 3) (lv' := [(4, .int 3), (3, .int 5), (2, .int 0), (0, .ref (ad 64)), (1, .int k)]) hx hb dX9_two_75 hl (k := 0) rfl rfl (by decide) rfl (fun ls hl => ?_)
    refine lv_goto (tgt := 25) hx hb dX9_two_78 (by decide) ?_
    refine lv_iload hx hb dX9_two_25 (lv_at hl 0 rfl) ?_
    refine lv_bipush (v := 7) hx hb dX9_two_27 (by decide) ?_
    refine lv_icmp_ge (tgt := 81) hx hb dX9_two_29 (by decide) (fun hc => absurd hc (by decide)) (fun _ => ?_)
    refine lv_aload_n hx hb dX9_two_32 rfl (lv_at hl 3 rfl) ?_
    refine lv_iload_n hx hb dX9_two_33 rfl (lv_at hl 1 rfl) ?_
    have f230 : w227 64 = .inr (7, [.ref (ad 65), .ref (ad 66), .ref (ad 67), .ref (ad 68), .long 0, .long 1, .ref (ad 69), .int 0, .ref (ad 70), .ref (ad 71), .int 0, .int 0, .int 0, .int 0, .int 0, .ref (ad 72), .ref (ad 73)]) := by rw [e229]; exact f224
    have f231 : w227 65 = .inl (cI, 177, .inl (fun _ => 0)) := by rw [e229]; exact f225
    refine q_Vi (na := 1) (As := [.int 5]) (rest := []) X hD hN h rfl (c_M_mayName l G cI cB cZ cO ad w227 5 f230 f231) ⟨kw_256, kw_257, kw_258, kw_190, kw_259⟩ rfl ⟨by decide, by decide, by decide⟩ ⟨Nat.le_of_ble_eq_true rfl, Nat.le_of_ble_eq_true rfl⟩ ⟨Nat.zero_le _, Nat.zero_le _⟩ (by decide) f230 rfl rfl hl.1 rfl (Nat.le_of_ble_eq_true rfl) dX9_two_34 (fun r232 w233 H locs hp234 h => ?_)
    obtain ⟨e235, rfl⟩ := hp234
    refine lv_if_eq (tgt := 75) hx hb dX9_two_37 (by decide) (fun _ => ?_) (fun hc => absurd (by decide) hc)
    refine lv_iinc (v := 4) (lv' := [(4, .int 4), (3, .int 5), (2, .int 0), (0, .ref (ad 64)), (1, .int k)]) hx hb dX9_two_75 hl (k := 0) rfl rfl (by decide) rfl (fun ls hl => ?_)
    refine lv_goto (tgt := 25) hx hb dX9_two_78 (by decide) ?_
    refine lv_iload hx hb dX9_two_25 (lv_at hl 0 rfl) ?_
    refine lv_bipush (v := 7) hx hb dX9_two_27 (by decide) ?_
    refine lv_icmp_ge (tgt := 81) hx hb dX9_two_29 (by decide) (fun hc => absurd hc (by decide)) (fun _ => ?_)
    refine lv_aload_n hx hb dX9_two_32 rfl (lv_at hl 3 rfl) ?_
    refine lv_iload_n hx hb dX9_two_33 rfl (lv_at hl 1 rfl) ?_
    have f236 : w233 64 = .inr (7, [.ref (ad 65), .ref (ad 66), .ref (ad 67), .ref (ad 68), .long 0, .long 1, .ref (ad 69), .int 0, .ref (ad 70), .ref (ad 71), .int 0, .int 0, .int 0, .int 0, .int 0, .ref (ad 72), .ref (ad 73)]) := by rw [e235]; exact f230
    have f237 : w233 65 = .inl (cI, 177, .inl (fun _ => 0)) := by rw [e235]; exact f231
    refine q_Vi (na := 1) (As := [.int 5]) (rest := []) X hD hN h rfl (c_M_mayName l G cI cB cZ cO ad w233 5 f236 f237) ⟨kw_256, kw_257, kw_258, kw_190, kw_259⟩ rfl ⟨by decide, by decide, by decide⟩ ⟨Nat.le_of_ble_eq_true rfl, Nat.le_of_ble_eq_true rfl⟩ ⟨Nat.zero_le _, Nat.zero_le _⟩ (by decide) f236 rfl rfl hl.1 rfl (Nat.le_of_ble_eq_true rfl) dX9_two_34 (fun r238 w239 H locs hp240 h => ?_)
    obtain ⟨e241, rfl⟩ := hp240
    refine lv_if_eq (tgt := 75) hx hb dX9_two_37 (by decide) (fun _ => ?_) (fun hc => absurd (by decide) hc)
    refine lv_iinc (v := 5) (lv' := [(4, .int 5), (3, .int 5), (2, .int 0), (0, .ref (ad 64)), (1, .int k)]) hx hb dX9_two_75 hl (k := 0) rfl rfl (by decide) rfl (fun ls hl => ?_)
    refine lv_goto (tgt := 25) hx hb dX9_two_78 (by decide) ?_
    refine lv_iload hx hb dX9_two_25 (lv_at hl 0 rfl) ?_
    refine lv_bipush (v := 7) hx hb dX9_two_27 (by decide) ?_
    refine lv_icmp_ge (tgt := 81) hx hb dX9_two_29 (by decide) (fun hc => absurd hc (by decide)) (fun _ => ?_)
    refine lv_aload_n hx hb dX9_two_32 rfl (lv_at hl 3 rfl) ?_
    refine lv_iload_n hx hb dX9_two_33 rfl (lv_at hl 1 rfl) ?_
    have f242 : w239 64 = .inr (7, [.ref (ad 65), .ref (ad 66), .ref (ad 67), .ref (ad 68), .long 0, .long 1, .ref (ad 69), .int 0, .ref (ad 70), .ref (ad 71), .int 0, .int 0, .int 0, .int 0, .int 0, .ref (ad 72), .ref (ad 73)]) := by rw [e241]; exact f236
    have f243 : w239 65 = .inl (cI, 177, .inl (fun _ => 0)) := by rw [e241]; exact f237
    refine q_Vi (na := 1) (As := [.int 5]) (rest := []) X hD hN h rfl (c_M_mayName l G cI cB cZ cO ad w239 5 f242 f243) ⟨kw_256, kw_257, kw_258, kw_190, kw_259⟩ rfl ⟨by decide, by decide, by decide⟩ ⟨Nat.le_of_ble_eq_true rfl, Nat.le_of_ble_eq_true rfl⟩ ⟨Nat.zero_le _, Nat.zero_le _⟩ (by decide) f242 rfl rfl hl.1 rfl (Nat.le_of_ble_eq_true rfl) dX9_two_34 (fun r244 w245 H locs hp246 h => ?_)
    obtain ⟨e247, rfl⟩ := hp246
    refine lv_if_eq (tgt := 75) hx hb dX9_two_37 (by decide) (fun _ => ?_) (fun hc => absurd (by decide) hc)
    refine lv_iinc (v := 6) (lv' := [(4, .int 6), (3, .int 5), (2, .int 0), (0, .ref (ad 64)), (1, .int k)]) hx hb dX9_two_75 hl (k := 0) rfl rfl (by decide) rfl (fun ls hl => ?_)
    refine lv_goto (tgt := 25) hx hb dX9_two_78 (by decide) ?_
    refine lv_iload hx hb dX9_two_25 (lv_at hl 0 rfl) ?_
    refine lv_bipush (v := 7) hx hb dX9_two_27 (by decide) ?_
    refine lv_icmp_ge (tgt := 81) hx hb dX9_two_29 (by decide) (fun hc => absurd hc (by decide)) (fun _ => ?_)
    refine lv_aload_n hx hb dX9_two_32 rfl (lv_at hl 3 rfl) ?_
    refine lv_iload_n hx hb dX9_two_33 rfl (lv_at hl 1 rfl) ?_
    have f248 : w245 64 = .inr (7, [.ref (ad 65), .ref (ad 66), .ref (ad 67), .ref (ad 68), .long 0, .long 1, .ref (ad 69), .int 0, .ref (ad 70), .ref (ad 71), .int 0, .int 0, .int 0, .int 0, .int 0, .ref (ad 72), .ref (ad 73)]) := by rw [e247]; exact f242
    have f249 : w245 65 = .inl (cI, 177, .inl (fun _ => 0)) := by rw [e247]; exact f243
    refine q_Vi (na := 1) (As := [.int 5]) (rest := []) X hD hN h rfl (c_M_mayName l G cI cB cZ cO ad w245 5 f248 f249) ⟨kw_256, kw_257, kw_258, kw_190, kw_259⟩ rfl ⟨by decide, by decide, by decide⟩ ⟨Nat.le_of_ble_eq_true rfl, Nat.le_of_ble_eq_true rfl⟩ ⟨Nat.zero_le _, Nat.zero_le _⟩ (by decide) f248 rfl rfl hl.1 rfl (Nat.le_of_ble_eq_true rfl) dX9_two_34 (fun r250 w251 H locs hp252 h => ?_)
    obtain ⟨e253, rfl⟩ := hp252
    refine lv_if_eq (tgt := 75) hx hb dX9_two_37 (by decide) (fun _ => ?_) (fun hc => absurd (by decide) hc)
    refine lv_iinc (v := 7) (lv' := [(4, .int 7), (3, .int 5), (2, .int 0), (0, .ref (ad 64)), (1, .int k)]) hx hb dX9_two_75 hl (k := 0) rfl rfl (by decide) rfl (fun ls hl => ?_)
    refine lv_goto (tgt := 25) hx hb dX9_two_78 (by decide) ?_
    refine lv_iload hx hb dX9_two_25 (lv_at hl 0 rfl) ?_
    refine lv_bipush (v := 7) hx hb dX9_two_27 (by decide) ?_
    refine lv_icmp_ge (tgt := 81) hx hb dX9_two_29 (by decide) (fun _ => ?_) (fun hc => absurd (by decide) hc)
    refine lv_iinc (v := 6) (lv' := [(3, .int 6), (4, .int 7), (2, .int 0), (0, .ref (ad 64)), (1, .int k)]) hx hb dX9_two_81 hl (k := 1) rfl rfl (by decide) rfl (fun ls hl => ?_)
    refine lv_goto (tgt := 16) hx hb dX9_two_84 (by decide) ?_
    refine lv_iload_n hx hb dX9_two_16 rfl (lv_at hl 0 rfl) ?_
    refine lv_bipush (v := 7) hx hb dX9_two_17 (by decide) ?_
    refine lv_icmp_ge (tgt := 87) hx hb dX9_two_19 (by decide) (fun hc => absurd hc (by decide)) (fun _ => ?_)
    refine lv_iconst (v := 0) hx hb dX9_two_22 (by decide) ?_
    refine lv_istore (lv' := [(4, .int 0), (3, .int 6), (2, .int 0), (0, .ref (ad 64)), (1, .int k)]) hx hb dX9_two_23 hl (by decide) rfl (fun ls hl => ?_)
    refine lv_iload hx hb dX9_two_25 (lv_at hl 0 rfl) ?_
    refine lv_bipush (v := 7) hx hb dX9_two_27 (by decide) ?_
    refine lv_icmp_ge (tgt := 81) hx hb dX9_two_29 (by decide) (fun hc => absurd hc (by decide)) (fun _ => ?_)
    refine lv_aload_n hx hb dX9_two_32 rfl (lv_at hl 3 rfl) ?_
    refine lv_iload_n hx hb dX9_two_33 rfl (lv_at hl 1 rfl) ?_
    have f254 : w251 64 = .inr (7, [.ref (ad 65), .ref (ad 66), .ref (ad 67), .ref (ad 68), .long 0, .long 1, .ref (ad 69), .int 0, .ref (ad 70), .ref (ad 71), .int 0, .int 0, .int 0, .int 0, .int 0, .ref (ad 72), .ref (ad 73)]) := by rw [e253]; exact f248
    have f255 : w251 65 = .inl (cI, 177, .inl (fun _ => 0)) := by rw [e253]; exact f249
    refine q_Vi (na := 1) (As := [.int 6]) (rest := []) X hD hN h rfl (c_M_mayName l G cI cB cZ cO ad w251 6 f254 f255) ⟨kw_256, kw_257, kw_258, kw_190, kw_259⟩ rfl ⟨by decide, by decide, by decide⟩ ⟨Nat.le_of_ble_eq_true rfl, Nat.le_of_ble_eq_true rfl⟩ ⟨Nat.zero_le _, Nat.zero_le _⟩ (by decide) f254 rfl rfl hl.1 rfl (Nat.le_of_ble_eq_true rfl) dX9_two_34 (fun r256 w257 H locs hp258 h => ?_)
    obtain ⟨e259, rfl⟩ := hp258
    refine lv_if_eq (tgt := 75) hx hb dX9_two_37 (by decide) (fun _ => ?_) (fun hc => absurd (by decide) hc)
    refine lv_iinc (v := 1) (lv' := [(4, .int 1), (3, .int 6), (2, .int 0), (0, .ref (ad 64)), (1, .int k)]) hx hb dX9_two_75 hl (k := 0) rfl rfl (by decide) rfl (fun ls hl => ?_)
    refine lv_goto (tgt := 25) hx hb dX9_two_78 (by decide) ?_
    refine lv_iload hx hb dX9_two_25 (lv_at hl 0 rfl) ?_
    refine lv_bipush (v := 7) hx hb dX9_two_27 (by decide) ?_
    refine lv_icmp_ge (tgt := 81) hx hb dX9_two_29 (by decide) (fun hc => absurd hc (by decide)) (fun _ => ?_)
    refine lv_aload_n hx hb dX9_two_32 rfl (lv_at hl 3 rfl) ?_
    refine lv_iload_n hx hb dX9_two_33 rfl (lv_at hl 1 rfl) ?_
    have f260 : w257 64 = .inr (7, [.ref (ad 65), .ref (ad 66), .ref (ad 67), .ref (ad 68), .long 0, .long 1, .ref (ad 69), .int 0, .ref (ad 70), .ref (ad 71), .int 0, .int 0, .int 0, .int 0, .int 0, .ref (ad 72), .ref (ad 73)]) := by rw [e259]; exact f254
    have f261 : w257 65 = .inl (cI, 177, .inl (fun _ => 0)) := by rw [e259]; exact f255
    refine q_Vi (na := 1) (As := [.int 6]) (rest := []) X hD hN h rfl (c_M_mayName l G cI cB cZ cO ad w257 6 f260 f261) ⟨kw_256, kw_257, kw_258, kw_190, kw_259⟩ rfl ⟨by decide, by decide, by decide⟩ ⟨Nat.le_of_ble_eq_true rfl, Nat.le_of_ble_eq_true rfl⟩ ⟨Nat.zero_le _, Nat.zero_le _⟩ (by decide) f260 rfl rfl hl.1 rfl (Nat.le_of_ble_eq_true rfl) dX9_two_34 (fun r262 w263 H locs hp264 h => ?_)
    obtain ⟨e265, rfl⟩ := hp264
    refine lv_if_eq (tgt := 75) hx hb dX9_two_37 (by decide) (fun _ => ?_) (fun hc => absurd (by decide) hc)
    refine lv_iinc (v := 2) (lv' := [(4, .int 2), (3, .int 6), (2, .int 0), (0, .ref (ad 64)), (1, .int k)]) hx hb dX9_two_75 hl (k := 0) rfl rfl (by decide) rfl (fun ls hl => ?_)
    refine lv_goto (tgt := 25) hx hb dX9_two_78 (by decide) ?_
    refine lv_iload hx hb dX9_two_25 (lv_at hl 0 rfl) ?_
    refine lv_bipush (v := 7) hx hb dX9_two_27 (by decide) ?_
    refine lv_icmp_ge (tgt := 81) hx hb dX9_two_29 (by decide) (fun hc => absurd hc (by decide)) (fun _ => ?_)
    refine lv_aload_n hx hb dX9_two_32 rfl (lv_at hl 3 rfl) ?_
    refine lv_iload_n hx hb dX9_two_33 rfl (lv_at hl 1 rfl) ?_
    have f266 : w263 64 = .inr (7, [.ref (ad 65), .ref (ad 66), .ref (ad 67), .ref (ad 68), .long 0, .long 1, .ref (ad 69), .int 0, .ref (ad 70), .ref (ad 71), .int 0, .int 0, .int 0, .int 0, .int 0, .ref (ad 72), .ref (ad 73)]) := by rw [e265]; exact f260
    have f267 : w263 65 = .inl (cI, 177, .inl (fun _ => 0)) := by rw [e265]; exact f261
    refine q_Vi (na := 1) (As := [.int 6]) (rest := []) X hD hN h rfl (c_M_mayName l G cI cB cZ cO ad w263 6 f266 f267) ⟨kw_256, kw_257, kw_258, kw_190, kw_259⟩ rfl ⟨by decide, by decide, by decide⟩ ⟨Nat.le_of_ble_eq_true rfl, Nat.le_of_ble_eq_true rfl⟩ ⟨Nat.zero_le _, Nat.zero_le _⟩ (by decide) f266 rfl rfl hl.1 rfl (Nat.le_of_ble_eq_true rfl) dX9_two_34 (fun r268 w269 H locs hp270 h => ?_)
    obtain ⟨e271, rfl⟩ := hp270
    refine lv_if_eq (tgt := 75) hx hb dX9_two_37 (by decide) (fun _ => ?_) (fun hc => absurd (by decide) hc)
    refine lv_iinc (v := 3) (lv' := [(4, .int 3), (3, .int 6), (2, .int 0), (0, .ref (ad 64)), (1, .int k)]) hx hb dX9_two_75 hl (k := 0) rfl rfl (by decide) rfl (fun ls hl => ?_)
    refine lv_goto (tgt := 25) hx hb dX9_two_78 (by decide) ?_
    refine lv_iload hx hb dX9_two_25 (lv_at hl 0 rfl) ?_
    refine lv_bipush (v := 7) hx hb dX9_two_27 (by decide) ?_
    refine lv_icmp_ge (tgt := 81) hx hb dX9_two_29 (by decide) (fun hc => absurd hc (by decide)) (fun _ => ?_)
    refine lv_aload_n hx hb dX9_two_32 rfl (lv_at hl 3 rfl) ?_
    refine lv_iload_n hx hb dX9_two_33 rfl (lv_at hl 1 rfl) ?_
    have f272 : w269 64 = .inr (7, [.ref (ad 65), .ref (ad 66), .ref (ad 67), .ref (ad 68), .long 0, .long 1, .ref (ad 69), .int 0, .ref (ad 70), .ref (ad 71), .int 0, .int 0, .int 0, .int 0, .int 0, .ref (ad 72), .ref (ad 73)]) := by rw [e271]; exact f266
    have f273 : w269 65 = .inl (cI, 177, .inl (fun _ => 0)) := by rw [e271]; exact f267
    refine q_Vi (na := 1) (As := [.int 6]) (rest := []) X hD hN h rfl (c_M_mayName l G cI cB cZ cO ad w269 6 f272 f273) ⟨kw_256, kw_257, kw_258, kw_190, kw_259⟩ rfl ⟨by decide, by decide, by decide⟩ ⟨Nat.le_of_ble_eq_true rfl, Nat.le_of_ble_eq_true rfl⟩ ⟨Nat.zero_le _, Nat.zero_le _⟩ (by decide) f272 rfl rfl hl.1 rfl (Nat.le_of_ble_eq_true rfl) dX9_two_34 (fun r274 w275 H locs hp276 h => ?_)
    obtain ⟨e277, rfl⟩ := hp276
    refine lv_if_eq (tgt := 75) hx hb dX9_two_37 (by decide) (fun _ => ?_) (fun hc => absurd (by decide) hc)
    refine lv_iinc (v := 4) (lv' := [(4, .int 4), (3, .int 6), (2, .int 0), (0, .ref (ad 64)), (1, .int k)]) hx hb dX9_two_75 hl (k := 0) rfl rfl (by decide) rfl (fun ls hl => ?_)
    refine lv_goto (tgt := 25) hx hb dX9_two_78 (by decide) ?_
    refine lv_iload hx hb dX9_two_25 (lv_at hl 0 rfl) ?_
    refine lv_bipush (v := 7) hx hb dX9_two_27 (by decide) ?_
    refine lv_icmp_ge (tgt := 81) hx hb dX9_two_29 (by decide) (fun hc => absurd hc (by decide)) (fun _ => ?_)
    refine lv_aload_n hx hb dX9_two_32 rfl (lv_at hl 3 rfl) ?_
    refine lv_iload_n hx hb dX9_two_33 rfl (lv_at hl 1 rfl) ?_
    have f278 : w275 64 = .inr (7, [.ref (ad 65), .ref (ad 66), .ref (ad 67), .ref (ad 68), .long 0, .long 1, .ref (ad 69), .int 0, .ref (ad 70), .ref (ad 71), .int 0, .int 0, .int 0, .int 0, .int 0, .ref (ad 72), .ref (ad 73)]) := by rw [e277]; exact f272
    have f279 : w275 65 = .inl (cI, 177, .inl (fun _ => 0)) := by rw [e277]; exact f273
    refine q_Vi (na := 1) (As := [.int 6]) (rest := []) X hD hN h rfl (c_M_mayName l G cI cB cZ cO ad w275 6 f278 f279) ⟨kw_256, kw_257, kw_258, kw_190, kw_259⟩ rfl ⟨by decide, by decide, by decide⟩ ⟨Nat.le_of_ble_eq_true rfl, Nat.le_of_ble_eq_true rfl⟩ ⟨Nat.zero_le _, Nat.zero_le _⟩ (by decide) f278 rfl rfl hl.1 rfl (Nat.le_of_ble_eq_true rfl) dX9_two_34 (fun r280 w281 H locs hp282 h => ?_)
    obtain ⟨e283, rfl⟩ := hp282
    refine lv_if_eq (tgt := 75) hx hb dX9_two_37 (by decide) (fun _ => ?_) (fun hc => absurd (by decide) hc)
    refine lv_iinc (v := 5) (lv' := [(4, .int 5), (3, .int 6), (2, .int 0), (0, .ref (ad 64)), (1, .int k)]) hx hb dX9_two_75 hl (k := 0) rfl rfl (by decide) rfl (fun ls hl => ?_)
    refine lv_goto (tgt := 25) hx hb dX9_two_78 (by decide) ?_
    refine lv_iload hx hb dX9_two_25 (lv_at hl 0 rfl) ?_
    refine lv_bipush (v := 7) hx hb dX9_two_27 (by decide) ?_
    refine lv_icmp_ge (tgt := 81) hx hb dX9_two_29 (by decide) (fun hc => absurd hc (by decide)) (fun _ => ?_)
    refine lv_aload_n hx hb dX9_two_32 rfl (lv_at hl 3 rfl) ?_
    refine lv_iload_n hx hb dX9_two_33 rfl (lv_at hl 1 rfl) ?_
    have f284 : w281 64 = .inr (7, [.ref (ad 65), .ref (ad 66), .ref (ad 67), .ref (ad 68), .long 0, .long 1, .ref (ad 69), .int 0, .ref (ad 70), .ref (ad 71), .int 0, .int 0, .int 0, .int 0, .int 0, .ref (ad 72), .ref (ad 73)]) := by rw [e283]; exact f278
    have f285 : w281 65 = .inl (cI, 177, .inl (fun _ => 0)) := by rw [e283]; exact f279
    refine q_Vi (na := 1) (As := [.int 6]) (rest := []) X hD hN h rfl (c_M_mayName l G cI cB cZ cO ad w281 6 f284 f285) ⟨kw_256, kw_257, kw_258, kw_190, kw_259⟩ rfl ⟨by decide, by decide, by decide⟩ ⟨Nat.le_of_ble_eq_true rfl, Nat.le_of_ble_eq_true rfl⟩ ⟨Nat.zero_le _, Nat.zero_le _⟩ (by decide) f284 rfl rfl hl.1 rfl (Nat.le_of_ble_eq_true rfl) dX9_two_34 (fun r286 w287 H locs hp288 h => ?_)
    obtain ⟨e289, rfl⟩ := hp288
    refine lv_if_eq (tgt := 75) hx hb dX9_two_37 (by decide) (fun _ => ?_) (fun hc => absurd (by decide) hc)
    refine lv_iinc (v := 6) (lv' := [(4, .int 6), (3, .int 6), (2, .int 0), (0, .ref (ad 64)), (1, .int k)]) hx hb dX9_two_75 hl (k := 0) rfl rfl (by decide) rfl (fun ls hl => ?_)
    refine lv_goto (tgt := 25) hx hb dX9_two_78 (by decide) ?_
    refine lv_iload hx hb dX9_two_25 (lv_at hl 0 rfl) ?_
    refine lv_bipush (v := 7) hx hb dX9_two_27 (by decide) ?_
    refine lv_icmp_ge (tgt := 81) hx hb dX9_two_29 (by decide) (fun hc => absurd hc (by decide)) (fun _ => ?_)
    refine lv_aload_n hx hb dX9_two_32 rfl (lv_at hl 3 rfl) ?_
    refine lv_iload_n hx hb dX9_two_33 rfl (lv_at hl 1 rfl) ?_
    have f290 : w287 64 = .inr (7, [.ref (ad 65), .ref (ad 66), .ref (ad 67), .ref (ad 68), .long 0, .long 1, .ref (ad 69), .int 0, .ref (ad 70), .ref (ad 71), .int 0, .int 0, .int 0, .int 0, .int 0, .ref (ad 72), .ref (ad 73)]) := by rw [e289]; exact f284
    have f291 : w287 65 = .inl (cI, 177, .inl (fun _ => 0)) := by rw [e289]; exact f285
    refine q_Vi (na := 1) (As := [.int 6]) (rest := []) X hD hN h rfl (c_M_mayName l G cI cB cZ cO ad w287 6 f290 f291) ⟨kw_256, kw_257, kw_258, kw_190, kw_259⟩ rfl ⟨by decide, by decide, by decide⟩ ⟨Nat.le_of_ble_eq_true rfl, Nat.le_of_ble_eq_true rfl⟩ ⟨Nat.zero_le _, Nat.zero_le _⟩ (by decide) f290 rfl rfl hl.1 rfl (Nat.le_of_ble_eq_true rfl) dX9_two_34 (fun r292 w293 H locs hp294 h => ?_)
    obtain ⟨e295, rfl⟩ := hp294
    refine lv_if_eq (tgt := 75) hx hb dX9_two_37 (by decide) (fun _ => ?_) (fun hc => absurd (by decide) hc)
    refine lv_iinc (v := 7) (lv' := [(4, .int 7), (3, .int 6), (2, .int 0), (0, .ref (ad 64)), (1, .int k)]) hx hb dX9_two_75 hl (k := 0) rfl rfl (by decide) rfl (fun ls hl => ?_)
    refine lv_goto (tgt := 25) hx hb dX9_two_78 (by decide) ?_
    refine lv_iload hx hb dX9_two_25 (lv_at hl 0 rfl) ?_
    refine lv_bipush (v := 7) hx hb dX9_two_27 (by decide) ?_
    refine lv_icmp_ge (tgt := 81) hx hb dX9_two_29 (by decide) (fun _ => ?_) (fun hc => absurd (by decide) hc)
    refine lv_iinc (v := 7) (lv' := [(3, .int 7), (4, .int 7), (2, .int 0), (0, .ref (ad 64)), (1, .int k)]) hx hb dX9_two_81 hl (k := 1) rfl rfl (by decide) rfl (fun ls hl => ?_)
    refine lv_goto (tgt := 16) hx hb dX9_two_84 (by decide) ?_
    refine lv_iload_n hx hb dX9_two_16 rfl (lv_at hl 0 rfl) ?_
    refine lv_bipush (v := 7) hx hb dX9_two_17 (by decide) ?_
    refine lv_icmp_ge (tgt := 87) hx hb dX9_two_19 (by decide) (fun _ => ?_) (fun hc => absurd (by decide) hc)
    refine lv_iload_n hx hb dX9_two_87 rfl (lv_at hl 4 rfl) ?_
    refine lv_iconst (v := (-1)) hx hb dX9_two_88 (by decide) ?_
    refine lv_icmp_ne (tgt := 96) hx hb dX9_two_89 (by decide) (fun hc296 => ?_) (fun hc296 => ?_)
    · have hc296 : ¬ (k).toInt = (-1) := i_ne hc296 rfl rfl
      refine lv_bipush (v := (-5)) hx hb dX9_two_96 (by decide) ?_
      exact e_i X h hr hlk dX9_two_98 ⟨fun _ => by first | rfl | omega, fun _ => by first | rfl | omega, fun _ => by first | rfl | omega⟩
    · have hc296 : (k).toInt = (-1) := i_eq hc296 rfl rfl
      refine lv_iload_n hx hb dX9_two_92 rfl (lv_at hl 2 rfl) ?_
      refine lv_goto (tgt := 98) hx hb dX9_two_93 (by decide) ?_
      exact e_i X h hr hlk dX9_two_98 ⟨fun _ => by first | rfl | omega, fun _ => by first | rfl | omega, fun _ => by first | rfl | omega⟩
  · have hc1 : ¬ (-1) ≤ (k).toInt := i_nle hc1 rfl rfl
    refine lv_aload_n hx hb dX9_two_5 rfl (lv_at hl 0 rfl) ?_
    refine lv_bipush (v := (-10)) hx hb dX9_two_6 (by decide) ?_
    have f297 : w 64 = .inr (7, [.ref (ad 65), .ref (ad 66), .ref (ad 67), .ref (ad 68), .long 0, .long 1, .ref (ad 69), .int 0, .ref (ad 70), .ref (ad 71), .int 0, .int 0, .int 0, .int 0, .int 0, .ref (ad 72), .ref (ad 73)]) := F 64 (by decide) (by decide)
    have f298 : w 68 = .inl (cI, 3, .inl (fun _ => 0)) := F 68 (by decide) (by decide)
    refine q_Vi (na := 1) (As := [.int (-10)]) (rest := []) X hD hN h rfl (c_M_bad l G cI cB cZ cO ad w (-10) f297 f298) ⟨kw_199, kw_200, kw_201, kw_190, kw_202⟩ rfl ⟨by decide, by decide, by decide⟩ ⟨Nat.le_of_ble_eq_true rfl, Nat.le_of_ble_eq_true rfl⟩ ⟨Nat.zero_le _, Nat.zero_le _⟩ (by decide) f297 rfl rfl hl.1 rfl (Nat.le_of_ble_eq_true rfl) dX9_two_8 (fun r299 w300 H locs hp301 h => ?_)
    obtain ⟨rfl, hf302⟩ := hp301
    exact e_i X h hr hlk dX9_two_11 ⟨fun _ => by first | rfl | omega, fun _ => by first | rfl | omega, fun _ => by first | rfl | omega⟩

set_option maxHeartbeats 4000000 in
set_option maxRecDepth 100000 in
theorem c_M_part (l : Launch) (G : va_G) (cI cB cZ cO : ClassId) (ad : Nat → Nat) (w : Nat → va_E) (F : ∀ k, k < 74 → 64 ≤ k → w k = fr0 cI cB cZ cO ad k) (u : Int32) : ML l G (tyq cI cB cZ cO) yX9_part cX9_part 2 (some .long) 1 21 74 ad w [.ref (ad 64), .int u] (fun r w1 => (u.toInt = 0 → r = 0) ∧ (u.toInt = 1 → r = 1) ∧ (¬ u.toInt = 0 ∧ ¬ u.toInt = 1 → r = -2)) := by
  refine mk_l (own := "NoonShadeModel") rfl (by decide) (Nat.le_of_ble_eq_true rfl) ?_
  intro p e s m below meth c ls X hD hN hr hlk h hl
  have hx := X.1.1
  have hb := X.1.2.1
  have hown := X.1.2.2.2.1
  have hts := X.1.2.2.2.2
  have hl : lv_has ls 2 [(0, .ref (ad 64)), (1, .int u)] := hl
  refine lv_iload_n hx hb dX9_part_0 rfl (lv_at hl 1 rfl) ?_
  refine lv_if_ne (tgt := 11) hx hb dX9_part_1 (by decide) (fun hc1 => ?_) (fun hc1 => ?_)
  · have hc1 : ¬ (u).toInt = 0 := i_ne hc1 rfl rfl
    refine lv_iload_n hx hb dX9_part_11 rfl (lv_at hl 1 rfl) ?_
    refine lv_iconst (v := 1) hx hb dX9_part_12 (by decide) ?_
    refine lv_icmp_ne (tgt := 23) hx hb dX9_part_13 (by decide) (fun hc2 => ?_) (fun hc2 => ?_)
    · have hc2 : ¬ (u).toInt = 1 := i_ne hc2 rfl rfl
      refine lv_aload_n hx hb dX9_part_23 rfl (lv_at hl 0 rfl) ?_
      refine lv_bipush (v := (-2)) hx hb dX9_part_24 (by decide) ?_
      have f3 : w 64 = .inr (7, [.ref (ad 65), .ref (ad 66), .ref (ad 67), .ref (ad 68), .long 0, .long 1, .ref (ad 69), .int 0, .ref (ad 70), .ref (ad 71), .int 0, .int 0, .int 0, .int 0, .int 0, .ref (ad 72), .ref (ad 73)]) := F 64 (by decide) (by decide)
      have f4 : w 68 = .inl (cI, 3, .inl (fun _ => 0)) := F 68 (by decide) (by decide)
      refine q_Vi (na := 1) (As := [.int (-2)]) (rest := []) X hD hN h rfl (c_M_bad l G cI cB cZ cO ad w (-2) f3 f4) ⟨kw_199, kw_200, kw_201, kw_190, kw_202⟩ rfl ⟨by decide, by decide, by decide⟩ ⟨Nat.le_of_ble_eq_true rfl, Nat.le_of_ble_eq_true rfl⟩ ⟨Nat.zero_le _, Nat.zero_le _⟩ (by decide) f3 rfl rfl hl.1 rfl (Nat.le_of_ble_eq_true rfl) dX9_part_26 (fun r5 w6 H locs hp7 h => ?_)
      obtain ⟨rfl, hf8⟩ := hp7
      refine lv_i2l (v := (-2)) hx hb dX9_part_29 rfl ?_
      exact e_l X h hr hlk dX9_part_30 ⟨fun _ => by first | rfl | omega, fun _ => by first | rfl | omega, fun _ => by first | rfl | omega⟩
    · have hc2 : (u).toInt = 1 := i_eq hc2 rfl rfl
      refine lv_aload_n hx hb dX9_part_16 rfl (lv_at hl 0 rfl) ?_
      have f9 : w 64 = .inr (7, [.ref (ad 65), .ref (ad 66), .ref (ad 67), .ref (ad 68), .long 0, .long 1, .ref (ad 69), .int 0, .ref (ad 70), .ref (ad 71), .int 0, .int 0, .int 0, .int 0, .int 0, .ref (ad 72), .ref (ad 73)]) := F 64 (by decide) (by decide)
      refine r_get kc9 X h 64 5 (by decide) rfl f9 (by decide) kw_260 rfl dX9_part_17 ?_
      refine lv_goto (tgt := 30) hx hb dX9_part_20 (by decide) ?_
      exact e_l X h hr hlk dX9_part_30 ⟨fun _ => by first | rfl | omega, fun _ => by first | rfl | omega, fun _ => by first | rfl | omega⟩
  · have hc1 : (u).toInt = 0 := i_eq hc1 rfl rfl
    refine lv_aload_n hx hb dX9_part_4 rfl (lv_at hl 0 rfl) ?_
    have f10 : w 64 = .inr (7, [.ref (ad 65), .ref (ad 66), .ref (ad 67), .ref (ad 68), .long 0, .long 1, .ref (ad 69), .int 0, .ref (ad 70), .ref (ad 71), .int 0, .int 0, .int 0, .int 0, .int 0, .ref (ad 72), .ref (ad 73)]) := F 64 (by decide) (by decide)
    refine r_get kc9 X h 64 4 (by decide) rfl f10 (by decide) kw_261 rfl dX9_part_5 ?_
    refine lv_goto (tgt := 30) hx hb dX9_part_8 (by decide) ?_
    exact e_l X h hr hlk dX9_part_30 ⟨fun _ => by first | rfl | omega, fun _ => by first | rfl | omega, fun _ => by first | rfl | omega⟩

set_option maxHeartbeats 4000000 in
set_option maxRecDepth 100000 in
theorem c_M_from (l : Launch) (G : va_G) (cI cB cZ cO : ClassId) (ad : Nat → Nat) (w : Nat → va_E) (F : ∀ k, k < 74 → 64 ≤ k → w k = fr0 cI cB cZ cO ad k) (i : Int32) : MI l G (tyq cI cB cZ cO) yX9_from cX9_from 3 (some .int) 1 25 74 ad w [.ref (ad 64), .int i] (fun r w1 => (0 ≤ i.toInt ∧ i.toInt ≤ 1 → r = -3) ∧ (¬ (0 ≤ i.toInt ∧ i.toInt ≤ 1) → r = -2)) := by
  refine mk_i (own := "NoonShadeModel") rfl (by decide) (Nat.le_of_ble_eq_true rfl) ?_
  intro p e s m below meth c ls X hD hN hr hlk h hl
  have hx := X.1.1
  have hb := X.1.2.1
  have hown := X.1.2.2.2.1
  have hts := X.1.2.2.2.2
  have hl : lv_has ls 3 [(0, .ref (ad 64)), (1, .int i)] := hl
  refine lv_iload_n hx hb dX9_from_0 rfl (lv_at hl 1 rfl) ?_
  refine lv_i2l (v := i.toInt64) hx hb dX9_from_1 rfl ?_
  refine lv_lconst (v := 0) hx hb dX9_from_2 (by decide) ?_
  refine lv_lconst (v := 1) hx hb dX9_from_3 (by decide) ?_
  refine q_Si (na := 3) (As := [.long i.toInt64, .long 0, .long 1]) (rest := []) X hD hN h (c_M_in l G cI cB cZ cO ad w i.toInt64 0 1 ((i).toInt) 0 1 (Int32.toInt_toInt64 _) rfl rfl) ⟨kw_188, kw_189, kw_190, kw_191⟩ ⟨by decide, by decide, by decide⟩ ⟨Nat.le_of_ble_eq_true rfl, Nat.le_of_ble_eq_true rfl⟩ ⟨Nat.zero_le _, Nat.zero_le _⟩ rfl hl.1 rfl (Nat.le_of_ble_eq_true rfl) dX9_from_4 (fun r1 w2 H locs hp3 h => ?_)
  obtain ⟨e4, hp3⟩ := hp3
  rcases hp3 with ⟨hq5a, hq5b, rfl⟩ | ⟨hq5, rfl⟩
  · refine lv_if_ne (tgt := 17) hx hb dX9_from_7 (by decide) (fun _ => ?_) (fun hc => absurd hc (by decide))
    refine lv_aload_n hx hb dX9_from_17 rfl (lv_at hl 0 rfl) ?_
    have f6 : w 64 = .inr (7, [.ref (ad 65), .ref (ad 66), .ref (ad 67), .ref (ad 68), .long 0, .long 1, .ref (ad 69), .int 0, .ref (ad 70), .ref (ad 71), .int 0, .int 0, .int 0, .int 0, .int 0, .ref (ad 72), .ref (ad 73)]) := F 64 (by decide) (by decide)
    have f7 : w2 64 = .inr (7, [.ref (ad 65), .ref (ad 66), .ref (ad 67), .ref (ad 68), .long 0, .long 1, .ref (ad 69), .int 0, .ref (ad 70), .ref (ad 71), .int 0, .int 0, .int 0, .int 0, .int 0, .ref (ad 72), .ref (ad 73)]) := by rw [e4]; exact f6
    refine r_get kc9 X h 64 2 (by decide) rfl f7 (by decide) kw_262 rfl dX9_from_18 ?_
    refine lv_iload_n hx hb dX9_from_21 rfl (lv_at hl 1 rfl) ?_
    have f8 : w 67 = .inl (cZ, 2, .inl (fun _ => 0)) := F 67 (by decide) (by decide)
    have f9 : w2 67 = .inl (cZ, 2, .inl (fun _ => 0)) := by rw [e4]; exact f8
    refine o_zald (v := 0) X h 67 2 (by decide) rfl f9 rfl (in_of (by omega) (by omega)) rfl dX9_from_22 ?_
    refine lv_if_ne (tgt := 31) hx hb dX9_from_23 (by decide) (fun hc => absurd (by decide) hc) (fun _ => ?_)
    refine lv_aload_n hx hb dX9_from_26 rfl (lv_at hl 0 rfl) ?_
    have f10 : w 68 = .inl (cI, 3, .inl (fun _ => 0)) := F 68 (by decide) (by decide)
    have f11 : w2 68 = .inl (cI, 3, .inl (fun _ => 0)) := by rw [e4]; exact f10
    refine q_Vi (na := 0) (As := []) (rest := []) X hD hN h rfl (c_M_no l G cI cB cZ cO ad w2 f7 f11) ⟨kw_241, kw_242, kw_243, kw_190, kw_244⟩ rfl ⟨by decide, by decide, by decide⟩ ⟨Nat.le_of_ble_eq_true rfl, Nat.le_of_ble_eq_true rfl⟩ ⟨Nat.zero_le _, Nat.zero_le _⟩ (by decide) f7 rfl rfl hl.1 rfl (Nat.le_of_ble_eq_true rfl) dX9_from_27 (fun r12 w13 H locs hp14 h => ?_)
    obtain ⟨rfl, hf15⟩ := hp14
    exact e_i X h hr hlk dX9_from_30 ⟨fun _ => by first | rfl | omega, fun _ => by first | rfl | omega⟩
  · refine lv_if_ne (tgt := 17) hx hb dX9_from_7 (by decide) (fun hc => absurd (by decide) hc) (fun _ => ?_)
    refine lv_aload_n hx hb dX9_from_10 rfl (lv_at hl 0 rfl) ?_
    refine lv_bipush (v := (-2)) hx hb dX9_from_11 (by decide) ?_
    have f16 : w 64 = .inr (7, [.ref (ad 65), .ref (ad 66), .ref (ad 67), .ref (ad 68), .long 0, .long 1, .ref (ad 69), .int 0, .ref (ad 70), .ref (ad 71), .int 0, .int 0, .int 0, .int 0, .int 0, .ref (ad 72), .ref (ad 73)]) := F 64 (by decide) (by decide)
    have f17 : w2 64 = .inr (7, [.ref (ad 65), .ref (ad 66), .ref (ad 67), .ref (ad 68), .long 0, .long 1, .ref (ad 69), .int 0, .ref (ad 70), .ref (ad 71), .int 0, .int 0, .int 0, .int 0, .int 0, .ref (ad 72), .ref (ad 73)]) := by rw [e4]; exact f16
    have f18 : w 68 = .inl (cI, 3, .inl (fun _ => 0)) := F 68 (by decide) (by decide)
    have f19 : w2 68 = .inl (cI, 3, .inl (fun _ => 0)) := by rw [e4]; exact f18
    refine q_Vi (na := 1) (As := [.int (-2)]) (rest := []) X hD hN h rfl (c_M_bad l G cI cB cZ cO ad w2 (-2) f17 f19) ⟨kw_199, kw_200, kw_201, kw_190, kw_202⟩ rfl ⟨by decide, by decide, by decide⟩ ⟨Nat.le_of_ble_eq_true rfl, Nat.le_of_ble_eq_true rfl⟩ ⟨Nat.zero_le _, Nat.zero_le _⟩ (by decide) f17 rfl rfl hl.1 rfl (Nat.le_of_ble_eq_true rfl) dX9_from_13 (fun r20 w21 H locs hp22 h => ?_)
    obtain ⟨rfl, hf23⟩ := hp22
    exact e_i X h hr hlk dX9_from_16 ⟨fun _ => by first | rfl | omega, fun _ => by first | rfl | omega⟩

set_option maxHeartbeats 4000000 in
set_option maxRecDepth 100000 in
theorem c_M_status (l : Launch) (G : va_G) (cI cB cZ cO : ClassId) (ad : Nat → Nat) (w : Nat → va_E) (F : ∀ k, k < 74 → 64 ≤ k → w k = fr0 cI cB cZ cO ad k) (u : Int32) : MI l G (tyq cI cB cZ cO) yX9_status cX9_status 2 (some .int) 1 25 74 ad w [.ref (ad 64), .int u] (fun r w1 => (0 ≤ u.toInt ∧ u.toInt ≤ 2 → r = 0) ∧ (¬ (0 ≤ u.toInt ∧ u.toInt ≤ 2) → r = -1)) := by
  refine mk_i (own := "NoonShadeModel") rfl (by decide) (Nat.le_of_ble_eq_true rfl) ?_
  intro p e s m below meth c ls X hD hN hr hlk h hl
  have hx := X.1.1
  have hb := X.1.2.1
  have hown := X.1.2.2.2.1
  have hts := X.1.2.2.2.2
  have hl : lv_has ls 2 [(0, .ref (ad 64)), (1, .int u)] := hl
  refine lv_iload_n hx hb dX9_status_0 rfl (lv_at hl 1 rfl) ?_
  refine lv_i2l (v := u.toInt64) hx hb dX9_status_1 rfl ?_
  refine lv_lconst (v := 0) hx hb dX9_status_2 (by decide) ?_
  refine lv_ldc2 (v := 2) hx hb hown (hts _ kw_263) dX9_status_3 ?_
  refine q_Si (na := 3) (As := [.long u.toInt64, .long 0, .long 2]) (rest := []) X hD hN h (c_M_in l G cI cB cZ cO ad w u.toInt64 0 2 ((u).toInt) 0 2 (Int32.toInt_toInt64 _) rfl rfl) ⟨kw_188, kw_189, kw_190, kw_191⟩ ⟨by decide, by decide, by decide⟩ ⟨Nat.le_of_ble_eq_true rfl, Nat.le_of_ble_eq_true rfl⟩ ⟨Nat.zero_le _, Nat.zero_le _⟩ rfl hl.1 rfl (Nat.le_of_ble_eq_true rfl) dX9_status_6 (fun r1 w2 H locs hp3 h => ?_)
  obtain ⟨e4, hp3⟩ := hp3
  rcases hp3 with ⟨hq5a, hq5b, rfl⟩ | ⟨hq5, rfl⟩
  · refine lv_if_eq (tgt := 21) hx hb dX9_status_9 (by decide) (fun hc => absurd hc (by decide)) (fun _ => ?_)
    refine lv_aload_n hx hb dX9_status_12 rfl (lv_at hl 0 rfl) ?_
    have f6 : w 64 = .inr (7, [.ref (ad 65), .ref (ad 66), .ref (ad 67), .ref (ad 68), .long 0, .long 1, .ref (ad 69), .int 0, .ref (ad 70), .ref (ad 71), .int 0, .int 0, .int 0, .int 0, .int 0, .ref (ad 72), .ref (ad 73)]) := F 64 (by decide) (by decide)
    have f7 : w2 64 = .inr (7, [.ref (ad 65), .ref (ad 66), .ref (ad 67), .ref (ad 68), .long 0, .long 1, .ref (ad 69), .int 0, .ref (ad 70), .ref (ad 71), .int 0, .int 0, .int 0, .int 0, .int 0, .ref (ad 72), .ref (ad 73)]) := by rw [e4]; exact f6
    refine r_get kc9 X h 64 3 (by decide) rfl f7 (by decide) kw_186 rfl dX9_status_13 ?_
    refine lv_iload_n hx hb dX9_status_16 rfl (lv_at hl 1 rfl) ?_
    have f8 : w 68 = .inl (cI, 3, .inl (fun _ => 0)) := F 68 (by decide) (by decide)
    have f9 : w2 68 = .inl (cI, 3, .inl (fun _ => 0)) := by rw [e4]; exact f8
    refine o_iald (v := 0) X h 68 0 (by decide) rfl f9 rfl (in_of (by omega) (by omega)) rfl dX9_status_17 ?_
    refine lv_goto (tgt := 26) hx hb dX9_status_18 (by decide) ?_
    exact e_i X h hr hlk dX9_status_26 ⟨fun _ => by first | rfl | omega, fun _ => by first | rfl | omega⟩
  · refine lv_if_eq (tgt := 21) hx hb dX9_status_9 (by decide) (fun _ => ?_) (fun hc => absurd (by decide) hc)
    refine lv_aload_n hx hb dX9_status_21 rfl (lv_at hl 0 rfl) ?_
    refine lv_iconst (v := (-1)) hx hb dX9_status_22 (by decide) ?_
    have f10 : w 64 = .inr (7, [.ref (ad 65), .ref (ad 66), .ref (ad 67), .ref (ad 68), .long 0, .long 1, .ref (ad 69), .int 0, .ref (ad 70), .ref (ad 71), .int 0, .int 0, .int 0, .int 0, .int 0, .ref (ad 72), .ref (ad 73)]) := F 64 (by decide) (by decide)
    have f11 : w2 64 = .inr (7, [.ref (ad 65), .ref (ad 66), .ref (ad 67), .ref (ad 68), .long 0, .long 1, .ref (ad 69), .int 0, .ref (ad 70), .ref (ad 71), .int 0, .int 0, .int 0, .int 0, .int 0, .ref (ad 72), .ref (ad 73)]) := by rw [e4]; exact f10
    have f12 : w 68 = .inl (cI, 3, .inl (fun _ => 0)) := F 68 (by decide) (by decide)
    have f13 : w2 68 = .inl (cI, 3, .inl (fun _ => 0)) := by rw [e4]; exact f12
    refine q_Vi (na := 1) (As := [.int (-1)]) (rest := []) X hD hN h rfl (c_M_bad l G cI cB cZ cO ad w2 (-1) f11 f13) ⟨kw_199, kw_200, kw_201, kw_190, kw_202⟩ rfl ⟨by decide, by decide, by decide⟩ ⟨Nat.le_of_ble_eq_true rfl, Nat.le_of_ble_eq_true rfl⟩ ⟨Nat.zero_le _, Nat.zero_le _⟩ (by decide) f11 rfl rfl hl.1 rfl (Nat.le_of_ble_eq_true rfl) dX9_status_23 (fun r14 w15 H locs hp16 h => ?_)
    obtain ⟨rfl, hf17⟩ := hp16
    exact e_i X h hr hlk dX9_status_26 ⟨fun _ => by first | rfl | omega, fun _ => by first | rfl | omega⟩

set_option maxHeartbeats 4000000 in
set_option maxRecDepth 100000 in
theorem c_M_image0 (l : Launch) (G : va_G) (cI cB cZ cO : ClassId) (ad : Nat → Nat) (w : Nat → va_E) (F : ∀ k, k < 74 → 64 ≤ k → w k = fr0 cI cB cZ cO ad k)  : MI l G (tyq cI cB cZ cO) yX9_image cX9_image 3 (some .int) 1 25 74 ad w [.ref (ad 64), .int 0] (fun r w1 => r = 1) := by
  refine mk_i (own := "NoonShadeModel") rfl (by decide) (Nat.le_of_ble_eq_true rfl) ?_
  intro p e s m below meth c ls X hD hN hr hlk h hl
  have hx := X.1.1
  have hb := X.1.2.1
  have hown := X.1.2.2.2.1
  have hts := X.1.2.2.2.2
  have hl : lv_has ls 3 [(0, .ref (ad 64)), (1, .int 0)] := hl
  refine lv_iload_n hx hb dX9_image_0 rfl (lv_at hl 1 rfl) ?_
  refine lv_i2l (v := 0) hx hb dX9_image_1 rfl ?_
  refine lv_lconst (v := 0) hx hb dX9_image_2 (by decide) ?_
  refine lv_lconst (v := 1) hx hb dX9_image_3 (by decide) ?_
  refine q_Si (na := 3) (As := [.long 0, .long 0, .long 1]) (rest := []) X hD hN h (c_M_in l G cI cB cZ cO ad w 0 0 1 0 0 1 rfl rfl rfl) ⟨kw_188, kw_189, kw_190, kw_191⟩ ⟨by decide, by decide, by decide⟩ ⟨Nat.le_of_ble_eq_true rfl, Nat.le_of_ble_eq_true rfl⟩ ⟨Nat.zero_le _, Nat.zero_le _⟩ rfl hl.1 rfl (Nat.le_of_ble_eq_true rfl) dX9_image_4 (fun r1 w2 H locs hp3 h => ?_)
  obtain ⟨e4, hp3⟩ := hp3
  rcases hp3 with ⟨hq5a, hq5b, rfl⟩ | ⟨hq5, rfl⟩
  · refine lv_if_ne (tgt := 17) hx hb dX9_image_7 (by decide) (fun _ => ?_) (fun hc => absurd hc (by decide))
    refine lv_iconst (v := 0) hx hb dX9_image_17 (by decide) ?_
    refine lv_istore_n (lv' := [(2, .int 0), (0, .ref (ad 64)), (1, .int 0)]) hx hb dX9_image_18 rfl hl (by decide) rfl (fun ls hl => ?_)
    have f6 : w 66 = .inl (cI, 354, .inl (fun _ => 0)) := F 66 (by decide) (by decide)
    have f7 : w2 66 = .inl (cI, 354, .inl (fun _ => 0)) := by rw [e4]; exact f6
    have f8 : w 65 = .inl (cI, 177, .inl (fun _ => 0)) := F 65 (by decide) (by decide)
    have f9 : w2 65 = .inl (cI, 177, .inl (fun _ => 0)) := by rw [e4]; exact f8
    have f10 : w 64 = .inr (7, [.ref (ad 65), .ref (ad 66), .ref (ad 67), .ref (ad 68), .long 0, .long 1, .ref (ad 69), .int 0, .ref (ad 70), .ref (ad 71), .int 0, .int 0, .int 0, .int 0, .int 0, .ref (ad 72), .ref (ad 73)]) := F 64 (by decide) (by decide)
    have f11 : w2 64 = .inr (7, [.ref (ad 65), .ref (ad 66), .ref (ad 67), .ref (ad 68), .long 0, .long 1, .ref (ad 69), .int 0, .ref (ad 70), .ref (ad 71), .int 0, .int 0, .int 0, .int 0, .int 0, .ref (ad 72), .ref (ad 73)]) := by rw [e4]; exact f10
    have f12 : w 67 = .inl (cZ, 2, .inl (fun _ => 0)) := F 67 (by decide) (by decide)
    have f13 : w2 67 = .inl (cZ, 2, .inl (fun _ => 0)) := by rw [e4]; exact f12
    have hloop14 : ∀ (d : Nat) (k : Int32) (wL : Nat → va_E) (H : Heap) (locs : List Loc) (ls : Array Slot), 0 ≤ k.toInt → k.toInt ≤ 177 → wL 66 = .inl (cI, 354, .inl (fun _ => 0)) → wL 65 = .inl (cI, 177, .inl (fun _ => 0)) → wL 64 = .inr (7, [.ref (ad 65), .ref (ad 66), .ref (ad 67), .ref (ad 68), .long 0, .long 1, .ref (ad 69), .int 0, .ref (ad 70), .ref (ad 71), .int 0, .int 0, .int 0, .int 0, .int 0, .ref (ad 72), .ref (ad 73)]) → wL 67 = .inl (cZ, 2, .inl (fun _ => 0)) → (∀ k, k ≠ 66 → wL k = w2 k) → 177 - k.toInt < (d : Int) → St G 74 ad (wA 74 ad s.heap.size) s.heap wL H locs → lv_has ls 3 [(0, .ref (ad 64)), (1, .int 0), (2, .int k)] → W p l e { frames := 1, cells := 0, slots := 0, locals := 25 } s m [.ref (ad 64), .int 0].toArray below meth c H locs 0 0 (MQ below (va_Qi (fun r w1 => r = 1) (Aft G 74 ad) (wA 74 ad s.heap.size)) [.ref (ad 64), .int 0].toArray s 0 0 (wA 74 ad s.heap.size)) (F0 m 19 ls []) := by
      intro d
      induction d with
      | zero => intro k wL H locs ls hk0 hk1 g66 g65 g64 g67 hfr hm h hl; exfalso; omega
      | succ d ih =>
        intro k wL H locs ls hk0 hk1 g66 g65 g64 g67 hfr hm h hl
        refine lv_iload_n hx hb dX9_image_19 rfl (lv_at hl 2 rfl) ?_
        refine lv_sipush (v := 177) hx hb dX9_image_20 (by decide) ?_
        refine lv_icmp_ge (tgt := 50) hx hb dX9_image_23 (by decide) (fun hc15 => ?_) (fun hc15 => ?_)
        · have hc15 : 177 ≤ (k).toInt := i_le hc15 rfl rfl
          refine lv_aload_n hx hb dX9_image_50 rfl (lv_at hl 0 rfl) ?_
          refine r_get kc9 X h 64 2 (by decide) rfl g64 (by decide) kw_262 rfl dX9_image_51 ?_
          refine lv_iload_n hx hb dX9_image_54 rfl (lv_at hl 1 rfl) ?_
          refine lv_iconst (v := 1) hx hb dX9_image_55 (by decide) ?_
          refine o_zast (f1 := upd (fun _ => 0) 0 (vp_nar .boolean 1)) X hD h 67 2 (by decide) rfl g67 rfl (by unfold vp_in; decide) rfl dX9_image_56 (fun H locs w16 e17 h => ?_)
          have f18 : w16 67 = .inl (cZ, 2, .inl (upd (fun _ => 0) 0 (vp_nar .boolean 1))) := (congrFun e17 _).trans (va_up_self _ _ _)
          refine lv_iconst (v := 1) hx hb dX9_image_57 (by decide) ?_
          exact e_i X h hr hlk dX9_image_58 rfl
        · have hc15 : ¬ 177 ≤ (k).toInt := i_nle hc15 rfl rfl
          refine lv_aload_n hx hb dX9_image_26 rfl (lv_at hl 0 rfl) ?_
          refine r_get kc9 X h 64 1 (by decide) rfl g64 (by decide) kw_264 rfl dX9_image_27 ?_
          refine lv_sipush (v := 177) hx hb dX9_image_30 (by decide) ?_
          refine lv_iload_n hx hb dX9_image_33 rfl (lv_at hl 1 rfl) ?_
          refine o_imul (z := 0) hx hb dX9_image_34 rfl ?_
          refine lv_iload_n hx hb dX9_image_35 rfl (lv_at hl 2 rfl) ?_
          refine o_iadd (z := (0 : Int32) + k) hx hb dX9_image_36 rfl ?_
          refine lv_aload_n hx hb dX9_image_37 rfl (lv_at hl 0 rfl) ?_
          refine r_get kc9 X h 64 0 (by decide) rfl g64 (by decide) kw_187 rfl dX9_image_38 ?_
          refine lv_iload_n hx hb dX9_image_41 rfl (lv_at hl 2 rfl) ?_
          refine o_iald (v := 0) X h 65 0 (by decide) rfl g65 rfl (in_of (by omega) (by omega)) rfl dX9_image_42 ?_
          refine o_iast (f1 := fun _ => 0) X hD h 66 0 (by decide) rfl g66 rfl (in_of (by rw [addc (a := 0) rfl (by omega) (by omega) (by omega)]; omega) (by rw [addc (a := 0) rfl (by omega) (by omega) (by omega)]; omega)) (upd0 _) dX9_image_43 (fun H locs w19 e20 h => ?_)
          have f21 : w19 66 = .inl (cI, 354, .inl (fun _ => 0)) := (congrFun e20 _).trans (va_up_self _ _ _)
          refine lv_iinc (v := k + 1) (lv' := [(2, .int (k + 1)), (0, .ref (ad 64)), (1, .int 0)]) hx hb dX9_image_44 hl (k := 2) rfl rfl (by decide) rfl (fun ls hl => ?_)
          refine lv_goto (tgt := 19) hx hb dX9_image_47 (by decide) ?_
          have hi : (k + 1).toInt = k.toInt + 1 := inc1 (by omega) (by omega)
          have f22 : w19 65 = .inl (cI, 177, .inl (fun _ => 0)) := by rw [e20, va_up_ne _ _ (by decide)]; exact g65
          have f23 : w19 64 = .inr (7, [.ref (ad 65), .ref (ad 66), .ref (ad 67), .ref (ad 68), .long 0, .long 1, .ref (ad 69), .int 0, .ref (ad 70), .ref (ad 71), .int 0, .int 0, .int 0, .int 0, .int 0, .ref (ad 72), .ref (ad 73)]) := by rw [e20, va_up_ne _ _ (by decide)]; exact g64
          have f24 : w19 67 = .inl (cZ, 2, .inl (fun _ => 0)) := by rw [e20, va_up_ne _ _ (by decide)]; exact g67
          exact ih (k + 1) w19 _ _ _ (by omega) (by omega) f21 f22 f23 f24 (fun k h0 => ((congrFun e20 k).trans (va_up_ne _ _ (by omega))).trans (hfr k (by omega))) (by omega) h (lv_sub hl [1, 2, 0] rfl)
    exact hloop14 178 0 w2 _ _ _ (by decide) (by decide) f7 f9 f11 f13 (fun k _ => rfl) (by have : (0 : Int32).toInt = 0 := rfl; omega) h (lv_sub hl [1, 2, 0] rfl)
  · exfalso; omega

set_option maxHeartbeats 4000000 in
set_option maxRecDepth 100000 in
theorem c_M_image1 (l : Launch) (G : va_G) (cI cB cZ cO : ClassId) (ad : Nat → Nat) (w : Nat → va_E) (F : ∀ k, k < 74 → 64 ≤ k → w k = fr0 cI cB cZ cO ad k)  : MI l G (tyq cI cB cZ cO) yX9_image cX9_image 3 (some .int) 1 25 74 ad w [.ref (ad 64), .int 1] (fun r w1 => r = 1) := by
  refine mk_i (own := "NoonShadeModel") rfl (by decide) (Nat.le_of_ble_eq_true rfl) ?_
  intro p e s m below meth c ls X hD hN hr hlk h hl
  have hx := X.1.1
  have hb := X.1.2.1
  have hown := X.1.2.2.2.1
  have hts := X.1.2.2.2.2
  have hl : lv_has ls 3 [(0, .ref (ad 64)), (1, .int 1)] := hl
  refine lv_iload_n hx hb dX9_image_0 rfl (lv_at hl 1 rfl) ?_
  refine lv_i2l (v := 1) hx hb dX9_image_1 rfl ?_
  refine lv_lconst (v := 0) hx hb dX9_image_2 (by decide) ?_
  refine lv_lconst (v := 1) hx hb dX9_image_3 (by decide) ?_
  refine q_Si (na := 3) (As := [.long 1, .long 0, .long 1]) (rest := []) X hD hN h (c_M_in l G cI cB cZ cO ad w 1 0 1 1 0 1 rfl rfl rfl) ⟨kw_188, kw_189, kw_190, kw_191⟩ ⟨by decide, by decide, by decide⟩ ⟨Nat.le_of_ble_eq_true rfl, Nat.le_of_ble_eq_true rfl⟩ ⟨Nat.zero_le _, Nat.zero_le _⟩ rfl hl.1 rfl (Nat.le_of_ble_eq_true rfl) dX9_image_4 (fun r1 w2 H locs hp3 h => ?_)
  obtain ⟨e4, hp3⟩ := hp3
  rcases hp3 with ⟨hq5a, hq5b, rfl⟩ | ⟨hq5, rfl⟩
  · refine lv_if_ne (tgt := 17) hx hb dX9_image_7 (by decide) (fun _ => ?_) (fun hc => absurd hc (by decide))
    refine lv_iconst (v := 0) hx hb dX9_image_17 (by decide) ?_
    refine lv_istore_n (lv' := [(2, .int 0), (0, .ref (ad 64)), (1, .int 1)]) hx hb dX9_image_18 rfl hl (by decide) rfl (fun ls hl => ?_)
    have f6 : w 66 = .inl (cI, 354, .inl (fun _ => 0)) := F 66 (by decide) (by decide)
    have f7 : w2 66 = .inl (cI, 354, .inl (fun _ => 0)) := by rw [e4]; exact f6
    have f8 : w 65 = .inl (cI, 177, .inl (fun _ => 0)) := F 65 (by decide) (by decide)
    have f9 : w2 65 = .inl (cI, 177, .inl (fun _ => 0)) := by rw [e4]; exact f8
    have f10 : w 64 = .inr (7, [.ref (ad 65), .ref (ad 66), .ref (ad 67), .ref (ad 68), .long 0, .long 1, .ref (ad 69), .int 0, .ref (ad 70), .ref (ad 71), .int 0, .int 0, .int 0, .int 0, .int 0, .ref (ad 72), .ref (ad 73)]) := F 64 (by decide) (by decide)
    have f11 : w2 64 = .inr (7, [.ref (ad 65), .ref (ad 66), .ref (ad 67), .ref (ad 68), .long 0, .long 1, .ref (ad 69), .int 0, .ref (ad 70), .ref (ad 71), .int 0, .int 0, .int 0, .int 0, .int 0, .ref (ad 72), .ref (ad 73)]) := by rw [e4]; exact f10
    have f12 : w 67 = .inl (cZ, 2, .inl (fun _ => 0)) := F 67 (by decide) (by decide)
    have f13 : w2 67 = .inl (cZ, 2, .inl (fun _ => 0)) := by rw [e4]; exact f12
    have hloop14 : ∀ (d : Nat) (k : Int32) (wL : Nat → va_E) (H : Heap) (locs : List Loc) (ls : Array Slot), 0 ≤ k.toInt → k.toInt ≤ 177 → wL 66 = .inl (cI, 354, .inl (fun _ => 0)) → wL 65 = .inl (cI, 177, .inl (fun _ => 0)) → wL 64 = .inr (7, [.ref (ad 65), .ref (ad 66), .ref (ad 67), .ref (ad 68), .long 0, .long 1, .ref (ad 69), .int 0, .ref (ad 70), .ref (ad 71), .int 0, .int 0, .int 0, .int 0, .int 0, .ref (ad 72), .ref (ad 73)]) → wL 67 = .inl (cZ, 2, .inl (fun _ => 0)) → (∀ k, k ≠ 66 → wL k = w2 k) → 177 - k.toInt < (d : Int) → St G 74 ad (wA 74 ad s.heap.size) s.heap wL H locs → lv_has ls 3 [(0, .ref (ad 64)), (1, .int 1), (2, .int k)] → W p l e { frames := 1, cells := 0, slots := 0, locals := 25 } s m [.ref (ad 64), .int 1].toArray below meth c H locs 0 0 (MQ below (va_Qi (fun r w1 => r = 1) (Aft G 74 ad) (wA 74 ad s.heap.size)) [.ref (ad 64), .int 1].toArray s 0 0 (wA 74 ad s.heap.size)) (F0 m 19 ls []) := by
      intro d
      induction d with
      | zero => intro k wL H locs ls hk0 hk1 g66 g65 g64 g67 hfr hm h hl; exfalso; omega
      | succ d ih =>
        intro k wL H locs ls hk0 hk1 g66 g65 g64 g67 hfr hm h hl
        refine lv_iload_n hx hb dX9_image_19 rfl (lv_at hl 2 rfl) ?_
        refine lv_sipush (v := 177) hx hb dX9_image_20 (by decide) ?_
        refine lv_icmp_ge (tgt := 50) hx hb dX9_image_23 (by decide) (fun hc15 => ?_) (fun hc15 => ?_)
        · have hc15 : 177 ≤ (k).toInt := i_le hc15 rfl rfl
          refine lv_aload_n hx hb dX9_image_50 rfl (lv_at hl 0 rfl) ?_
          refine r_get kc9 X h 64 2 (by decide) rfl g64 (by decide) kw_262 rfl dX9_image_51 ?_
          refine lv_iload_n hx hb dX9_image_54 rfl (lv_at hl 1 rfl) ?_
          refine lv_iconst (v := 1) hx hb dX9_image_55 (by decide) ?_
          refine o_zast (f1 := upd (fun _ => 0) 1 (vp_nar .boolean 1)) X hD h 67 2 (by decide) rfl g67 rfl (by unfold vp_in; decide) rfl dX9_image_56 (fun H locs w16 e17 h => ?_)
          have f18 : w16 67 = .inl (cZ, 2, .inl (upd (fun _ => 0) 1 (vp_nar .boolean 1))) := (congrFun e17 _).trans (va_up_self _ _ _)
          refine lv_iconst (v := 1) hx hb dX9_image_57 (by decide) ?_
          exact e_i X h hr hlk dX9_image_58 rfl
        · have hc15 : ¬ 177 ≤ (k).toInt := i_nle hc15 rfl rfl
          refine lv_aload_n hx hb dX9_image_26 rfl (lv_at hl 0 rfl) ?_
          refine r_get kc9 X h 64 1 (by decide) rfl g64 (by decide) kw_264 rfl dX9_image_27 ?_
          refine lv_sipush (v := 177) hx hb dX9_image_30 (by decide) ?_
          refine lv_iload_n hx hb dX9_image_33 rfl (lv_at hl 1 rfl) ?_
          refine o_imul (z := 177) hx hb dX9_image_34 rfl ?_
          refine lv_iload_n hx hb dX9_image_35 rfl (lv_at hl 2 rfl) ?_
          refine o_iadd (z := (177 : Int32) + k) hx hb dX9_image_36 rfl ?_
          refine lv_aload_n hx hb dX9_image_37 rfl (lv_at hl 0 rfl) ?_
          refine r_get kc9 X h 64 0 (by decide) rfl g64 (by decide) kw_187 rfl dX9_image_38 ?_
          refine lv_iload_n hx hb dX9_image_41 rfl (lv_at hl 2 rfl) ?_
          refine o_iald (v := 0) X h 65 0 (by decide) rfl g65 rfl (in_of (by omega) (by omega)) rfl dX9_image_42 ?_
          refine o_iast (f1 := fun _ => 0) X hD h 66 0 (by decide) rfl g66 rfl (in_of (by rw [addc (a := 177) rfl (by omega) (by omega) (by omega)]; omega) (by rw [addc (a := 177) rfl (by omega) (by omega) (by omega)]; omega)) (upd0 _) dX9_image_43 (fun H locs w19 e20 h => ?_)
          have f21 : w19 66 = .inl (cI, 354, .inl (fun _ => 0)) := (congrFun e20 _).trans (va_up_self _ _ _)
          refine lv_iinc (v := k + 1) (lv' := [(2, .int (k + 1)), (0, .ref (ad 64)), (1, .int 1)]) hx hb dX9_image_44 hl (k := 2) rfl rfl (by decide) rfl (fun ls hl => ?_)
          refine lv_goto (tgt := 19) hx hb dX9_image_47 (by decide) ?_
          have hi : (k + 1).toInt = k.toInt + 1 := inc1 (by omega) (by omega)
          have f22 : w19 65 = .inl (cI, 177, .inl (fun _ => 0)) := by rw [e20, va_up_ne _ _ (by decide)]; exact g65
          have f23 : w19 64 = .inr (7, [.ref (ad 65), .ref (ad 66), .ref (ad 67), .ref (ad 68), .long 0, .long 1, .ref (ad 69), .int 0, .ref (ad 70), .ref (ad 71), .int 0, .int 0, .int 0, .int 0, .int 0, .ref (ad 72), .ref (ad 73)]) := by rw [e20, va_up_ne _ _ (by decide)]; exact g64
          have f24 : w19 67 = .inl (cZ, 2, .inl (fun _ => 0)) := by rw [e20, va_up_ne _ _ (by decide)]; exact g67
          exact ih (k + 1) w19 _ _ _ (by omega) (by omega) f21 f22 f23 f24 (fun k h0 => ((congrFun e20 k).trans (va_up_ne _ _ (by omega))).trans (hfr k (by omega))) (by omega) h (lv_sub hl [1, 2, 0] rfl)
    exact hloop14 178 0 w2 _ _ _ (by decide) (by decide) f7 f9 f11 f13 (fun k _ => rfl) (by have : (0 : Int32).toInt = 0 := rfl; omega) h (lv_sub hl [1, 2, 0] rfl)
  · exfalso; omega

set_option maxHeartbeats 4000000 in
set_option maxRecDepth 100000 in
theorem c_M_imageN (l : Launch) (G : va_G) (cI cB cZ cO : ClassId) (ad : Nat → Nat) (w : Nat → va_E) (F : ∀ k, k < 74 → 64 ≤ k → w k = fr0 cI cB cZ cO ad k) (i : Int32) (hi : ¬ (0 ≤ i.toInt ∧ i.toInt ≤ 1)) : MI l G (tyq cI cB cZ cO) yX9_image cX9_image 3 (some .int) 1 25 74 ad w [.ref (ad 64), .int i] (fun r w1 => r = -2) := by
  refine mk_i (own := "NoonShadeModel") rfl (by decide) (Nat.le_of_ble_eq_true rfl) ?_
  intro p e s m below meth c ls X hD hN hr hlk h hl
  have hx := X.1.1
  have hb := X.1.2.1
  have hown := X.1.2.2.2.1
  have hts := X.1.2.2.2.2
  have hl : lv_has ls 3 [(0, .ref (ad 64)), (1, .int i)] := hl
  refine lv_iload_n hx hb dX9_image_0 rfl (lv_at hl 1 rfl) ?_
  refine lv_i2l (v := i.toInt64) hx hb dX9_image_1 rfl ?_
  refine lv_lconst (v := 0) hx hb dX9_image_2 (by decide) ?_
  refine lv_lconst (v := 1) hx hb dX9_image_3 (by decide) ?_
  refine q_Si (na := 3) (As := [.long i.toInt64, .long 0, .long 1]) (rest := []) X hD hN h (c_M_in l G cI cB cZ cO ad w i.toInt64 0 1 ((i).toInt) 0 1 (Int32.toInt_toInt64 _) rfl rfl) ⟨kw_188, kw_189, kw_190, kw_191⟩ ⟨by decide, by decide, by decide⟩ ⟨Nat.le_of_ble_eq_true rfl, Nat.le_of_ble_eq_true rfl⟩ ⟨Nat.zero_le _, Nat.zero_le _⟩ rfl hl.1 rfl (Nat.le_of_ble_eq_true rfl) dX9_image_4 (fun r1 w2 H locs hp3 h => ?_)
  obtain ⟨e4, hp3⟩ := hp3
  rcases hp3 with ⟨hq5a, hq5b, rfl⟩ | ⟨hq5, rfl⟩
  · exfalso; omega
  · refine lv_if_ne (tgt := 17) hx hb dX9_image_7 (by decide) (fun hc => absurd (by decide) hc) (fun _ => ?_)
    refine lv_aload_n hx hb dX9_image_10 rfl (lv_at hl 0 rfl) ?_
    refine lv_bipush (v := (-2)) hx hb dX9_image_11 (by decide) ?_
    have f6 : w 64 = .inr (7, [.ref (ad 65), .ref (ad 66), .ref (ad 67), .ref (ad 68), .long 0, .long 1, .ref (ad 69), .int 0, .ref (ad 70), .ref (ad 71), .int 0, .int 0, .int 0, .int 0, .int 0, .ref (ad 72), .ref (ad 73)]) := F 64 (by decide) (by decide)
    have f7 : w2 64 = .inr (7, [.ref (ad 65), .ref (ad 66), .ref (ad 67), .ref (ad 68), .long 0, .long 1, .ref (ad 69), .int 0, .ref (ad 70), .ref (ad 71), .int 0, .int 0, .int 0, .int 0, .int 0, .ref (ad 72), .ref (ad 73)]) := by rw [e4]; exact f6
    have f8 : w 68 = .inl (cI, 3, .inl (fun _ => 0)) := F 68 (by decide) (by decide)
    have f9 : w2 68 = .inl (cI, 3, .inl (fun _ => 0)) := by rw [e4]; exact f8
    refine q_Vi (na := 1) (As := [.int (-2)]) (rest := []) X hD hN h rfl (c_M_bad l G cI cB cZ cO ad w2 (-2) f7 f9) ⟨kw_199, kw_200, kw_201, kw_190, kw_202⟩ rfl ⟨by decide, by decide, by decide⟩ ⟨Nat.le_of_ble_eq_true rfl, Nat.le_of_ble_eq_true rfl⟩ ⟨Nat.zero_le _, Nat.zero_le _⟩ (by decide) f7 rfl rfl hl.1 rfl (Nat.le_of_ble_eq_true rfl) dX9_image_13 (fun r10 w11 H locs hp12 h => ?_)
    obtain ⟨rfl, hf13⟩ := hp12
    exact e_i X h hr hlk dX9_image_16 rfl

set_option maxHeartbeats 4000000 in
set_option maxRecDepth 100000 in
theorem c_M_counted (l : Launch) (G : va_G) (cI cB cZ cO : ClassId) (ad : Nat → Nat) (w : Nat → va_E) (u : Int32) (pf64 : w 64 = .inr (7, [.ref (ad 65), .ref (ad 66), .ref (ad 67), .ref (ad 68), .long 0, .long 1, .ref (ad 69), .int 0, .ref (ad 70), .ref (ad 71), .int 0, .int 0, .int 0, .int 0, .int 0, .ref (ad 72), .ref (ad 73)])) (pf65 : w 65 = .inl (cI, 177, .inl (fun _ => 0))) : MI l G (tyq cI cB cZ cO) yX9_counted cX9_counted 2 (some .int) 1 22 74 ad w [.ref (ad 64), .int u] (fun r w1 => w1 = w ∧ r = 0) := by
  refine mk_i (own := "NoonShadeModel") rfl (by decide) (Nat.le_of_ble_eq_true rfl) ?_
  intro p e s m below meth c ls X hD hN hr hlk h hl
  have hx := X.1.1
  have hb := X.1.2.1
  have hown := X.1.2.2.2.1
  have hts := X.1.2.2.2.2
  have hl : lv_has ls 2 [(0, .ref (ad 64)), (1, .int u)] := hl
  refine lv_iload_n hx hb dX9_counted_0 rfl (lv_at hl 1 rfl) ?_
  by_cases hs1 : 0 ≤ (u).toInt ∧ (u).toInt ≤ 8
  · have ha2 : u = 0 ∨ u = 1 ∨ u = 2 ∨ u = 3 ∨ u = 4 ∨ u = 5 ∨ u = 6 ∨ u = 7 ∨ u = 8 := by simp only [fa_eq]; have := hs1; simp only [show ((0 : Int32).toInt = 0) from rfl, show ((1 : Int32).toInt = 1) from rfl, show ((2 : Int32).toInt = 2) from rfl, show ((3 : Int32).toInt = 3) from rfl, show ((4 : Int32).toInt = 4) from rfl, show ((5 : Int32).toInt = 5) from rfl, show ((6 : Int32).toInt = 6) from rfl, show ((7 : Int32).toInt = 7) from rfl, show ((8 : Int32).toInt = 8) from rfl]; omega
    rcases ha2 with hq | hq | hq | hq | hq | hq | hq | hq | hq
    · refine lv_tableIn (tgt := 52) (off := 51) hx hb dX9_counted_1 (by rw [hq]; decide) (by rw [hq]; decide) (by rw [hq]; decide) (by decide) ?_
      refine lv_aload_n hx hb dX9_counted_52 rfl (lv_at hl 0 rfl) ?_
      refine r_get kc9 X h 64 0 (by decide) rfl pf64 (by decide) kw_187 rfl dX9_counted_53 ?_
      refine lv_iconst (v := 0) hx hb dX9_counted_56 (by decide) ?_
      refine o_iald (v := 0) X h 65 0 (by decide) rfl pf65 rfl (by unfold vp_in; decide) rfl dX9_counted_57 ?_
      exact e_i X h hr hlk dX9_counted_58 ⟨rfl, rfl⟩
    · refine lv_tableIn (tgt := 59) (off := 58) hx hb dX9_counted_1 (by rw [hq]; decide) (by rw [hq]; decide) (by rw [hq]; decide) (by decide) ?_
      refine lv_aload_n hx hb dX9_counted_59 rfl (lv_at hl 0 rfl) ?_
      refine r_get kc9 X h 64 0 (by decide) rfl pf64 (by decide) kw_187 rfl dX9_counted_60 ?_
      refine lv_iconst (v := 1) hx hb dX9_counted_63 (by decide) ?_
      refine o_iald (v := 0) X h 65 0 (by decide) rfl pf65 rfl (by unfold vp_in; decide) rfl dX9_counted_64 ?_
      exact e_i X h hr hlk dX9_counted_65 ⟨rfl, rfl⟩
    · refine lv_tableIn (tgt := 66) (off := 65) hx hb dX9_counted_1 (by rw [hq]; decide) (by rw [hq]; decide) (by rw [hq]; decide) (by decide) ?_
      refine lv_aload_n hx hb dX9_counted_66 rfl (lv_at hl 0 rfl) ?_
      refine r_get kc9 X h 64 0 (by decide) rfl pf64 (by decide) kw_187 rfl dX9_counted_67 ?_
      refine q_Si (na := 1) (As := [.ref (ad 65)]) (rest := []) X hD hN h (c_M_coolOf65 l G cI cB cZ cO ad w pf65) ⟨kw_265, kw_266, kw_190, kw_267⟩ ⟨by decide, by decide, by decide⟩ ⟨Nat.le_of_ble_eq_true rfl, Nat.le_of_ble_eq_true rfl⟩ ⟨Nat.zero_le _, Nat.zero_le _⟩ rfl hl.1 rfl (Nat.le_of_ble_eq_true rfl) dX9_counted_70 (fun r3 w4 H locs hp5 h => ?_)
      obtain ⟨e6, rfl⟩ := hp5
      exact e_i X h hr hlk dX9_counted_73 ⟨funext fun k => congrFun e6 k, rfl⟩
    · refine lv_tableIn (tgt := 74) (off := 73) hx hb dX9_counted_1 (by rw [hq]; decide) (by rw [hq]; decide) (by rw [hq]; decide) (by decide) ?_
      refine lv_aload_n hx hb dX9_counted_74 rfl (lv_at hl 0 rfl) ?_
      refine r_get kc9 X h 64 0 (by decide) rfl pf64 (by decide) kw_187 rfl dX9_counted_75 ?_
      refine lv_iconst (v := 5) hx hb dX9_counted_78 (by decide) ?_
      refine o_iald (v := 0) X h 65 0 (by decide) rfl pf65 rfl (by unfold vp_in; decide) rfl dX9_counted_79 ?_
      exact e_i X h hr hlk dX9_counted_80 ⟨rfl, rfl⟩
    · refine lv_tableIn (tgt := 81) (off := 80) hx hb dX9_counted_1 (by rw [hq]; decide) (by rw [hq]; decide) (by rw [hq]; decide) (by decide) ?_
      refine lv_aload_n hx hb dX9_counted_81 rfl (lv_at hl 0 rfl) ?_
      refine r_get kc9 X h 64 0 (by decide) rfl pf64 (by decide) kw_187 rfl dX9_counted_82 ?_
      refine lv_bipush (v := 7) hx hb dX9_counted_85 (by decide) ?_
      refine o_iald (v := 0) X h 65 0 (by decide) rfl pf65 rfl (by unfold vp_in; decide) rfl dX9_counted_87 ?_
      refine q_Si (na := 1) (As := [.int 0]) (rest := []) X hD hN h (c_M_bits l G cI cB cZ cO ad w) ⟨kw_268, kw_269, kw_190, kw_270⟩ ⟨by decide, by decide, by decide⟩ ⟨Nat.le_of_ble_eq_true rfl, Nat.le_of_ble_eq_true rfl⟩ ⟨Nat.zero_le _, Nat.zero_le _⟩ rfl hl.1 rfl (Nat.le_of_ble_eq_true rfl) dX9_counted_88 (fun r7 w8 H locs hp9 h => ?_)
      obtain ⟨e10, rfl⟩ := hp9
      exact e_i X h hr hlk dX9_counted_91 ⟨funext fun k => congrFun e10 k, rfl⟩
    · refine lv_tableIn (tgt := 92) (off := 91) hx hb dX9_counted_1 (by rw [hq]; decide) (by rw [hq]; decide) (by rw [hq]; decide) (by decide) ?_
      refine lv_aload_n hx hb dX9_counted_92 rfl (lv_at hl 0 rfl) ?_
      refine r_get kc9 X h 64 0 (by decide) rfl pf64 (by decide) kw_187 rfl dX9_counted_93 ?_
      refine lv_bipush (v := 6) hx hb dX9_counted_96 (by decide) ?_
      refine o_iald (v := 0) X h 65 0 (by decide) rfl pf65 rfl (by unfold vp_in; decide) rfl dX9_counted_98 ?_
      exact e_i X h hr hlk dX9_counted_99 ⟨rfl, rfl⟩
    · refine lv_tableIn (tgt := 100) (off := 99) hx hb dX9_counted_1 (by rw [hq]; decide) (by rw [hq]; decide) (by rw [hq]; decide) (by decide) ?_
      refine lv_aload_n hx hb dX9_counted_100 rfl (lv_at hl 0 rfl) ?_
      refine r_get kc9 X h 64 0 (by decide) rfl pf64 (by decide) kw_187 rfl dX9_counted_101 ?_
      refine lv_iconst (v := 2) hx hb dX9_counted_104 (by decide) ?_
      refine o_iald (v := 0) X h 65 0 (by decide) rfl pf65 rfl (by unfold vp_in; decide) rfl dX9_counted_105 ?_
      exact e_i X h hr hlk dX9_counted_106 ⟨rfl, rfl⟩
    · refine lv_tableIn (tgt := 107) (off := 106) hx hb dX9_counted_1 (by rw [hq]; decide) (by rw [hq]; decide) (by rw [hq]; decide) (by decide) ?_
      refine lv_aload_n hx hb dX9_counted_107 rfl (lv_at hl 0 rfl) ?_
      refine r_get kc9 X h 64 0 (by decide) rfl pf64 (by decide) kw_187 rfl dX9_counted_108 ?_
      refine lv_iconst (v := 3) hx hb dX9_counted_111 (by decide) ?_
      refine o_iald (v := 0) X h 65 0 (by decide) rfl pf65 rfl (by unfold vp_in; decide) rfl dX9_counted_112 ?_
      exact e_i X h hr hlk dX9_counted_113 ⟨rfl, rfl⟩
    · refine lv_tableIn (tgt := 114) (off := 113) hx hb dX9_counted_1 (by rw [hq]; decide) (by rw [hq]; decide) (by rw [hq]; decide) (by decide) ?_
      refine lv_aload_n hx hb dX9_counted_114 rfl (lv_at hl 0 rfl) ?_
      refine r_get kc9 X h 64 0 (by decide) rfl pf64 (by decide) kw_187 rfl dX9_counted_115 ?_
      refine lv_iconst (v := 4) hx hb dX9_counted_118 (by decide) ?_
      refine o_iald (v := 0) X h 65 0 (by decide) rfl pf65 rfl (by unfold vp_in; decide) rfl dX9_counted_119 ?_
      exact e_i X h hr hlk dX9_counted_120 ⟨rfl, rfl⟩
  · refine lv_tableOut (tgt := 121) hx hb dX9_counted_1 (by omega) (by decide) ?_
    refine lv_aload_n hx hb dX9_counted_121 rfl (lv_at hl 0 rfl) ?_
    refine r_get kc9 X h 64 10 (by decide) rfl pf64 (by decide) kw_227 rfl dX9_counted_122 ?_
    exact e_i X h hr hlk dX9_counted_125 ⟨rfl, rfl⟩

set_option maxHeartbeats 4000000 in
set_option maxRecDepth 100000 in
theorem c_M_count (l : Launch) (G : va_G) (cI cB cZ cO : ClassId) (ad : Nat → Nat) (w : Nat → va_E) (F : ∀ k, k < 74 → 64 ≤ k → w k = fr0 cI cB cZ cO ad k) (u : Int32) : MI l G (tyq cI cB cZ cO) yX9_count cX9_count 2 (some .int) 2 43 74 ad w [.ref (ad 64), .int u] (fun r w1 => (0 ≤ u.toInt ∧ u.toInt ≤ 9 → r = 0) ∧ (¬ (0 ≤ u.toInt ∧ u.toInt ≤ 9) → r = -2)) := by
  refine mk_i (own := "NoonShadeModel") rfl (by decide) (Nat.le_of_ble_eq_true rfl) ?_
  intro p e s m below meth c ls X hD hN hr hlk h hl
  have hx := X.1.1
  have hb := X.1.2.1
  have hown := X.1.2.2.2.1
  have hts := X.1.2.2.2.2
  have hl : lv_has ls 2 [(0, .ref (ad 64)), (1, .int u)] := hl
  refine lv_iload_n hx hb dX9_count_0 rfl (lv_at hl 1 rfl) ?_
  refine lv_i2l (v := u.toInt64) hx hb dX9_count_1 rfl ?_
  refine lv_lconst (v := 0) hx hb dX9_count_2 (by decide) ?_
  refine lv_ldc2 (v := 9) hx hb hown (hts _ kw_193) dX9_count_3 ?_
  refine q_Si (na := 3) (As := [.long u.toInt64, .long 0, .long 9]) (rest := []) X hD hN h (c_M_in l G cI cB cZ cO ad w u.toInt64 0 9 ((u).toInt) 0 9 (Int32.toInt_toInt64 _) rfl rfl) ⟨kw_188, kw_189, kw_190, kw_191⟩ ⟨by decide, by decide, by decide⟩ ⟨Nat.le_of_ble_eq_true rfl, Nat.le_of_ble_eq_true rfl⟩ ⟨Nat.zero_le _, Nat.zero_le _⟩ rfl hl.1 rfl (Nat.le_of_ble_eq_true rfl) dX9_count_6 (fun r1 w2 H locs hp3 h => ?_)
  obtain ⟨e4, hp3⟩ := hp3
  rcases hp3 with ⟨hq5a, hq5b, rfl⟩ | ⟨hq5, rfl⟩
  · refine lv_if_eq (tgt := 20) hx hb dX9_count_9 (by decide) (fun hc => absurd hc (by decide)) (fun _ => ?_)
    refine lv_aload_n hx hb dX9_count_12 rfl (lv_at hl 0 rfl) ?_
    refine lv_iload_n hx hb dX9_count_13 rfl (lv_at hl 1 rfl) ?_
    have f6 : w 64 = .inr (7, [.ref (ad 65), .ref (ad 66), .ref (ad 67), .ref (ad 68), .long 0, .long 1, .ref (ad 69), .int 0, .ref (ad 70), .ref (ad 71), .int 0, .int 0, .int 0, .int 0, .int 0, .ref (ad 72), .ref (ad 73)]) := F 64 (by decide) (by decide)
    have f7 : w2 64 = .inr (7, [.ref (ad 65), .ref (ad 66), .ref (ad 67), .ref (ad 68), .long 0, .long 1, .ref (ad 69), .int 0, .ref (ad 70), .ref (ad 71), .int 0, .int 0, .int 0, .int 0, .int 0, .ref (ad 72), .ref (ad 73)]) := by rw [e4]; exact f6
    have f8 : w 65 = .inl (cI, 177, .inl (fun _ => 0)) := F 65 (by decide) (by decide)
    have f9 : w2 65 = .inl (cI, 177, .inl (fun _ => 0)) := by rw [e4]; exact f8
    refine q_Vi (na := 1) (As := [.int u]) (rest := []) X hD hN h rfl (c_M_counted l G cI cB cZ cO ad w2 u f7 f9) ⟨kw_271, kw_272, kw_273, kw_190, kw_274⟩ rfl ⟨by decide, by decide, by decide⟩ ⟨Nat.le_of_ble_eq_true rfl, Nat.le_of_ble_eq_true rfl⟩ ⟨Nat.zero_le _, Nat.zero_le _⟩ (by decide) f7 rfl rfl hl.1 rfl (Nat.le_of_ble_eq_true rfl) dX9_count_14 (fun r10 w11 H locs hp12 h => ?_)
    obtain ⟨e13, rfl⟩ := hp12
    refine lv_goto (tgt := 26) hx hb dX9_count_17 (by decide) ?_
    exact e_i X h hr hlk dX9_count_26 ⟨fun _ => by first | rfl | omega, fun _ => by first | rfl | omega⟩
  · refine lv_if_eq (tgt := 20) hx hb dX9_count_9 (by decide) (fun _ => ?_) (fun hc => absurd (by decide) hc)
    refine lv_aload_n hx hb dX9_count_20 rfl (lv_at hl 0 rfl) ?_
    refine lv_bipush (v := (-2)) hx hb dX9_count_21 (by decide) ?_
    have f14 : w 64 = .inr (7, [.ref (ad 65), .ref (ad 66), .ref (ad 67), .ref (ad 68), .long 0, .long 1, .ref (ad 69), .int 0, .ref (ad 70), .ref (ad 71), .int 0, .int 0, .int 0, .int 0, .int 0, .ref (ad 72), .ref (ad 73)]) := F 64 (by decide) (by decide)
    have f15 : w2 64 = .inr (7, [.ref (ad 65), .ref (ad 66), .ref (ad 67), .ref (ad 68), .long 0, .long 1, .ref (ad 69), .int 0, .ref (ad 70), .ref (ad 71), .int 0, .int 0, .int 0, .int 0, .int 0, .ref (ad 72), .ref (ad 73)]) := by rw [e4]; exact f14
    have f16 : w 68 = .inl (cI, 3, .inl (fun _ => 0)) := F 68 (by decide) (by decide)
    have f17 : w2 68 = .inl (cI, 3, .inl (fun _ => 0)) := by rw [e4]; exact f16
    refine q_Vi (na := 1) (As := [.int (-2)]) (rest := []) X hD hN h rfl (c_M_bad l G cI cB cZ cO ad w2 (-2) f15 f17) ⟨kw_199, kw_200, kw_201, kw_190, kw_202⟩ rfl ⟨by decide, by decide, by decide⟩ ⟨Nat.le_of_ble_eq_true rfl, Nat.le_of_ble_eq_true rfl⟩ ⟨Nat.zero_le _, Nat.zero_le _⟩ (by decide) f15 rfl rfl hl.1 rfl (Nat.le_of_ble_eq_true rfl) dX9_count_23 (fun r18 w19 H locs hp20 h => ?_)
    obtain ⟨rfl, hf21⟩ := hp20
    exact e_i X h hr hlk dX9_count_26 ⟨fun _ => by first | rfl | omega, fun _ => by first | rfl | omega⟩

set_option maxHeartbeats 4000000 in
set_option maxRecDepth 100000 in
theorem c_M_digest (l : Launch) (G : va_G) (cI cB cZ cO : ClassId) (ad : Nat → Nat) (w : Nat → va_E) (F : ∀ k, k < 74 → 64 ≤ k → w k = fr0 cI cB cZ cO ad k)  : ML l G (tyq cI cB cZ cO) yX9_digest cX9_digest 5 (some .long) 2 43 74 ad w [.ref (ad 64)] (fun r w1 => r = 4278844841920871640) := by
  refine mk_l (own := "NoonShadeModel") rfl (by decide) (Nat.le_of_ble_eq_true rfl) ?_
  intro p e s m below meth c ls X hD hN hr hlk h hl
  have hx := X.1.1
  have hb := X.1.2.1
  have hown := X.1.2.2.2.1
  have hts := X.1.2.2.2.2
  have hl : lv_has ls 5 [(0, .ref (ad 64))] := hl
  refine lv_ldc2 (v := 1879) hx hb hown (hts _ kw_275) dX9_digest_0 ?_
  refine lv_lstore_n (lv' := [(1, .long 1879), (0, .ref (ad 64))]) hx hb dX9_digest_3 rfl hl (by decide) rfl (fun ls hl => ?_)
  refine lv_iconst (v := 0) hx hb dX9_digest_4 (by decide) ?_
  refine lv_istore_n (lv' := [(3, .int 0), (1, .long 1879), (0, .ref (ad 64))]) hx hb dX9_digest_5 rfl hl (by decide) rfl (fun ls hl => ?_)
  refine lv_iload_n hx hb dX9_digest_6 rfl (lv_at hl 0 rfl) ?_
  refine lv_bipush (v := 10) hx hb dX9_digest_7 (by decide) ?_
  refine lv_icmp_ge (tgt := 31) hx hb dX9_digest_9 (by decide) (fun hc => absurd hc (by decide)) (fun _ => ?_)
  refine lv_ldc2 (v := 31) hx hb hown (hts _ kw_276) dX9_digest_12 ?_
  refine lv_lload_n hx hb dX9_digest_15 rfl (lv_at hl 1 rfl) ?_
  refine o_lmul (z := 58249) hx hb dX9_digest_16 rfl ?_
  refine lv_aload_n hx hb dX9_digest_17 rfl (lv_at hl 2 rfl) ?_
  refine lv_iload_n hx hb dX9_digest_18 rfl (lv_at hl 0 rfl) ?_
  have f1 : w 64 = .inr (7, [.ref (ad 65), .ref (ad 66), .ref (ad 67), .ref (ad 68), .long 0, .long 1, .ref (ad 69), .int 0, .ref (ad 70), .ref (ad 71), .int 0, .int 0, .int 0, .int 0, .int 0, .ref (ad 72), .ref (ad 73)]) := F 64 (by decide) (by decide)
  have f2 : w 65 = .inl (cI, 177, .inl (fun _ => 0)) := F 65 (by decide) (by decide)
  refine q_Vi (na := 1) (As := [.int 0]) (rest := [.long 58249]) X hD hN h rfl (c_M_counted l G cI cB cZ cO ad w 0 f1 f2) ⟨kw_271, kw_272, kw_273, kw_190, kw_274⟩ rfl ⟨by decide, by decide, by decide⟩ ⟨Nat.le_of_ble_eq_true rfl, Nat.le_of_ble_eq_true rfl⟩ ⟨Nat.zero_le _, Nat.zero_le _⟩ (by decide) f1 rfl rfl hl.1 rfl (Nat.le_of_ble_eq_true rfl) dX9_digest_19 (fun r3 w4 H locs hp5 h => ?_)
  obtain ⟨e6, rfl⟩ := hp5
  refine lv_i2l (v := 0) hx hb dX9_digest_22 rfl ?_
  refine o_ladd (z := 58249) hx hb dX9_digest_23 rfl ?_
  refine lv_lstore_n (lv' := [(1, .long 58249), (3, .int 0), (0, .ref (ad 64))]) hx hb dX9_digest_24 rfl hl (by decide) rfl (fun ls hl => ?_)
  refine lv_iinc (v := 1) (lv' := [(3, .int 1), (1, .long 58249), (0, .ref (ad 64))]) hx hb dX9_digest_25 hl (k := 1) rfl rfl (by decide) rfl (fun ls hl => ?_)
  refine lv_goto (tgt := 6) hx hb dX9_digest_28 (by decide) ?_
  refine lv_iload_n hx hb dX9_digest_6 rfl (lv_at hl 0 rfl) ?_
  refine lv_bipush (v := 10) hx hb dX9_digest_7 (by decide) ?_
  refine lv_icmp_ge (tgt := 31) hx hb dX9_digest_9 (by decide) (fun hc => absurd hc (by decide)) (fun _ => ?_)
  refine lv_ldc2 (v := 31) hx hb hown (hts _ kw_276) dX9_digest_12 ?_
  refine lv_lload_n hx hb dX9_digest_15 rfl (lv_at hl 1 rfl) ?_
  refine o_lmul (z := 1805719) hx hb dX9_digest_16 rfl ?_
  refine lv_aload_n hx hb dX9_digest_17 rfl (lv_at hl 2 rfl) ?_
  refine lv_iload_n hx hb dX9_digest_18 rfl (lv_at hl 0 rfl) ?_
  have f7 : w4 64 = .inr (7, [.ref (ad 65), .ref (ad 66), .ref (ad 67), .ref (ad 68), .long 0, .long 1, .ref (ad 69), .int 0, .ref (ad 70), .ref (ad 71), .int 0, .int 0, .int 0, .int 0, .int 0, .ref (ad 72), .ref (ad 73)]) := by rw [e6]; exact f1
  have f8 : w4 65 = .inl (cI, 177, .inl (fun _ => 0)) := by rw [e6]; exact f2
  refine q_Vi (na := 1) (As := [.int 1]) (rest := [.long 1805719]) X hD hN h rfl (c_M_counted l G cI cB cZ cO ad w4 1 f7 f8) ⟨kw_271, kw_272, kw_273, kw_190, kw_274⟩ rfl ⟨by decide, by decide, by decide⟩ ⟨Nat.le_of_ble_eq_true rfl, Nat.le_of_ble_eq_true rfl⟩ ⟨Nat.zero_le _, Nat.zero_le _⟩ (by decide) f7 rfl rfl hl.1 rfl (Nat.le_of_ble_eq_true rfl) dX9_digest_19 (fun r9 w10 H locs hp11 h => ?_)
  obtain ⟨e12, rfl⟩ := hp11
  refine lv_i2l (v := 0) hx hb dX9_digest_22 rfl ?_
  refine o_ladd (z := 1805719) hx hb dX9_digest_23 rfl ?_
  refine lv_lstore_n (lv' := [(1, .long 1805719), (3, .int 1), (0, .ref (ad 64))]) hx hb dX9_digest_24 rfl hl (by decide) rfl (fun ls hl => ?_)
  refine lv_iinc (v := 2) (lv' := [(3, .int 2), (1, .long 1805719), (0, .ref (ad 64))]) hx hb dX9_digest_25 hl (k := 1) rfl rfl (by decide) rfl (fun ls hl => ?_)
  refine lv_goto (tgt := 6) hx hb dX9_digest_28 (by decide) ?_
  refine lv_iload_n hx hb dX9_digest_6 rfl (lv_at hl 0 rfl) ?_
  refine lv_bipush (v := 10) hx hb dX9_digest_7 (by decide) ?_
  refine lv_icmp_ge (tgt := 31) hx hb dX9_digest_9 (by decide) (fun hc => absurd hc (by decide)) (fun _ => ?_)
  refine lv_ldc2 (v := 31) hx hb hown (hts _ kw_276) dX9_digest_12 ?_
  refine lv_lload_n hx hb dX9_digest_15 rfl (lv_at hl 1 rfl) ?_
  refine o_lmul (z := 55977289) hx hb dX9_digest_16 rfl ?_
  refine lv_aload_n hx hb dX9_digest_17 rfl (lv_at hl 2 rfl) ?_
  refine lv_iload_n hx hb dX9_digest_18 rfl (lv_at hl 0 rfl) ?_
  have f13 : w10 64 = .inr (7, [.ref (ad 65), .ref (ad 66), .ref (ad 67), .ref (ad 68), .long 0, .long 1, .ref (ad 69), .int 0, .ref (ad 70), .ref (ad 71), .int 0, .int 0, .int 0, .int 0, .int 0, .ref (ad 72), .ref (ad 73)]) := by rw [e12]; exact f7
  have f14 : w10 65 = .inl (cI, 177, .inl (fun _ => 0)) := by rw [e12]; exact f8
  refine q_Vi (na := 1) (As := [.int 2]) (rest := [.long 55977289]) X hD hN h rfl (c_M_counted l G cI cB cZ cO ad w10 2 f13 f14) ⟨kw_271, kw_272, kw_273, kw_190, kw_274⟩ rfl ⟨by decide, by decide, by decide⟩ ⟨Nat.le_of_ble_eq_true rfl, Nat.le_of_ble_eq_true rfl⟩ ⟨Nat.zero_le _, Nat.zero_le _⟩ (by decide) f13 rfl rfl hl.1 rfl (Nat.le_of_ble_eq_true rfl) dX9_digest_19 (fun r15 w16 H locs hp17 h => ?_)
  obtain ⟨e18, rfl⟩ := hp17
  refine lv_i2l (v := 0) hx hb dX9_digest_22 rfl ?_
  refine o_ladd (z := 55977289) hx hb dX9_digest_23 rfl ?_
  refine lv_lstore_n (lv' := [(1, .long 55977289), (3, .int 2), (0, .ref (ad 64))]) hx hb dX9_digest_24 rfl hl (by decide) rfl (fun ls hl => ?_)
  refine lv_iinc (v := 3) (lv' := [(3, .int 3), (1, .long 55977289), (0, .ref (ad 64))]) hx hb dX9_digest_25 hl (k := 1) rfl rfl (by decide) rfl (fun ls hl => ?_)
  refine lv_goto (tgt := 6) hx hb dX9_digest_28 (by decide) ?_
  refine lv_iload_n hx hb dX9_digest_6 rfl (lv_at hl 0 rfl) ?_
  refine lv_bipush (v := 10) hx hb dX9_digest_7 (by decide) ?_
  refine lv_icmp_ge (tgt := 31) hx hb dX9_digest_9 (by decide) (fun hc => absurd hc (by decide)) (fun _ => ?_)
  refine lv_ldc2 (v := 31) hx hb hown (hts _ kw_276) dX9_digest_12 ?_
  refine lv_lload_n hx hb dX9_digest_15 rfl (lv_at hl 1 rfl) ?_
  refine o_lmul (z := 1735295959) hx hb dX9_digest_16 rfl ?_
  refine lv_aload_n hx hb dX9_digest_17 rfl (lv_at hl 2 rfl) ?_
  refine lv_iload_n hx hb dX9_digest_18 rfl (lv_at hl 0 rfl) ?_
  have f19 : w16 64 = .inr (7, [.ref (ad 65), .ref (ad 66), .ref (ad 67), .ref (ad 68), .long 0, .long 1, .ref (ad 69), .int 0, .ref (ad 70), .ref (ad 71), .int 0, .int 0, .int 0, .int 0, .int 0, .ref (ad 72), .ref (ad 73)]) := by rw [e18]; exact f13
  have f20 : w16 65 = .inl (cI, 177, .inl (fun _ => 0)) := by rw [e18]; exact f14
  refine q_Vi (na := 1) (As := [.int 3]) (rest := [.long 1735295959]) X hD hN h rfl (c_M_counted l G cI cB cZ cO ad w16 3 f19 f20) ⟨kw_271, kw_272, kw_273, kw_190, kw_274⟩ rfl ⟨by decide, by decide, by decide⟩ ⟨Nat.le_of_ble_eq_true rfl, Nat.le_of_ble_eq_true rfl⟩ ⟨Nat.zero_le _, Nat.zero_le _⟩ (by decide) f19 rfl rfl hl.1 rfl (Nat.le_of_ble_eq_true rfl) dX9_digest_19 (fun r21 w22 H locs hp23 h => ?_)
  obtain ⟨e24, rfl⟩ := hp23
  refine lv_i2l (v := 0) hx hb dX9_digest_22 rfl ?_
  refine o_ladd (z := 1735295959) hx hb dX9_digest_23 rfl ?_
  refine lv_lstore_n (lv' := [(1, .long 1735295959), (3, .int 3), (0, .ref (ad 64))]) hx hb dX9_digest_24 rfl hl (by decide) rfl (fun ls hl => ?_)
  refine lv_iinc (v := 4) (lv' := [(3, .int 4), (1, .long 1735295959), (0, .ref (ad 64))]) hx hb dX9_digest_25 hl (k := 1) rfl rfl (by decide) rfl (fun ls hl => ?_)
  refine lv_goto (tgt := 6) hx hb dX9_digest_28 (by decide) ?_
  refine lv_iload_n hx hb dX9_digest_6 rfl (lv_at hl 0 rfl) ?_
  refine lv_bipush (v := 10) hx hb dX9_digest_7 (by decide) ?_
  refine lv_icmp_ge (tgt := 31) hx hb dX9_digest_9 (by decide) (fun hc => absurd hc (by decide)) (fun _ => ?_)
  refine lv_ldc2 (v := 31) hx hb hown (hts _ kw_276) dX9_digest_12 ?_
  refine lv_lload_n hx hb dX9_digest_15 rfl (lv_at hl 1 rfl) ?_
  refine o_lmul (z := 53794174729) hx hb dX9_digest_16 rfl ?_
  refine lv_aload_n hx hb dX9_digest_17 rfl (lv_at hl 2 rfl) ?_
  refine lv_iload_n hx hb dX9_digest_18 rfl (lv_at hl 0 rfl) ?_
  have f25 : w22 64 = .inr (7, [.ref (ad 65), .ref (ad 66), .ref (ad 67), .ref (ad 68), .long 0, .long 1, .ref (ad 69), .int 0, .ref (ad 70), .ref (ad 71), .int 0, .int 0, .int 0, .int 0, .int 0, .ref (ad 72), .ref (ad 73)]) := by rw [e24]; exact f19
  have f26 : w22 65 = .inl (cI, 177, .inl (fun _ => 0)) := by rw [e24]; exact f20
  refine q_Vi (na := 1) (As := [.int 4]) (rest := [.long 53794174729]) X hD hN h rfl (c_M_counted l G cI cB cZ cO ad w22 4 f25 f26) ⟨kw_271, kw_272, kw_273, kw_190, kw_274⟩ rfl ⟨by decide, by decide, by decide⟩ ⟨Nat.le_of_ble_eq_true rfl, Nat.le_of_ble_eq_true rfl⟩ ⟨Nat.zero_le _, Nat.zero_le _⟩ (by decide) f25 rfl rfl hl.1 rfl (Nat.le_of_ble_eq_true rfl) dX9_digest_19 (fun r27 w28 H locs hp29 h => ?_)
  obtain ⟨e30, rfl⟩ := hp29
  refine lv_i2l (v := 0) hx hb dX9_digest_22 rfl ?_
  refine o_ladd (z := 53794174729) hx hb dX9_digest_23 rfl ?_
  refine lv_lstore_n (lv' := [(1, .long 53794174729), (3, .int 4), (0, .ref (ad 64))]) hx hb dX9_digest_24 rfl hl (by decide) rfl (fun ls hl => ?_)
  refine lv_iinc (v := 5) (lv' := [(3, .int 5), (1, .long 53794174729), (0, .ref (ad 64))]) hx hb dX9_digest_25 hl (k := 1) rfl rfl (by decide) rfl (fun ls hl => ?_)
  refine lv_goto (tgt := 6) hx hb dX9_digest_28 (by decide) ?_
  refine lv_iload_n hx hb dX9_digest_6 rfl (lv_at hl 0 rfl) ?_
  refine lv_bipush (v := 10) hx hb dX9_digest_7 (by decide) ?_
  refine lv_icmp_ge (tgt := 31) hx hb dX9_digest_9 (by decide) (fun hc => absurd hc (by decide)) (fun _ => ?_)
  refine lv_ldc2 (v := 31) hx hb hown (hts _ kw_276) dX9_digest_12 ?_
  refine lv_lload_n hx hb dX9_digest_15 rfl (lv_at hl 1 rfl) ?_
  refine o_lmul (z := 1667619416599) hx hb dX9_digest_16 rfl ?_
  refine lv_aload_n hx hb dX9_digest_17 rfl (lv_at hl 2 rfl) ?_
  refine lv_iload_n hx hb dX9_digest_18 rfl (lv_at hl 0 rfl) ?_
  have f31 : w28 64 = .inr (7, [.ref (ad 65), .ref (ad 66), .ref (ad 67), .ref (ad 68), .long 0, .long 1, .ref (ad 69), .int 0, .ref (ad 70), .ref (ad 71), .int 0, .int 0, .int 0, .int 0, .int 0, .ref (ad 72), .ref (ad 73)]) := by rw [e30]; exact f25
  have f32 : w28 65 = .inl (cI, 177, .inl (fun _ => 0)) := by rw [e30]; exact f26
  refine q_Vi (na := 1) (As := [.int 5]) (rest := [.long 1667619416599]) X hD hN h rfl (c_M_counted l G cI cB cZ cO ad w28 5 f31 f32) ⟨kw_271, kw_272, kw_273, kw_190, kw_274⟩ rfl ⟨by decide, by decide, by decide⟩ ⟨Nat.le_of_ble_eq_true rfl, Nat.le_of_ble_eq_true rfl⟩ ⟨Nat.zero_le _, Nat.zero_le _⟩ (by decide) f31 rfl rfl hl.1 rfl (Nat.le_of_ble_eq_true rfl) dX9_digest_19 (fun r33 w34 H locs hp35 h => ?_)
  obtain ⟨e36, rfl⟩ := hp35
  refine lv_i2l (v := 0) hx hb dX9_digest_22 rfl ?_
  refine o_ladd (z := 1667619416599) hx hb dX9_digest_23 rfl ?_
  refine lv_lstore_n (lv' := [(1, .long 1667619416599), (3, .int 5), (0, .ref (ad 64))]) hx hb dX9_digest_24 rfl hl (by decide) rfl (fun ls hl => ?_)
  refine lv_iinc (v := 6) (lv' := [(3, .int 6), (1, .long 1667619416599), (0, .ref (ad 64))]) hx hb dX9_digest_25 hl (k := 1) rfl rfl (by decide) rfl (fun ls hl => ?_)
  refine lv_goto (tgt := 6) hx hb dX9_digest_28 (by decide) ?_
  refine lv_iload_n hx hb dX9_digest_6 rfl (lv_at hl 0 rfl) ?_
  refine lv_bipush (v := 10) hx hb dX9_digest_7 (by decide) ?_
  refine lv_icmp_ge (tgt := 31) hx hb dX9_digest_9 (by decide) (fun hc => absurd hc (by decide)) (fun _ => ?_)
  refine lv_ldc2 (v := 31) hx hb hown (hts _ kw_276) dX9_digest_12 ?_
  refine lv_lload_n hx hb dX9_digest_15 rfl (lv_at hl 1 rfl) ?_
  refine o_lmul (z := 51696201914569) hx hb dX9_digest_16 rfl ?_
  refine lv_aload_n hx hb dX9_digest_17 rfl (lv_at hl 2 rfl) ?_
  refine lv_iload_n hx hb dX9_digest_18 rfl (lv_at hl 0 rfl) ?_
  have f37 : w34 64 = .inr (7, [.ref (ad 65), .ref (ad 66), .ref (ad 67), .ref (ad 68), .long 0, .long 1, .ref (ad 69), .int 0, .ref (ad 70), .ref (ad 71), .int 0, .int 0, .int 0, .int 0, .int 0, .ref (ad 72), .ref (ad 73)]) := by rw [e36]; exact f31
  have f38 : w34 65 = .inl (cI, 177, .inl (fun _ => 0)) := by rw [e36]; exact f32
  refine q_Vi (na := 1) (As := [.int 6]) (rest := [.long 51696201914569]) X hD hN h rfl (c_M_counted l G cI cB cZ cO ad w34 6 f37 f38) ⟨kw_271, kw_272, kw_273, kw_190, kw_274⟩ rfl ⟨by decide, by decide, by decide⟩ ⟨Nat.le_of_ble_eq_true rfl, Nat.le_of_ble_eq_true rfl⟩ ⟨Nat.zero_le _, Nat.zero_le _⟩ (by decide) f37 rfl rfl hl.1 rfl (Nat.le_of_ble_eq_true rfl) dX9_digest_19 (fun r39 w40 H locs hp41 h => ?_)
  obtain ⟨e42, rfl⟩ := hp41
  refine lv_i2l (v := 0) hx hb dX9_digest_22 rfl ?_
  refine o_ladd (z := 51696201914569) hx hb dX9_digest_23 rfl ?_
  refine lv_lstore_n (lv' := [(1, .long 51696201914569), (3, .int 6), (0, .ref (ad 64))]) hx hb dX9_digest_24 rfl hl (by decide) rfl (fun ls hl => ?_)
  refine lv_iinc (v := 7) (lv' := [(3, .int 7), (1, .long 51696201914569), (0, .ref (ad 64))]) hx hb dX9_digest_25 hl (k := 1) rfl rfl (by decide) rfl (fun ls hl => ?_)
  refine lv_goto (tgt := 6) hx hb dX9_digest_28 (by decide) ?_
  refine lv_iload_n hx hb dX9_digest_6 rfl (lv_at hl 0 rfl) ?_
  refine lv_bipush (v := 10) hx hb dX9_digest_7 (by decide) ?_
  refine lv_icmp_ge (tgt := 31) hx hb dX9_digest_9 (by decide) (fun hc => absurd hc (by decide)) (fun _ => ?_)
  refine lv_ldc2 (v := 31) hx hb hown (hts _ kw_276) dX9_digest_12 ?_
  refine lv_lload_n hx hb dX9_digest_15 rfl (lv_at hl 1 rfl) ?_
  refine o_lmul (z := 1602582259351639) hx hb dX9_digest_16 rfl ?_
  refine lv_aload_n hx hb dX9_digest_17 rfl (lv_at hl 2 rfl) ?_
  refine lv_iload_n hx hb dX9_digest_18 rfl (lv_at hl 0 rfl) ?_
  have f43 : w40 64 = .inr (7, [.ref (ad 65), .ref (ad 66), .ref (ad 67), .ref (ad 68), .long 0, .long 1, .ref (ad 69), .int 0, .ref (ad 70), .ref (ad 71), .int 0, .int 0, .int 0, .int 0, .int 0, .ref (ad 72), .ref (ad 73)]) := by rw [e42]; exact f37
  have f44 : w40 65 = .inl (cI, 177, .inl (fun _ => 0)) := by rw [e42]; exact f38
  refine q_Vi (na := 1) (As := [.int 7]) (rest := [.long 1602582259351639]) X hD hN h rfl (c_M_counted l G cI cB cZ cO ad w40 7 f43 f44) ⟨kw_271, kw_272, kw_273, kw_190, kw_274⟩ rfl ⟨by decide, by decide, by decide⟩ ⟨Nat.le_of_ble_eq_true rfl, Nat.le_of_ble_eq_true rfl⟩ ⟨Nat.zero_le _, Nat.zero_le _⟩ (by decide) f43 rfl rfl hl.1 rfl (Nat.le_of_ble_eq_true rfl) dX9_digest_19 (fun r45 w46 H locs hp47 h => ?_)
  obtain ⟨e48, rfl⟩ := hp47
  refine lv_i2l (v := 0) hx hb dX9_digest_22 rfl ?_
  refine o_ladd (z := 1602582259351639) hx hb dX9_digest_23 rfl ?_
  refine lv_lstore_n (lv' := [(1, .long 1602582259351639), (3, .int 7), (0, .ref (ad 64))]) hx hb dX9_digest_24 rfl hl (by decide) rfl (fun ls hl => ?_)
  refine lv_iinc (v := 8) (lv' := [(3, .int 8), (1, .long 1602582259351639), (0, .ref (ad 64))]) hx hb dX9_digest_25 hl (k := 1) rfl rfl (by decide) rfl (fun ls hl => ?_)
  refine lv_goto (tgt := 6) hx hb dX9_digest_28 (by decide) ?_
  refine lv_iload_n hx hb dX9_digest_6 rfl (lv_at hl 0 rfl) ?_
  refine lv_bipush (v := 10) hx hb dX9_digest_7 (by decide) ?_
  refine lv_icmp_ge (tgt := 31) hx hb dX9_digest_9 (by decide) (fun hc => absurd hc (by decide)) (fun _ => ?_)
  refine lv_ldc2 (v := 31) hx hb hown (hts _ kw_276) dX9_digest_12 ?_
  refine lv_lload_n hx hb dX9_digest_15 rfl (lv_at hl 1 rfl) ?_
  refine o_lmul (z := 49680050039900809) hx hb dX9_digest_16 rfl ?_
  refine lv_aload_n hx hb dX9_digest_17 rfl (lv_at hl 2 rfl) ?_
  refine lv_iload_n hx hb dX9_digest_18 rfl (lv_at hl 0 rfl) ?_
  have f49 : w46 64 = .inr (7, [.ref (ad 65), .ref (ad 66), .ref (ad 67), .ref (ad 68), .long 0, .long 1, .ref (ad 69), .int 0, .ref (ad 70), .ref (ad 71), .int 0, .int 0, .int 0, .int 0, .int 0, .ref (ad 72), .ref (ad 73)]) := by rw [e48]; exact f43
  have f50 : w46 65 = .inl (cI, 177, .inl (fun _ => 0)) := by rw [e48]; exact f44
  refine q_Vi (na := 1) (As := [.int 8]) (rest := [.long 49680050039900809]) X hD hN h rfl (c_M_counted l G cI cB cZ cO ad w46 8 f49 f50) ⟨kw_271, kw_272, kw_273, kw_190, kw_274⟩ rfl ⟨by decide, by decide, by decide⟩ ⟨Nat.le_of_ble_eq_true rfl, Nat.le_of_ble_eq_true rfl⟩ ⟨Nat.zero_le _, Nat.zero_le _⟩ (by decide) f49 rfl rfl hl.1 rfl (Nat.le_of_ble_eq_true rfl) dX9_digest_19 (fun r51 w52 H locs hp53 h => ?_)
  obtain ⟨e54, rfl⟩ := hp53
  refine lv_i2l (v := 0) hx hb dX9_digest_22 rfl ?_
  refine o_ladd (z := 49680050039900809) hx hb dX9_digest_23 rfl ?_
  refine lv_lstore_n (lv' := [(1, .long 49680050039900809), (3, .int 8), (0, .ref (ad 64))]) hx hb dX9_digest_24 rfl hl (by decide) rfl (fun ls hl => ?_)
  refine lv_iinc (v := 9) (lv' := [(3, .int 9), (1, .long 49680050039900809), (0, .ref (ad 64))]) hx hb dX9_digest_25 hl (k := 1) rfl rfl (by decide) rfl (fun ls hl => ?_)
  refine lv_goto (tgt := 6) hx hb dX9_digest_28 (by decide) ?_
  refine lv_iload_n hx hb dX9_digest_6 rfl (lv_at hl 0 rfl) ?_
  refine lv_bipush (v := 10) hx hb dX9_digest_7 (by decide) ?_
  refine lv_icmp_ge (tgt := 31) hx hb dX9_digest_9 (by decide) (fun hc => absurd hc (by decide)) (fun _ => ?_)
  refine lv_ldc2 (v := 31) hx hb hown (hts _ kw_276) dX9_digest_12 ?_
  refine lv_lload_n hx hb dX9_digest_15 rfl (lv_at hl 1 rfl) ?_
  refine o_lmul (z := 1540081551236925079) hx hb dX9_digest_16 rfl ?_
  refine lv_aload_n hx hb dX9_digest_17 rfl (lv_at hl 2 rfl) ?_
  refine lv_iload_n hx hb dX9_digest_18 rfl (lv_at hl 0 rfl) ?_
  have f55 : w52 64 = .inr (7, [.ref (ad 65), .ref (ad 66), .ref (ad 67), .ref (ad 68), .long 0, .long 1, .ref (ad 69), .int 0, .ref (ad 70), .ref (ad 71), .int 0, .int 0, .int 0, .int 0, .int 0, .ref (ad 72), .ref (ad 73)]) := by rw [e54]; exact f49
  have f56 : w52 65 = .inl (cI, 177, .inl (fun _ => 0)) := by rw [e54]; exact f50
  refine q_Vi (na := 1) (As := [.int 9]) (rest := [.long 1540081551236925079]) X hD hN h rfl (c_M_counted l G cI cB cZ cO ad w52 9 f55 f56) ⟨kw_271, kw_272, kw_273, kw_190, kw_274⟩ rfl ⟨by decide, by decide, by decide⟩ ⟨Nat.le_of_ble_eq_true rfl, Nat.le_of_ble_eq_true rfl⟩ ⟨Nat.zero_le _, Nat.zero_le _⟩ (by decide) f55 rfl rfl hl.1 rfl (Nat.le_of_ble_eq_true rfl) dX9_digest_19 (fun r57 w58 H locs hp59 h => ?_)
  obtain ⟨e60, rfl⟩ := hp59
  refine lv_i2l (v := 0) hx hb dX9_digest_22 rfl ?_
  refine o_ladd (z := 1540081551236925079) hx hb dX9_digest_23 rfl ?_
  refine lv_lstore_n (lv' := [(1, .long 1540081551236925079), (3, .int 9), (0, .ref (ad 64))]) hx hb dX9_digest_24 rfl hl (by decide) rfl (fun ls hl => ?_)
  refine lv_iinc (v := 10) (lv' := [(3, .int 10), (1, .long 1540081551236925079), (0, .ref (ad 64))]) hx hb dX9_digest_25 hl (k := 1) rfl rfl (by decide) rfl (fun ls hl => ?_)
  refine lv_goto (tgt := 6) hx hb dX9_digest_28 (by decide) ?_
  refine lv_iload_n hx hb dX9_digest_6 rfl (lv_at hl 0 rfl) ?_
  refine lv_bipush (v := 10) hx hb dX9_digest_7 (by decide) ?_
  refine lv_icmp_ge (tgt := 31) hx hb dX9_digest_9 (by decide) (fun _ => ?_) (fun hc => absurd (by decide) hc)
  refine lv_iconst (v := 0) hx hb dX9_digest_31 (by decide) ?_
  refine lv_istore_n (lv' := [(3, .int 0), (1, .long 1540081551236925079), (0, .ref (ad 64))]) hx hb dX9_digest_32 rfl hl (by decide) rfl (fun ls hl => ?_)
  refine lv_iload_n hx hb dX9_digest_33 rfl (lv_at hl 0 rfl) ?_
  refine lv_aload_n hx hb dX9_digest_34 rfl (lv_at hl 2 rfl) ?_
  have f61 : w58 64 = .inr (7, [.ref (ad 65), .ref (ad 66), .ref (ad 67), .ref (ad 68), .long 0, .long 1, .ref (ad 69), .int 0, .ref (ad 70), .ref (ad 71), .int 0, .int 0, .int 0, .int 0, .int 0, .ref (ad 72), .ref (ad 73)]) := by rw [e60]; exact f55
  refine r_get kc9 X h 64 0 (by decide) rfl f61 (by decide) kw_187 rfl dX9_digest_35 ?_
  refine lv_iconst (v := 0) hx hb dX9_digest_38 (by decide) ?_
  have f62 : w58 65 = .inl (cI, 177, .inl (fun _ => 0)) := by rw [e60]; exact f56
  refine o_iald (v := 0) X h 65 0 (by decide) rfl f62 rfl (by unfold vp_in; decide) rfl dX9_digest_39 ?_
  refine lv_icmp_ge (tgt := 79) hx hb dX9_digest_40 (by decide) (fun _ => ?_) (fun hc => absurd (by decide) hc)
  refine lv_iconst (v := 0) hx hb dX9_digest_79 (by decide) ?_
  refine lv_istore_n (lv' := [(3, .int 0), (1, .long 1540081551236925079), (0, .ref (ad 64))]) hx hb dX9_digest_80 rfl hl (by decide) rfl (fun ls hl => ?_)
  refine lv_iload_n hx hb dX9_digest_81 rfl (lv_at hl 0 rfl) ?_
  refine lv_aload_n hx hb dX9_digest_82 rfl (lv_at hl 2 rfl) ?_
  refine r_get kc9 X h 64 0 (by decide) rfl f61 (by decide) kw_187 rfl dX9_digest_83 ?_
  refine lv_iconst (v := 1) hx hb dX9_digest_86 (by decide) ?_
  refine o_iald (v := 0) X h 65 0 (by decide) rfl f62 rfl (by unfold vp_in; decide) rfl dX9_digest_87 ?_
  refine lv_icmp_ge (tgt := 127) hx hb dX9_digest_88 (by decide) (fun _ => ?_) (fun hc => absurd (by decide) hc)
  refine lv_aload_n hx hb dX9_digest_127 rfl (lv_at hl 2 rfl) ?_
  refine lv_lload_n hx hb dX9_digest_128 rfl (lv_at hl 1 rfl) ?_
  refine lv_bipush (v := 41) hx hb dX9_digest_129 (by decide) ?_
  refine lv_iconst (v := 4) hx hb dX9_digest_131 (by decide) ?_
  refine lv_aload_n hx hb dX9_digest_132 rfl (lv_at hl 2 rfl) ?_
  refine r_get kc9 X h 64 0 (by decide) rfl f61 (by decide) kw_187 rfl dX9_digest_133 ?_
  refine lv_iconst (v := 2) hx hb dX9_digest_136 (by decide) ?_
  refine o_iald (v := 0) X h 65 0 (by decide) rfl f62 rfl (by unfold vp_in; decide) rfl dX9_digest_137 ?_
  refine o_imul (z := 0) hx hb dX9_digest_138 rfl ?_
  refine q_Vl (na := 3) (As := [.long 1540081551236925079, .int 41, .int 0]) (rest := []) X hD hN h rfl (c_M_sums l G cI cB cZ cO ad w58 1540081551236925079 41) ⟨kw_277, kw_278, kw_279, kw_190, kw_280⟩ rfl ⟨by decide, by decide, by decide⟩ ⟨Nat.le_of_ble_eq_true rfl, Nat.le_of_ble_eq_true rfl⟩ ⟨Nat.zero_le _, Nat.zero_le _⟩ (by decide) f61 rfl rfl hl.1 rfl (Nat.le_of_ble_eq_true rfl) dX9_digest_139 (fun r63 w64 H locs hp65 h => ?_)
  obtain ⟨e66, rfl⟩ := hp65
  refine lv_lstore_n (lv' := [(1, .long 1540081551236925079), (3, .int 0), (0, .ref (ad 64))]) hx hb dX9_digest_142 rfl hl (by decide) rfl (fun ls hl => ?_)
  refine lv_aload_n hx hb dX9_digest_143 rfl (lv_at hl 2 rfl) ?_
  refine lv_lload_n hx hb dX9_digest_144 rfl (lv_at hl 0 rfl) ?_
  refine lv_bipush (v := 65) hx hb dX9_digest_145 (by decide) ?_
  refine lv_iconst (v := 4) hx hb dX9_digest_147 (by decide) ?_
  refine lv_aload_n hx hb dX9_digest_148 rfl (lv_at hl 2 rfl) ?_
  have f67 : w64 64 = .inr (7, [.ref (ad 65), .ref (ad 66), .ref (ad 67), .ref (ad 68), .long 0, .long 1, .ref (ad 69), .int 0, .ref (ad 70), .ref (ad 71), .int 0, .int 0, .int 0, .int 0, .int 0, .ref (ad 72), .ref (ad 73)]) := by rw [e66]; exact f61
  refine r_get kc9 X h 64 0 (by decide) rfl f67 (by decide) kw_187 rfl dX9_digest_149 ?_
  refine lv_iconst (v := 3) hx hb dX9_digest_152 (by decide) ?_
  have f68 : w64 65 = .inl (cI, 177, .inl (fun _ => 0)) := by rw [e66]; exact f62
  refine o_iald (v := 0) X h 65 0 (by decide) rfl f68 rfl (by unfold vp_in; decide) rfl dX9_digest_153 ?_
  refine o_imul (z := 0) hx hb dX9_digest_154 rfl ?_
  refine q_Vl (na := 3) (As := [.long 1540081551236925079, .int 65, .int 0]) (rest := []) X hD hN h rfl (c_M_sums l G cI cB cZ cO ad w64 1540081551236925079 65) ⟨kw_277, kw_278, kw_279, kw_190, kw_280⟩ rfl ⟨by decide, by decide, by decide⟩ ⟨Nat.le_of_ble_eq_true rfl, Nat.le_of_ble_eq_true rfl⟩ ⟨Nat.zero_le _, Nat.zero_le _⟩ (by decide) f67 rfl rfl hl.1 rfl (Nat.le_of_ble_eq_true rfl) dX9_digest_155 (fun r69 w70 H locs hp71 h => ?_)
  obtain ⟨e72, rfl⟩ := hp71
  refine lv_lstore_n (lv' := [(1, .long 1540081551236925079), (3, .int 0), (0, .ref (ad 64))]) hx hb dX9_digest_158 rfl hl (by decide) rfl (fun ls hl => ?_)
  refine lv_ldc2 (v := 31) hx hb hown (hts _ kw_276) dX9_digest_159 ?_
  refine lv_ldc2 (v := 31) hx hb hown (hts _ kw_276) dX9_digest_162 ?_
  refine lv_lload_n hx hb dX9_digest_165 rfl (lv_at hl 0 rfl) ?_
  refine o_lmul (z := (-7597704132783977399)) hx hb dX9_digest_166 rfl ?_
  refine lv_aload_n hx hb dX9_digest_167 rfl (lv_at hl 2 rfl) ?_
  have f73 : w70 64 = .inr (7, [.ref (ad 65), .ref (ad 66), .ref (ad 67), .ref (ad 68), .long 0, .long 1, .ref (ad 69), .int 0, .ref (ad 70), .ref (ad 71), .int 0, .int 0, .int 0, .int 0, .int 0, .ref (ad 72), .ref (ad 73)]) := by rw [e72]; exact f67
  refine r_get kc9 X h 64 4 (by decide) rfl f73 (by decide) kw_261 rfl dX9_digest_168 ?_
  refine o_ladd (z := (-7597704132783977399)) hx hb dX9_digest_171 rfl ?_
  refine o_lmul (z := 4278844841920871639) hx hb dX9_digest_172 rfl ?_
  refine lv_aload_n hx hb dX9_digest_173 rfl (lv_at hl 2 rfl) ?_
  refine r_get kc9 X h 64 5 (by decide) rfl f73 (by decide) kw_260 rfl dX9_digest_174 ?_
  refine o_ladd (z := 4278844841920871640) hx hb dX9_digest_177 rfl ?_
  exact e_l X h hr hlk dX9_digest_178 rfl

set_option maxHeartbeats 4000000 in
set_option maxRecDepth 100000 in
theorem c_M_noons (l : Launch) (G : va_G) (cI cB cZ cO : ClassId) (ad : Nat → Nat) (w : Nat → va_E) (F : ∀ k, k < 74 → 64 ≤ k → w k = fr0 cI cB cZ cO ad k) (x n : Int32) : MI l G (tyq cI cB cZ cO) yX9_noons cX9_noons 9 (some .int) 2 46 74 ad w [.ref (ad 64), .int x, .int n] (fun r w1 => (0 ≤ x.toInt ∧ x.toInt ≤ 999999 ∧ 0 ≤ n.toInt ∧ n.toInt ≤ 60 → r = 0) ∧ (¬ (0 ≤ x.toInt ∧ x.toInt ≤ 999999 ∧ 0 ≤ n.toInt ∧ n.toInt ≤ 60) → r = -2)) := by
  refine mk_i (own := "NoonShadeModel") rfl (by decide) (Nat.le_of_ble_eq_true rfl) ?_
  intro p e s m below meth c ls X hD hN hr hlk h hl
  have hx := X.1.1
  have hb := X.1.2.1
  have hown := X.1.2.2.2.1
  have hts := X.1.2.2.2.2
  have hl : lv_has ls 9 [(0, .ref (ad 64)), (1, .int x), (2, .int n)] := hl
  refine lv_iload_n hx hb dX9_noons_0 rfl (lv_at hl 1 rfl) ?_
  refine lv_i2l (v := x.toInt64) hx hb dX9_noons_1 rfl ?_
  refine lv_lconst (v := 0) hx hb dX9_noons_2 (by decide) ?_
  refine lv_ldc2 (v := 999999) hx hb hown (hts _ kw_282) dX9_noons_3 ?_
  refine q_Si (na := 3) (As := [.long x.toInt64, .long 0, .long 999999]) (rest := []) X hD hN h (c_M_in l G cI cB cZ cO ad w x.toInt64 0 999999 ((x).toInt) 0 999999 (Int32.toInt_toInt64 _) rfl rfl) ⟨kw_188, kw_189, kw_190, kw_191⟩ ⟨by decide, by decide, by decide⟩ ⟨Nat.le_of_ble_eq_true rfl, Nat.le_of_ble_eq_true rfl⟩ ⟨Nat.zero_le _, Nat.zero_le _⟩ rfl hl.1 rfl (Nat.le_of_ble_eq_true rfl) dX9_noons_6 (fun r1 w2 H locs hp3 h => ?_)
  obtain ⟨e4, hp3⟩ := hp3
  rcases hp3 with ⟨hq5a, hq5b, rfl⟩ | ⟨hq5, rfl⟩
  · refine lv_if_eq (tgt := 24) hx hb dX9_noons_9 (by decide) (fun hc => absurd hc (by decide)) (fun _ => ?_)
    refine lv_iload_n hx hb dX9_noons_12 rfl (lv_at hl 2 rfl) ?_
    refine lv_i2l (v := n.toInt64) hx hb dX9_noons_13 rfl ?_
    refine lv_lconst (v := 0) hx hb dX9_noons_14 (by decide) ?_
    refine lv_ldc2 (v := 60) hx hb hown (hts _ kw_248) dX9_noons_15 ?_
    refine q_Si (na := 3) (As := [.long n.toInt64, .long 0, .long 60]) (rest := []) X hD hN h (c_M_in l G cI cB cZ cO ad w2 n.toInt64 0 60 ((n).toInt) 0 60 (Int32.toInt_toInt64 _) rfl rfl) ⟨kw_188, kw_189, kw_190, kw_191⟩ ⟨by decide, by decide, by decide⟩ ⟨Nat.le_of_ble_eq_true rfl, Nat.le_of_ble_eq_true rfl⟩ ⟨Nat.zero_le _, Nat.zero_le _⟩ rfl hl.1 rfl (Nat.le_of_ble_eq_true rfl) dX9_noons_18 (fun r6 w7 H locs hp8 h => ?_)
    obtain ⟨e9, hp8⟩ := hp8
    rcases hp8 with ⟨hq10a, hq10b, rfl⟩ | ⟨hq10, rfl⟩
    · refine lv_if_ne (tgt := 31) hx hb dX9_noons_21 (by decide) (fun _ => ?_) (fun hc => absurd hc (by decide))
      refine lv_iload_n hx hb dX9_noons_31 rfl (lv_at hl 1 rfl) ?_
      refine lv_i2l (v := x.toInt64) hx hb dX9_noons_32 rfl ?_
      refine lv_lstore_n (lv' := [(3, .long x.toInt64), (0, .ref (ad 64)), (1, .int x), (2, .int n)]) hx hb dX9_noons_33 rfl hl (by decide) rfl (fun ls hl => ?_)
      refine lv_aload_n hx hb dX9_noons_34 rfl (lv_at hl 1 rfl) ?_
      have f11 : w 64 = .inr (7, [.ref (ad 65), .ref (ad 66), .ref (ad 67), .ref (ad 68), .long 0, .long 1, .ref (ad 69), .int 0, .ref (ad 70), .ref (ad 71), .int 0, .int 0, .int 0, .int 0, .int 0, .ref (ad 72), .ref (ad 73)]) := F 64 (by decide) (by decide)
      have f12 : w2 64 = .inr (7, [.ref (ad 65), .ref (ad 66), .ref (ad 67), .ref (ad 68), .long 0, .long 1, .ref (ad 69), .int 0, .ref (ad 70), .ref (ad 71), .int 0, .int 0, .int 0, .int 0, .int 0, .ref (ad 72), .ref (ad 73)]) := by rw [e4]; exact f11
      have f13 : w7 64 = .inr (7, [.ref (ad 65), .ref (ad 66), .ref (ad 67), .ref (ad 68), .long 0, .long 1, .ref (ad 69), .int 0, .ref (ad 70), .ref (ad 71), .int 0, .int 0, .int 0, .int 0, .int 0, .ref (ad 72), .ref (ad 73)]) := by rw [e9]; exact f12
      have f14 : w 65 = .inl (cI, 177, .inl (fun _ => 0)) := F 65 (by decide) (by decide)
      have f15 : w2 65 = .inl (cI, 177, .inl (fun _ => 0)) := by rw [e4]; exact f14
      have f16 : w7 65 = .inl (cI, 177, .inl (fun _ => 0)) := by rw [e9]; exact f15
      have f17 : w 69 = .inl (cI, 41, .inl (fun _ => 0)) := F 69 (by decide) (by decide)
      have f18 : w2 69 = .inl (cI, 41, .inl (fun _ => 0)) := by rw [e4]; exact f17
      have f19 : w7 69 = .inl (cI, 41, .inl (fun _ => 0)) := by rw [e9]; exact f18
      refine q_Vv (na := 0) (As := []) (rest := []) X hD hN h rfl (c_M_layHand l G cI cB cZ cO ad w7 f13 f16 f19) ⟨kw_283, kw_284, kw_285, kw_190, kw_286⟩ rfl ⟨by decide, by decide, by decide⟩ ⟨Nat.le_of_ble_eq_true rfl, Nat.le_of_ble_eq_true rfl⟩ ⟨Nat.zero_le _, Nat.zero_le _⟩ (by decide) f13 rfl rfl hl.1 rfl (Nat.le_of_ble_eq_true rfl) dX9_noons_35 (fun w21 H locs hp22 h => ?_)
      obtain ⟨f23, hf24⟩ := hp22
      have f25 : w21 69 = .inl (cI, 41, .inl (hz 0 0)) := by rw [f23, hz00]
      refine lv_iconst (v := 0) hx hb dX9_noons_38 (by decide) ?_
      refine lv_istore (lv' := [(5, .int 0), (3, .long x.toInt64), (0, .ref (ad 64)), (1, .int x), (2, .int n)]) hx hb dX9_noons_39 hl (by decide) rfl (fun ls hl => ?_)
      have hloop26 : ∀ (d : Nat) (k : Int32) (y : Int64) (q : Int32) (wL : Nat → va_E) (H : Heap) (locs : List Loc) (ls : Array Slot), 0 ≤ k.toInt → k.toInt ≤ n.toInt → wL 69 = .inl (cI, 41, .inl (hz 0 q)) → (∀ k, k ≠ 69 → wL k = w21 k) → n.toInt - k.toInt < (d : Int) → St G 74 ad (wA 74 ad s.heap.size) s.heap wL H locs → lv_has ls 9 [(0, .ref (ad 64)), (1, .int x), (2, .int n), (3, .long y), (5, .int k)] → W p l e { frames := 2, cells := 0, slots := 0, locals := 46 } s m [.ref (ad 64), .int x, .int n].toArray below meth c H locs 0 0 (MQ below (va_Qi (fun r w1 => (0 ≤ x.toInt ∧ x.toInt ≤ 999999 ∧ 0 ≤ n.toInt ∧ n.toInt ≤ 60 → r = 0) ∧ (¬ (0 ≤ x.toInt ∧ x.toInt ≤ 999999 ∧ 0 ≤ n.toInt ∧ n.toInt ≤ 60) → r = -2)) (Aft G 74 ad) (wA 74 ad s.heap.size)) [.ref (ad 64), .int x, .int n].toArray s 0 0 (wA 74 ad s.heap.size)) (F0 m 41 ls []) := by
        intro d
        induction d with
        | zero => intro k y q wL H locs ls hk0 hk1 g69 hfr hm h hl; exfalso; omega
        | succ d ih =>
          intro k y q wL H locs ls hk0 hk1 g69 hfr hm h hl
          refine lv_iload hx hb dX9_noons_41 (lv_at hl 4 rfl) ?_
          refine lv_iload_n hx hb dX9_noons_43 rfl (lv_at hl 2 rfl) ?_
          refine lv_icmp_ge (tgt := 158) hx hb dX9_noons_44 (by decide) (fun hc27 => ?_) (fun hc27 => ?_)
          · have hc27 : (n).toInt ≤ (k).toInt := i_le hc27 rfl rfl
            refine lv_aload_n hx hb dX9_noons_158 rfl (lv_at hl 0 rfl) ?_
            have f28 : w21 64 = .inr (7, [.ref (ad 65), .ref (ad 66), .ref (ad 67), .ref (ad 68), .long 0, .long 1, .ref (ad 69), .int 0, .ref (ad 70), .ref (ad 71), .int 0, .int 0, .int 0, .int 0, .int 0, .ref (ad 72), .ref (ad 73)]) := (hf24 64 (by decide)).trans f13
            have f29 : wL 64 = .inr (7, [.ref (ad 65), .ref (ad 66), .ref (ad 67), .ref (ad 68), .long 0, .long 1, .ref (ad 69), .int 0, .ref (ad 70), .ref (ad 71), .int 0, .int 0, .int 0, .int 0, .int 0, .ref (ad 72), .ref (ad 73)]) := (hfr 64 (by decide)).trans f28
            refine r_get kc9 X h 64 6 (by decide) rfl f29 (by decide) kw_281 rfl dX9_noons_159 ?_
            refine q_Si (na := 1) (As := [.ref (ad 69)]) (rest := []) X hD hN h (c_M_coolOf69 l G cI cB cZ cO ad wL _ g69) ⟨kw_265, kw_266, kw_190, kw_267⟩ ⟨by decide, by decide, by decide⟩ ⟨Nat.le_of_ble_eq_true rfl, Nat.le_of_ble_eq_true rfl⟩ ⟨Nat.zero_le _, Nat.zero_le _⟩ rfl hl.1 rfl (Nat.le_of_ble_eq_true rfl) dX9_noons_162 (fun r30 w31 H locs hp32 h => ?_)
            obtain ⟨e33, rfl⟩ := hp32
            exact e_i X h hr hlk dX9_noons_165 ⟨fun _ => by first | rfl | omega, fun _ => by first | rfl | omega⟩
          · have hc27 : ¬ (n).toInt ≤ (k).toInt := i_nle hc27 rfl rfl
            refine lv_lload_n hx hb dX9_noons_47 rfl (lv_at hl 3 rfl) ?_
            refine lv_ldc2 (v := 1103515245) hx hb hown (hts _ kw_287) dX9_noons_48 ?_
            refine o_lmul (z := y * 1103515245) hx hb dX9_noons_51 rfl ?_
            refine lv_ldc2 (v := 12345) hx hb hown (hts _ kw_288) dX9_noons_52 ?_
            refine o_ladd (z := (y * 1103515245) + 12345) hx hb dX9_noons_55 rfl ?_
            refine lv_ldc2 (v := 2147483648) hx hb hown (hts _ kw_289) dX9_noons_56 ?_
            refine o_lrem (z := ((y * 1103515245) + 12345) - ((y * 1103515245) + 12345) / 2147483648 * 2147483648) hx hb dX9_noons_59 (by decide) rfl ?_
            refine lv_lstore_n (lv' := [(3, .long (((y * 1103515245) + 12345) - ((y * 1103515245) + 12345) / 2147483648 * 2147483648)), (0, .ref (ad 64)), (1, .int x), (2, .int n), (5, .int k)]) hx hb dX9_noons_60 rfl hl (by decide) rfl (fun ls hl => ?_)
            refine lv_lload_n hx hb dX9_noons_61 rfl (lv_at hl 0 rfl) ?_
            refine lv_ldc2 (v := 65536) hx hb hown (hts _ kw_290) dX9_noons_62 ?_
            refine o_ldiv (z := (((y * 1103515245) + 12345) - ((y * 1103515245) + 12345) / 2147483648 * 2147483648) / 65536) hx hb dX9_noons_65 (by decide) rfl ?_
            refine lv_ldc2 (v := 7) hx hb hown (hts _ kw_291) dX9_noons_66 ?_
            refine o_lrem (z := ((((y * 1103515245) + 12345) - ((y * 1103515245) + 12345) / 2147483648 * 2147483648) / 65536) - ((((y * 1103515245) + 12345) - ((y * 1103515245) + 12345) / 2147483648 * 2147483648) / 65536) / 7 * 7) hx hb dX9_noons_69 (by decide) rfl ?_
            refine lv_l2i (v := (((((y * 1103515245) + 12345) - ((y * 1103515245) + 12345) / 2147483648 * 2147483648) / 65536) - ((((y * 1103515245) + 12345) - ((y * 1103515245) + 12345) / 2147483648 * 2147483648) / 65536) / 7 * 7).toInt32) hx hb dX9_noons_70 rfl ?_
            refine lv_istore (lv' := [(6, .int ((((((y * 1103515245) + 12345) - ((y * 1103515245) + 12345) / 2147483648 * 2147483648) / 65536) - ((((y * 1103515245) + 12345) - ((y * 1103515245) + 12345) / 2147483648 * 2147483648) / 65536) / 7 * 7).toInt32)), (3, .long (((y * 1103515245) + 12345) - ((y * 1103515245) + 12345) / 2147483648 * 2147483648)), (0, .ref (ad 64)), (1, .int x), (2, .int n), (5, .int k)]) hx hb dX9_noons_71 hl (by decide) rfl (fun ls hl => ?_)
            refine lv_lload_n hx hb dX9_noons_73 rfl (lv_at hl 1 rfl) ?_
            refine lv_ldc2 (v := 1048576) hx hb hown (hts _ kw_292) dX9_noons_74 ?_
            refine o_ldiv (z := (((y * 1103515245) + 12345) - ((y * 1103515245) + 12345) / 2147483648 * 2147483648) / 1048576) hx hb dX9_noons_77 (by decide) rfl ?_
            refine lv_ldc2 (v := 4) hx hb hown (hts _ kw_293) dX9_noons_78 ?_
            refine o_lrem (z := ((((y * 1103515245) + 12345) - ((y * 1103515245) + 12345) / 2147483648 * 2147483648) / 1048576) - ((((y * 1103515245) + 12345) - ((y * 1103515245) + 12345) / 2147483648 * 2147483648) / 1048576) / 4 * 4) hx hb dX9_noons_81 (by decide) rfl ?_
            refine lv_l2i (v := (((((y * 1103515245) + 12345) - ((y * 1103515245) + 12345) / 2147483648 * 2147483648) / 1048576) - ((((y * 1103515245) + 12345) - ((y * 1103515245) + 12345) / 2147483648 * 2147483648) / 1048576) / 4 * 4).toInt32) hx hb dX9_noons_82 rfl ?_
            refine lv_istore (lv' := [(7, .int ((((((y * 1103515245) + 12345) - ((y * 1103515245) + 12345) / 2147483648 * 2147483648) / 1048576) - ((((y * 1103515245) + 12345) - ((y * 1103515245) + 12345) / 2147483648 * 2147483648) / 1048576) / 4 * 4).toInt32)), (6, .int ((((((y * 1103515245) + 12345) - ((y * 1103515245) + 12345) / 2147483648 * 2147483648) / 65536) - ((((y * 1103515245) + 12345) - ((y * 1103515245) + 12345) / 2147483648 * 2147483648) / 65536) / 7 * 7).toInt32)), (3, .long (((y * 1103515245) + 12345) - ((y * 1103515245) + 12345) / 2147483648 * 2147483648)), (0, .ref (ad 64)), (1, .int x), (2, .int n), (5, .int k)]) hx hb dX9_noons_83 hl (by decide) rfl (fun ls hl => ?_)
            refine lv_aload_n hx hb dX9_noons_85 rfl (lv_at hl 3 rfl) ?_
            refine lv_iload hx hb dX9_noons_86 (lv_at hl 1 rfl) ?_
            have f34 : w21 64 = .inr (7, [.ref (ad 65), .ref (ad 66), .ref (ad 67), .ref (ad 68), .long 0, .long 1, .ref (ad 69), .int 0, .ref (ad 70), .ref (ad 71), .int 0, .int 0, .int 0, .int 0, .int 0, .ref (ad 72), .ref (ad 73)]) := (hf24 64 (by decide)).trans f13
            have f35 : wL 64 = .inr (7, [.ref (ad 65), .ref (ad 66), .ref (ad 67), .ref (ad 68), .long 0, .long 1, .ref (ad 69), .int 0, .ref (ad 70), .ref (ad 71), .int 0, .int 0, .int 0, .int 0, .int 0, .ref (ad 72), .ref (ad 73)]) := (hfr 64 (by decide)).trans f34
            have f36 : w21 65 = .inl (cI, 177, .inl (fun _ => 0)) := (hf24 65 (by decide)).trans f16
            have f37 : wL 65 = .inl (cI, 177, .inl (fun _ => 0)) := (hfr 65 (by decide)).trans f36
            refine q_Vi (na := 1) (As := [.int ((((((y * 1103515245) + 12345) - ((y * 1103515245) + 12345) / 2147483648 * 2147483648) / 65536) - ((((y * 1103515245) + 12345) - ((y * 1103515245) + 12345) / 2147483648 * 2147483648) / 65536) / 7 * 7).toInt32)]) (rest := []) X hD hN h rfl (c_M_isCaster l G cI cB cZ cO ad wL ((((((y * 1103515245) + 12345) - ((y * 1103515245) + 12345) / 2147483648 * 2147483648) / 65536) - ((((y * 1103515245) + 12345) - ((y * 1103515245) + 12345) / 2147483648 * 2147483648) / 65536) / 7 * 7).toInt32) f35 f37) ⟨kw_195, kw_196, kw_197, kw_190, kw_198⟩ rfl ⟨by decide, by decide, by decide⟩ ⟨Nat.le_of_ble_eq_true rfl, Nat.le_of_ble_eq_true rfl⟩ ⟨Nat.zero_le _, Nat.zero_le _⟩ (by decide) f35 rfl rfl hl.1 rfl (Nat.le_of_ble_eq_true rfl) dX9_noons_88 (fun r38 w39 H locs hp40 h => ?_)
            obtain ⟨e41, rfl⟩ := hp40
            refine lv_if_eq (tgt := 131) hx hb dX9_noons_91 (by decide) (fun _ => ?_) (fun hc => absurd (by decide) hc)
            refine lv_lload_n hx hb dX9_noons_131 rfl (lv_at hl 2 rfl) ?_
            refine lv_ldc2 (v := 16384) hx hb hown (hts _ kw_294) dX9_noons_132 ?_
            refine o_ldiv (z := (((y * 1103515245) + 12345) - ((y * 1103515245) + 12345) / 2147483648 * 2147483648) / 16384) hx hb dX9_noons_135 (by decide) rfl ?_
            refine lv_ldc2 (v := 2) hx hb hown (hts _ kw_263) dX9_noons_136 ?_
            refine o_lrem (z := ((((y * 1103515245) + 12345) - ((y * 1103515245) + 12345) / 2147483648 * 2147483648) / 16384) - ((((y * 1103515245) + 12345) - ((y * 1103515245) + 12345) / 2147483648 * 2147483648) / 16384) / 2 * 2) hx hb dX9_noons_139 (by decide) rfl ?_
            refine lv_lconst (v := 0) hx hb dX9_noons_140 (by decide) ?_
            refine W.lcmp hx hb dX9_noons_141 ?_
            refine lv_if_ne (tgt := 152) hx hb dX9_noons_142 (by decide) (fun hc42 => ?_) (fun hc42 => ?_)
            · have hc42 : ¬ (((((y * 1103515245) + 12345) - ((y * 1103515245) + 12345) / 2147483648 * 2147483648) / 16384) - ((((y * 1103515245) + 12345) - ((y * 1103515245) + 12345) / 2147483648 * 2147483648) / 16384) / 2 * 2).toInt = 0 := lcm_ne hc42 rfl rfl
              refine lv_iinc (v := k + 1) (lv' := [(5, .int (k + 1)), (7, .int ((((((y * 1103515245) + 12345) - ((y * 1103515245) + 12345) / 2147483648 * 2147483648) / 1048576) - ((((y * 1103515245) + 12345) - ((y * 1103515245) + 12345) / 2147483648 * 2147483648) / 1048576) / 4 * 4).toInt32)), (6, .int ((((((y * 1103515245) + 12345) - ((y * 1103515245) + 12345) / 2147483648 * 2147483648) / 65536) - ((((y * 1103515245) + 12345) - ((y * 1103515245) + 12345) / 2147483648 * 2147483648) / 65536) / 7 * 7).toInt32)), (3, .long (((y * 1103515245) + 12345) - ((y * 1103515245) + 12345) / 2147483648 * 2147483648)), (0, .ref (ad 64)), (1, .int x), (2, .int n)]) hx hb dX9_noons_152 hl (k := 6) rfl rfl (by decide) rfl (fun ls hl => ?_)
              refine lv_goto (tgt := 41) hx hb dX9_noons_155 (by decide) ?_
              have hi : (k + 1).toInt = k.toInt + 1 := inc1 (by omega) (by omega)
              have f43 : w39 69 = .inl (cI, 41, .inl (hz 0 q)) := by rw [e41]; exact g69
              exact ih (k + 1) (((y * 1103515245) + 12345) - ((y * 1103515245) + 12345) / 2147483648 * 2147483648) q w39 _ _ _ (by omega) (by omega) f43 (fun k h0 => (congrFun e41 k).trans (hfr k (by omega))) (by omega) h (lv_sub hl [4, 5, 6, 3, 0] rfl)
            · have hc42 : (((((y * 1103515245) + 12345) - ((y * 1103515245) + 12345) / 2147483648 * 2147483648) / 16384) - ((((y * 1103515245) + 12345) - ((y * 1103515245) + 12345) / 2147483648 * 2147483648) / 16384) / 2 * 2).toInt = 0 := lcm_eq hc42 rfl rfl
              refine lv_aload_n hx hb dX9_noons_145 rfl (lv_at hl 3 rfl) ?_
              have f44 : w39 64 = .inr (7, [.ref (ad 65), .ref (ad 66), .ref (ad 67), .ref (ad 68), .long 0, .long 1, .ref (ad 69), .int 0, .ref (ad 70), .ref (ad 71), .int 0, .int 0, .int 0, .int 0, .int 0, .ref (ad 72), .ref (ad 73)]) := by rw [e41]; exact f35
              refine r_get kc9 X h 64 6 (by decide) rfl f44 (by decide) kw_281 rfl dX9_noons_146 ?_
              have f45 : w39 69 = .inl (cI, 41, .inl (hz 0 q)) := by rw [e41]; exact g69
              refine q_Sv (na := 1) (As := [.ref (ad 69)]) (rest := []) X hD hN h (c_M_goHour69 l G cI cB cZ cO ad w39 _ _ f45) ⟨kw_245, kw_246, kw_190, kw_247⟩ ⟨by decide, by decide, by decide⟩ ⟨Nat.le_of_ble_eq_true rfl, Nat.le_of_ble_eq_true rfl⟩ ⟨Nat.zero_le _, Nat.zero_le _⟩ rfl hl.1 rfl (Nat.le_of_ble_eq_true rfl) dX9_noons_149 (fun w47 H locs hp48 h => ?_)
              obtain ⟨f49, hf50⟩ := hp48
              refine lv_iinc (v := k + 1) (lv' := [(5, .int (k + 1)), (7, .int ((((((y * 1103515245) + 12345) - ((y * 1103515245) + 12345) / 2147483648 * 2147483648) / 1048576) - ((((y * 1103515245) + 12345) - ((y * 1103515245) + 12345) / 2147483648 * 2147483648) / 1048576) / 4 * 4).toInt32)), (6, .int ((((((y * 1103515245) + 12345) - ((y * 1103515245) + 12345) / 2147483648 * 2147483648) / 65536) - ((((y * 1103515245) + 12345) - ((y * 1103515245) + 12345) / 2147483648 * 2147483648) / 65536) / 7 * 7).toInt32)), (3, .long (((y * 1103515245) + 12345) - ((y * 1103515245) + 12345) / 2147483648 * 2147483648)), (0, .ref (ad 64)), (1, .int x), (2, .int n)]) hx hb dX9_noons_152 hl (k := 6) rfl rfl (by decide) rfl (fun ls hl => ?_)
              refine lv_goto (tgt := 41) hx hb dX9_noons_155 (by decide) ?_
              have hi : (k + 1).toInt = k.toInt + 1 := inc1 (by omega) (by omega)
              exact ih (k + 1) (((y * 1103515245) + 12345) - ((y * 1103515245) + 12345) / 2147483648 * 2147483648) (q + 1) w47 _ _ _ (by omega) (by omega) f49 (fun k h0 => (hf50 k (by omega)).trans ((congrFun e41 k).trans (hfr k (by omega)))) (by omega) h (lv_sub hl [4, 5, 6, 3, 0] rfl)
      exact hloop26 61 0 x.toInt64 0 w21 _ _ _ (by decide) (by have : (0 : Int32).toInt = 0 := rfl; omega) f25 (fun k _ => rfl) (by have : (0 : Int32).toInt = 0 := rfl; omega) h (lv_sub hl [2, 3, 4, 1, 0] rfl)
    · refine lv_if_ne (tgt := 31) hx hb dX9_noons_21 (by decide) (fun hc => absurd (by decide) hc) (fun _ => ?_)
      refine lv_aload_n hx hb dX9_noons_24 rfl (lv_at hl 0 rfl) ?_
      refine lv_bipush (v := (-2)) hx hb dX9_noons_25 (by decide) ?_
      have f51 : w 64 = .inr (7, [.ref (ad 65), .ref (ad 66), .ref (ad 67), .ref (ad 68), .long 0, .long 1, .ref (ad 69), .int 0, .ref (ad 70), .ref (ad 71), .int 0, .int 0, .int 0, .int 0, .int 0, .ref (ad 72), .ref (ad 73)]) := F 64 (by decide) (by decide)
      have f52 : w2 64 = .inr (7, [.ref (ad 65), .ref (ad 66), .ref (ad 67), .ref (ad 68), .long 0, .long 1, .ref (ad 69), .int 0, .ref (ad 70), .ref (ad 71), .int 0, .int 0, .int 0, .int 0, .int 0, .ref (ad 72), .ref (ad 73)]) := by rw [e4]; exact f51
      have f53 : w7 64 = .inr (7, [.ref (ad 65), .ref (ad 66), .ref (ad 67), .ref (ad 68), .long 0, .long 1, .ref (ad 69), .int 0, .ref (ad 70), .ref (ad 71), .int 0, .int 0, .int 0, .int 0, .int 0, .ref (ad 72), .ref (ad 73)]) := by rw [e9]; exact f52
      have f54 : w 68 = .inl (cI, 3, .inl (fun _ => 0)) := F 68 (by decide) (by decide)
      have f55 : w2 68 = .inl (cI, 3, .inl (fun _ => 0)) := by rw [e4]; exact f54
      have f56 : w7 68 = .inl (cI, 3, .inl (fun _ => 0)) := by rw [e9]; exact f55
      refine q_Vi (na := 1) (As := [.int (-2)]) (rest := []) X hD hN h rfl (c_M_bad l G cI cB cZ cO ad w7 (-2) f53 f56) ⟨kw_199, kw_200, kw_201, kw_190, kw_202⟩ rfl ⟨by decide, by decide, by decide⟩ ⟨Nat.le_of_ble_eq_true rfl, Nat.le_of_ble_eq_true rfl⟩ ⟨Nat.zero_le _, Nat.zero_le _⟩ (by decide) f53 rfl rfl hl.1 rfl (Nat.le_of_ble_eq_true rfl) dX9_noons_27 (fun r57 w58 H locs hp59 h => ?_)
      obtain ⟨rfl, hf60⟩ := hp59
      exact e_i X h hr hlk dX9_noons_30 ⟨fun _ => by first | rfl | omega, fun _ => by first | rfl | omega⟩
  · refine lv_if_eq (tgt := 24) hx hb dX9_noons_9 (by decide) (fun _ => ?_) (fun hc => absurd (by decide) hc)
    refine lv_aload_n hx hb dX9_noons_24 rfl (lv_at hl 0 rfl) ?_
    refine lv_bipush (v := (-2)) hx hb dX9_noons_25 (by decide) ?_
    have f61 : w 64 = .inr (7, [.ref (ad 65), .ref (ad 66), .ref (ad 67), .ref (ad 68), .long 0, .long 1, .ref (ad 69), .int 0, .ref (ad 70), .ref (ad 71), .int 0, .int 0, .int 0, .int 0, .int 0, .ref (ad 72), .ref (ad 73)]) := F 64 (by decide) (by decide)
    have f62 : w2 64 = .inr (7, [.ref (ad 65), .ref (ad 66), .ref (ad 67), .ref (ad 68), .long 0, .long 1, .ref (ad 69), .int 0, .ref (ad 70), .ref (ad 71), .int 0, .int 0, .int 0, .int 0, .int 0, .ref (ad 72), .ref (ad 73)]) := by rw [e4]; exact f61
    have f63 : w 68 = .inl (cI, 3, .inl (fun _ => 0)) := F 68 (by decide) (by decide)
    have f64 : w2 68 = .inl (cI, 3, .inl (fun _ => 0)) := by rw [e4]; exact f63
    refine q_Vi (na := 1) (As := [.int (-2)]) (rest := []) X hD hN h rfl (c_M_bad l G cI cB cZ cO ad w2 (-2) f62 f64) ⟨kw_199, kw_200, kw_201, kw_190, kw_202⟩ rfl ⟨by decide, by decide, by decide⟩ ⟨Nat.le_of_ble_eq_true rfl, Nat.le_of_ble_eq_true rfl⟩ ⟨Nat.zero_le _, Nat.zero_le _⟩ (by decide) f62 rfl rfl hl.1 rfl (Nat.le_of_ble_eq_true rfl) dX9_noons_27 (fun r65 w66 H locs hp67 h => ?_)
    obtain ⟨rfl, hf68⟩ := hp67
    exact e_i X h hr hlk dX9_noons_30 ⟨fun _ => by first | rfl | omega, fun _ => by first | rfl | omega⟩
