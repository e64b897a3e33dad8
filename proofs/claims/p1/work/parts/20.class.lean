set_option maxHeartbeats 4000000 in
set_option maxRecDepth 100000 in
theorem c_X_ladle (l : Launch) (G : va_G) (cI cB cZ cO : ClassId) (ad : Nat → Nat) (w : Nat → va_E) (F : ∀ k, k < 74 → w k = fr0 cI cB cZ cO ad k) (i j : Int32) : MI l G (tyq cI cB cZ cO) yX8_ladle cX8_ladle 3 (some .int) 1 21 74 ad w [.ref (ad 0), .int i, .int j] (fun r w1 => r = (-2) ∧ ∀ k, 64 ≤ k → w1 k = w k) := by
  refine mk_i (own := "NoonShade") rfl (by decide) (Nat.le_of_ble_eq_true rfl) ?_
  intro p e s m below meth c ls X hD hN hr hlk h hl
  have hx := X.1.1
  have hb := X.1.2.1
  have hown := X.1.2.2.2.1
  have hts := X.1.2.2.2.2
  have hl : lv_has ls 3 [(0, .ref (ad 0)), (1, .int i), (2, .int j)] := hl
  refine lv_aload_n hx hb dX8_ladle_0 rfl (lv_at hl 0 rfl) ?_
  have f1 : w 0 = .inr (6, [.ref (ad 1), .ref (ad 14), .ref (ad 27), .ref (ad 54), .ref (ad 55), .ref (ad 58), .ref (ad 62), .long 0, .long 1, .int 0, .int 0, .int 0]) := F 0 (by decide)
  refine r_get kc8 X h 0 0 (by decide) rfl f1 (by decide) kw_5 rfl dX8_ladle_1 ?_
  refine lv_iload_n hx hb dX8_ladle_4 rfl (lv_at hl 1 rfl) ?_
  have f2 : w 1 = .inr (1, [.int 0, .int 0, .int 0, .int 0, .int 0, .ref (ad 2), .ref (ad 3), .ref (ad 4), .ref (ad 5), .ref (ad 6), .ref (ad 7), .ref (ad 8), .ref (ad 10), .ref (ad 12)]) := F 1 (by decide)
  refine q_Vi (na := 1) (As := [.int i]) (rest := []) X hD hN h rfl (c_hasCaster l G cI cB cZ cO ad w 1 _ _ _ _ _ _ i 0 rfl (by decide) f2) ⟨kw_6, kw_7, kw_8, kw_9, kw_10⟩ rfl ⟨by decide, by decide, by decide⟩ ⟨Nat.le_of_ble_eq_true rfl, Nat.le_of_ble_eq_true rfl⟩ ⟨Nat.zero_le _, Nat.zero_le _⟩ (by decide) f2 rfl rfl hl.1 rfl (Nat.le_of_ble_eq_true rfl) dX8_ladle_5 (fun r3 w4 H locs hp5 h => ?_)
  obtain ⟨e6, hp5⟩ := hp5
  rcases hp5 with ⟨hq7a, hq7b, rfl⟩ | ⟨hq7, rfl⟩
  · exfalso; omega
  · refine lv_if_eq (tgt := 22) hx hb dX8_ladle_8 (by decide) (fun _ => ?_) (fun hc => absurd (by decide) hc)
    refine lv_aload_n hx hb dX8_ladle_22 rfl (lv_at hl 0 rfl) ?_
    refine lv_bipush (v := (-2)) hx hb dX8_ladle_23 (by decide) ?_
    have f8 : w4 0 = .inr (6, [.ref (ad 1), .ref (ad 14), .ref (ad 27), .ref (ad 54), .ref (ad 55), .ref (ad 58), .ref (ad 62), .long 0, .long 1, .int 0, .int 0, .int 0]) := by rw [e6]; exact f1
    refine q_Vi (na := 1) (As := [.int (-2)]) (rest := []) X hD hN h rfl (c_refused l G cI cB cZ cO ad w4 _ _ _ _ _ _ _ _ _ _ _ _ (-2) f8) ⟨kw_11, kw_12, kw_13, kw_14, kw_15⟩ rfl ⟨by decide, by decide, by decide⟩ ⟨Nat.le_of_ble_eq_true rfl, Nat.le_of_ble_eq_true rfl⟩ ⟨Nat.zero_le _, Nat.zero_le _⟩ (by decide) f8 rfl rfl hl.1 rfl (Nat.le_of_ble_eq_true rfl) dX8_ladle_25 (fun r9 w10 H locs hp11 h => ?_)
    obtain ⟨rfl, x12, y13, z14, e15⟩ := hp11
    have f16 : w10 0 = .inr (6, [.ref (ad 1), .ref (ad 14), .ref (ad 27), .ref (ad 54), .ref (ad 55), .ref (ad 58), .ref (ad 62), .long 0, .long 1, .int x12, .int y13, .int z14]) := (congrFun e15 _).trans (va_up_self _ _ _)
    exact e_i X h hr hlk dX8_ladle_28 ⟨rfl, fun k hk => ((congrFun e15 k).trans (va_up_ne _ _ (by omega))).trans (congrFun e6 k)⟩

set_option maxHeartbeats 4000000 in
set_option maxRecDepth 100000 in
theorem c_X_pours (l : Launch) (G : va_G) (cI cB cZ cO : ClassId) (ad : Nat → Nat) (w : Nat → va_E) (F : ∀ k, k < 74 → w k = fr0 cI cB cZ cO ad k) (j k : Int32) : MI l G (tyq cI cB cZ cO) yX8_pours cX8_pours 3 (some .int) 1 21 74 ad w [.ref (ad 0), .int j, .int k] (fun r w1 => r = (-2) ∧ ∀ k, 64 ≤ k → w1 k = w k) := by
  refine mk_i (own := "NoonShade") rfl (by decide) (Nat.le_of_ble_eq_true rfl) ?_
  intro p e s m below meth c ls X hD hN hr hlk h hl
  have hx := X.1.1
  have hb := X.1.2.1
  have hown := X.1.2.2.2.1
  have hts := X.1.2.2.2.2
  have hl : lv_has ls 3 [(0, .ref (ad 0)), (1, .int j), (2, .int k)] := hl
  refine lv_aload_n hx hb dX8_pours_0 rfl (lv_at hl 0 rfl) ?_
  have f1 : w 0 = .inr (6, [.ref (ad 1), .ref (ad 14), .ref (ad 27), .ref (ad 54), .ref (ad 55), .ref (ad 58), .ref (ad 62), .long 0, .long 1, .int 0, .int 0, .int 0]) := F 0 (by decide)
  refine r_get kc8 X h 0 0 (by decide) rfl f1 (by decide) kw_5 rfl dX8_pours_1 ?_
  refine lv_iload_n hx hb dX8_pours_4 rfl (lv_at hl 1 rfl) ?_
  have f2 : w 1 = .inr (1, [.int 0, .int 0, .int 0, .int 0, .int 0, .ref (ad 2), .ref (ad 3), .ref (ad 4), .ref (ad 5), .ref (ad 6), .ref (ad 7), .ref (ad 8), .ref (ad 10), .ref (ad 12)]) := F 1 (by decide)
  refine q_Vi (na := 1) (As := [.int j]) (rest := []) X hD hN h rfl (c_hasJar l G cI cB cZ cO ad w 1 _ _ _ _ _ _ j 0 rfl (by decide) f2) ⟨kw_16, kw_17, kw_18, kw_9, kw_19⟩ rfl ⟨by decide, by decide, by decide⟩ ⟨Nat.le_of_ble_eq_true rfl, Nat.le_of_ble_eq_true rfl⟩ ⟨Nat.zero_le _, Nat.zero_le _⟩ (by decide) f2 rfl rfl hl.1 rfl (Nat.le_of_ble_eq_true rfl) dX8_pours_5 (fun r3 w4 H locs hp5 h => ?_)
  obtain ⟨e6, hp5⟩ := hp5
  rcases hp5 with ⟨hq7a, hq7b, rfl⟩ | ⟨hq7, rfl⟩
  · exfalso; omega
  · refine lv_if_eq (tgt := 27) hx hb dX8_pours_8 (by decide) (fun _ => ?_) (fun hc => absurd (by decide) hc)
    refine lv_aload_n hx hb dX8_pours_27 rfl (lv_at hl 0 rfl) ?_
    refine lv_bipush (v := (-2)) hx hb dX8_pours_28 (by decide) ?_
    have f8 : w4 0 = .inr (6, [.ref (ad 1), .ref (ad 14), .ref (ad 27), .ref (ad 54), .ref (ad 55), .ref (ad 58), .ref (ad 62), .long 0, .long 1, .int 0, .int 0, .int 0]) := by rw [e6]; exact f1
    refine q_Vi (na := 1) (As := [.int (-2)]) (rest := []) X hD hN h rfl (c_refused l G cI cB cZ cO ad w4 _ _ _ _ _ _ _ _ _ _ _ _ (-2) f8) ⟨kw_11, kw_12, kw_13, kw_14, kw_15⟩ rfl ⟨by decide, by decide, by decide⟩ ⟨Nat.le_of_ble_eq_true rfl, Nat.le_of_ble_eq_true rfl⟩ ⟨Nat.zero_le _, Nat.zero_le _⟩ (by decide) f8 rfl rfl hl.1 rfl (Nat.le_of_ble_eq_true rfl) dX8_pours_30 (fun r9 w10 H locs hp11 h => ?_)
    obtain ⟨rfl, x12, y13, z14, e15⟩ := hp11
    have f16 : w10 0 = .inr (6, [.ref (ad 1), .ref (ad 14), .ref (ad 27), .ref (ad 54), .ref (ad 55), .ref (ad 58), .ref (ad 62), .long 0, .long 1, .int x12, .int y13, .int z14]) := (congrFun e15 _).trans (va_up_self _ _ _)
    exact e_i X h hr hlk dX8_pours_33 ⟨rfl, fun k hk => ((congrFun e15 k).trans (va_up_ne _ _ (by omega))).trans (congrFun e6 k)⟩

set_option maxHeartbeats 4000000 in
set_option maxRecDepth 100000 in
theorem c_X_sells (l : Launch) (G : va_G) (cI cB cZ cO : ClassId) (ad : Nat → Nat) (w : Nat → va_E) (F : ∀ k, k < 74 → w k = fr0 cI cB cZ cO ad k) (j : Int32) : MI l G (tyq cI cB cZ cO) yX8_sells cX8_sells 2 (some .int) 1 21 74 ad w [.ref (ad 0), .int j] (fun r w1 => r = (-2) ∧ ∀ k, 64 ≤ k → w1 k = w k) := by
  refine mk_i (own := "NoonShade") rfl (by decide) (Nat.le_of_ble_eq_true rfl) ?_
  intro p e s m below meth c ls X hD hN hr hlk h hl
  have hx := X.1.1
  have hb := X.1.2.1
  have hown := X.1.2.2.2.1
  have hts := X.1.2.2.2.2
  have hl : lv_has ls 2 [(0, .ref (ad 0)), (1, .int j)] := hl
  refine lv_aload_n hx hb dX8_sells_0 rfl (lv_at hl 0 rfl) ?_
  have f1 : w 0 = .inr (6, [.ref (ad 1), .ref (ad 14), .ref (ad 27), .ref (ad 54), .ref (ad 55), .ref (ad 58), .ref (ad 62), .long 0, .long 1, .int 0, .int 0, .int 0]) := F 0 (by decide)
  refine r_get kc8 X h 0 0 (by decide) rfl f1 (by decide) kw_5 rfl dX8_sells_1 ?_
  refine lv_iload_n hx hb dX8_sells_4 rfl (lv_at hl 1 rfl) ?_
  have f2 : w 1 = .inr (1, [.int 0, .int 0, .int 0, .int 0, .int 0, .ref (ad 2), .ref (ad 3), .ref (ad 4), .ref (ad 5), .ref (ad 6), .ref (ad 7), .ref (ad 8), .ref (ad 10), .ref (ad 12)]) := F 1 (by decide)
  refine q_Vi (na := 1) (As := [.int j]) (rest := []) X hD hN h rfl (c_hasJar l G cI cB cZ cO ad w 1 _ _ _ _ _ _ j 0 rfl (by decide) f2) ⟨kw_16, kw_17, kw_18, kw_9, kw_19⟩ rfl ⟨by decide, by decide, by decide⟩ ⟨Nat.le_of_ble_eq_true rfl, Nat.le_of_ble_eq_true rfl⟩ ⟨Nat.zero_le _, Nat.zero_le _⟩ (by decide) f2 rfl rfl hl.1 rfl (Nat.le_of_ble_eq_true rfl) dX8_sells_5 (fun r3 w4 H locs hp5 h => ?_)
  obtain ⟨e6, hp5⟩ := hp5
  rcases hp5 with ⟨hq7a, hq7b, rfl⟩ | ⟨hq7, rfl⟩
  · exfalso; omega
  · refine lv_if_ne (tgt := 18) hx hb dX8_sells_8 (by decide) (fun hc => absurd hc (by decide)) (fun _ => ?_)
    refine lv_aload_n hx hb dX8_sells_11 rfl (lv_at hl 0 rfl) ?_
    refine lv_bipush (v := (-2)) hx hb dX8_sells_12 (by decide) ?_
    have f8 : w4 0 = .inr (6, [.ref (ad 1), .ref (ad 14), .ref (ad 27), .ref (ad 54), .ref (ad 55), .ref (ad 58), .ref (ad 62), .long 0, .long 1, .int 0, .int 0, .int 0]) := by rw [e6]; exact f1
    refine q_Vi (na := 1) (As := [.int (-2)]) (rest := []) X hD hN h rfl (c_refused l G cI cB cZ cO ad w4 _ _ _ _ _ _ _ _ _ _ _ _ (-2) f8) ⟨kw_11, kw_12, kw_13, kw_14, kw_15⟩ rfl ⟨by decide, by decide, by decide⟩ ⟨Nat.le_of_ble_eq_true rfl, Nat.le_of_ble_eq_true rfl⟩ ⟨Nat.zero_le _, Nat.zero_le _⟩ (by decide) f8 rfl rfl hl.1 rfl (Nat.le_of_ble_eq_true rfl) dX8_sells_14 (fun r9 w10 H locs hp11 h => ?_)
    obtain ⟨rfl, x12, y13, z14, e15⟩ := hp11
    have f16 : w10 0 = .inr (6, [.ref (ad 1), .ref (ad 14), .ref (ad 27), .ref (ad 54), .ref (ad 55), .ref (ad 58), .ref (ad 62), .long 0, .long 1, .int x12, .int y13, .int z14]) := (congrFun e15 _).trans (va_up_self _ _ _)
    exact e_i X h hr hlk dX8_sells_17 ⟨rfl, fun k hk => ((congrFun e15 k).trans (va_up_ne _ _ (by omega))).trans (congrFun e6 k)⟩

set_option maxHeartbeats 4000000 in
set_option maxRecDepth 100000 in
theorem c_X_of (l : Launch) (G : va_G) (cI cB cZ cO : ClassId) (ad : Nat → Nat) (w : Nat → va_E) (F : ∀ k, k < 74 → w k = fr0 cI cB cZ cO ad k) (i u : Int32) : MI l G (tyq cI cB cZ cO) yX8_of cX8_of 3 (some .int) 1 21 74 ad w [.ref (ad 0), .int i, .int u] (fun r w1 => r = (-2) ∧ ∀ k, 64 ≤ k → w1 k = w k) := by
  refine mk_i (own := "NoonShade") rfl (by decide) (Nat.le_of_ble_eq_true rfl) ?_
  intro p e s m below meth c ls X hD hN hr hlk h hl
  have hx := X.1.1
  have hb := X.1.2.1
  have hown := X.1.2.2.2.1
  have hts := X.1.2.2.2.2
  have hl : lv_has ls 3 [(0, .ref (ad 0)), (1, .int i), (2, .int u)] := hl
  refine lv_aload_n hx hb dX8_of_0 rfl (lv_at hl 0 rfl) ?_
  have f1 : w 0 = .inr (6, [.ref (ad 1), .ref (ad 14), .ref (ad 27), .ref (ad 54), .ref (ad 55), .ref (ad 58), .ref (ad 62), .long 0, .long 1, .int 0, .int 0, .int 0]) := F 0 (by decide)
  refine r_get kc8 X h 0 0 (by decide) rfl f1 (by decide) kw_5 rfl dX8_of_1 ?_
  refine lv_iload_n hx hb dX8_of_4 rfl (lv_at hl 1 rfl) ?_
  have f2 : w 1 = .inr (1, [.int 0, .int 0, .int 0, .int 0, .int 0, .ref (ad 2), .ref (ad 3), .ref (ad 4), .ref (ad 5), .ref (ad 6), .ref (ad 7), .ref (ad 8), .ref (ad 10), .ref (ad 12)]) := F 1 (by decide)
  refine q_Vi (na := 1) (As := [.int i]) (rest := []) X hD hN h rfl (c_hasCaster l G cI cB cZ cO ad w 1 _ _ _ _ _ _ i 0 rfl (by decide) f2) ⟨kw_6, kw_7, kw_8, kw_9, kw_10⟩ rfl ⟨by decide, by decide, by decide⟩ ⟨Nat.le_of_ble_eq_true rfl, Nat.le_of_ble_eq_true rfl⟩ ⟨Nat.zero_le _, Nat.zero_le _⟩ (by decide) f2 rfl rfl hl.1 rfl (Nat.le_of_ble_eq_true rfl) dX8_of_5 (fun r3 w4 H locs hp5 h => ?_)
  obtain ⟨e6, hp5⟩ := hp5
  rcases hp5 with ⟨hq7a, hq7b, rfl⟩ | ⟨hq7, rfl⟩
  · exfalso; omega
  · refine lv_if_ne (tgt := 18) hx hb dX8_of_8 (by decide) (fun hc => absurd hc (by decide)) (fun _ => ?_)
    refine lv_aload_n hx hb dX8_of_11 rfl (lv_at hl 0 rfl) ?_
    refine lv_bipush (v := (-2)) hx hb dX8_of_12 (by decide) ?_
    have f8 : w4 0 = .inr (6, [.ref (ad 1), .ref (ad 14), .ref (ad 27), .ref (ad 54), .ref (ad 55), .ref (ad 58), .ref (ad 62), .long 0, .long 1, .int 0, .int 0, .int 0]) := by rw [e6]; exact f1
    refine q_Vi (na := 1) (As := [.int (-2)]) (rest := []) X hD hN h rfl (c_refused l G cI cB cZ cO ad w4 _ _ _ _ _ _ _ _ _ _ _ _ (-2) f8) ⟨kw_11, kw_12, kw_13, kw_14, kw_15⟩ rfl ⟨by decide, by decide, by decide⟩ ⟨Nat.le_of_ble_eq_true rfl, Nat.le_of_ble_eq_true rfl⟩ ⟨Nat.zero_le _, Nat.zero_le _⟩ (by decide) f8 rfl rfl hl.1 rfl (Nat.le_of_ble_eq_true rfl) dX8_of_14 (fun r9 w10 H locs hp11 h => ?_)
    obtain ⟨rfl, x12, y13, z14, e15⟩ := hp11
    have f16 : w10 0 = .inr (6, [.ref (ad 1), .ref (ad 14), .ref (ad 27), .ref (ad 54), .ref (ad 55), .ref (ad 58), .ref (ad 62), .long 0, .long 1, .int x12, .int y13, .int z14]) := (congrFun e15 _).trans (va_up_self _ _ _)
    exact e_i X h hr hlk dX8_of_17 ⟨rfl, fun k hk => ((congrFun e15 k).trans (va_up_ne _ _ (by omega))).trans (congrFun e6 k)⟩

set_option maxHeartbeats 4000000 in
set_option maxRecDepth 100000 in
theorem c_X_about (l : Launch) (G : va_G) (cI cB cZ cO : ClassId) (ad : Nat → Nat) (w : Nat → va_E) (F : ∀ k, k < 74 → w k = fr0 cI cB cZ cO ad k) (j u : Int32) : MI l G (tyq cI cB cZ cO) yX8_about cX8_about 3 (some .int) 1 21 74 ad w [.ref (ad 0), .int j, .int u] (fun r w1 => r = (-2) ∧ ∀ k, 64 ≤ k → w1 k = w k) := by
  refine mk_i (own := "NoonShade") rfl (by decide) (Nat.le_of_ble_eq_true rfl) ?_
  intro p e s m below meth c ls X hD hN hr hlk h hl
  have hx := X.1.1
  have hb := X.1.2.1
  have hown := X.1.2.2.2.1
  have hts := X.1.2.2.2.2
  have hl : lv_has ls 3 [(0, .ref (ad 0)), (1, .int j), (2, .int u)] := hl
  refine lv_aload_n hx hb dX8_about_0 rfl (lv_at hl 0 rfl) ?_
  have f1 : w 0 = .inr (6, [.ref (ad 1), .ref (ad 14), .ref (ad 27), .ref (ad 54), .ref (ad 55), .ref (ad 58), .ref (ad 62), .long 0, .long 1, .int 0, .int 0, .int 0]) := F 0 (by decide)
  refine r_get kc8 X h 0 0 (by decide) rfl f1 (by decide) kw_5 rfl dX8_about_1 ?_
  refine lv_iload_n hx hb dX8_about_4 rfl (lv_at hl 1 rfl) ?_
  have f2 : w 1 = .inr (1, [.int 0, .int 0, .int 0, .int 0, .int 0, .ref (ad 2), .ref (ad 3), .ref (ad 4), .ref (ad 5), .ref (ad 6), .ref (ad 7), .ref (ad 8), .ref (ad 10), .ref (ad 12)]) := F 1 (by decide)
  refine q_Vi (na := 1) (As := [.int j]) (rest := []) X hD hN h rfl (c_hasJar l G cI cB cZ cO ad w 1 _ _ _ _ _ _ j 0 rfl (by decide) f2) ⟨kw_16, kw_17, kw_18, kw_9, kw_19⟩ rfl ⟨by decide, by decide, by decide⟩ ⟨Nat.le_of_ble_eq_true rfl, Nat.le_of_ble_eq_true rfl⟩ ⟨Nat.zero_le _, Nat.zero_le _⟩ (by decide) f2 rfl rfl hl.1 rfl (Nat.le_of_ble_eq_true rfl) dX8_about_5 (fun r3 w4 H locs hp5 h => ?_)
  obtain ⟨e6, hp5⟩ := hp5
  rcases hp5 with ⟨hq7a, hq7b, rfl⟩ | ⟨hq7, rfl⟩
  · exfalso; omega
  · refine lv_if_ne (tgt := 18) hx hb dX8_about_8 (by decide) (fun hc => absurd hc (by decide)) (fun _ => ?_)
    refine lv_aload_n hx hb dX8_about_11 rfl (lv_at hl 0 rfl) ?_
    refine lv_bipush (v := (-2)) hx hb dX8_about_12 (by decide) ?_
    have f8 : w4 0 = .inr (6, [.ref (ad 1), .ref (ad 14), .ref (ad 27), .ref (ad 54), .ref (ad 55), .ref (ad 58), .ref (ad 62), .long 0, .long 1, .int 0, .int 0, .int 0]) := by rw [e6]; exact f1
    refine q_Vi (na := 1) (As := [.int (-2)]) (rest := []) X hD hN h rfl (c_refused l G cI cB cZ cO ad w4 _ _ _ _ _ _ _ _ _ _ _ _ (-2) f8) ⟨kw_11, kw_12, kw_13, kw_14, kw_15⟩ rfl ⟨by decide, by decide, by decide⟩ ⟨Nat.le_of_ble_eq_true rfl, Nat.le_of_ble_eq_true rfl⟩ ⟨Nat.zero_le _, Nat.zero_le _⟩ (by decide) f8 rfl rfl hl.1 rfl (Nat.le_of_ble_eq_true rfl) dX8_about_14 (fun r9 w10 H locs hp11 h => ?_)
    obtain ⟨rfl, x12, y13, z14, e15⟩ := hp11
    have f16 : w10 0 = .inr (6, [.ref (ad 1), .ref (ad 14), .ref (ad 27), .ref (ad 54), .ref (ad 55), .ref (ad 58), .ref (ad 62), .long 0, .long 1, .int x12, .int y13, .int z14]) := (congrFun e15 _).trans (va_up_self _ _ _)
    exact e_i X h hr hlk dX8_about_17 ⟨rfl, fun k hk => ((congrFun e15 k).trans (va_up_ne _ _ (by omega))).trans (congrFun e6 k)⟩

set_option maxHeartbeats 4000000 in
set_option maxRecDepth 100000 in
theorem c_X_gives (l : Launch) (G : va_G) (cI cB cZ cO : ClassId) (ad : Nat → Nat) (w : Nat → va_E) (F : ∀ k, k < 74 → w k = fr0 cI cB cZ cO ad k) (i u : Int32) : MI l G (tyq cI cB cZ cO) yX8_gives cX8_gives 3 (some .int) 1 21 74 ad w [.ref (ad 0), .int i, .int u] (fun r w1 => r = (-2) ∧ ∀ k, 64 ≤ k → w1 k = w k) := by
  refine mk_i (own := "NoonShade") rfl (by decide) (Nat.le_of_ble_eq_true rfl) ?_
  intro p e s m below meth c ls X hD hN hr hlk h hl
  have hx := X.1.1
  have hb := X.1.2.1
  have hown := X.1.2.2.2.1
  have hts := X.1.2.2.2.2
  have hl : lv_has ls 3 [(0, .ref (ad 0)), (1, .int i), (2, .int u)] := hl
  refine lv_aload_n hx hb dX8_gives_0 rfl (lv_at hl 0 rfl) ?_
  have f1 : w 0 = .inr (6, [.ref (ad 1), .ref (ad 14), .ref (ad 27), .ref (ad 54), .ref (ad 55), .ref (ad 58), .ref (ad 62), .long 0, .long 1, .int 0, .int 0, .int 0]) := F 0 (by decide)
  refine r_get kc8 X h 0 0 (by decide) rfl f1 (by decide) kw_5 rfl dX8_gives_1 ?_
  refine lv_iload_n hx hb dX8_gives_4 rfl (lv_at hl 1 rfl) ?_
  have f2 : w 1 = .inr (1, [.int 0, .int 0, .int 0, .int 0, .int 0, .ref (ad 2), .ref (ad 3), .ref (ad 4), .ref (ad 5), .ref (ad 6), .ref (ad 7), .ref (ad 8), .ref (ad 10), .ref (ad 12)]) := F 1 (by decide)
  refine q_Vi (na := 1) (As := [.int i]) (rest := []) X hD hN h rfl (c_hasCaster l G cI cB cZ cO ad w 1 _ _ _ _ _ _ i 0 rfl (by decide) f2) ⟨kw_6, kw_7, kw_8, kw_9, kw_10⟩ rfl ⟨by decide, by decide, by decide⟩ ⟨Nat.le_of_ble_eq_true rfl, Nat.le_of_ble_eq_true rfl⟩ ⟨Nat.zero_le _, Nat.zero_le _⟩ (by decide) f2 rfl rfl hl.1 rfl (Nat.le_of_ble_eq_true rfl) dX8_gives_5 (fun r3 w4 H locs hp5 h => ?_)
  obtain ⟨e6, hp5⟩ := hp5
  rcases hp5 with ⟨hq7a, hq7b, rfl⟩ | ⟨hq7, rfl⟩
  · exfalso; omega
  · refine lv_if_eq (tgt := 21) hx hb dX8_gives_8 (by decide) (fun _ => ?_) (fun hc => absurd (by decide) hc)
    refine lv_aload_n hx hb dX8_gives_21 rfl (lv_at hl 0 rfl) ?_
    refine lv_bipush (v := (-2)) hx hb dX8_gives_22 (by decide) ?_
    have f8 : w4 0 = .inr (6, [.ref (ad 1), .ref (ad 14), .ref (ad 27), .ref (ad 54), .ref (ad 55), .ref (ad 58), .ref (ad 62), .long 0, .long 1, .int 0, .int 0, .int 0]) := by rw [e6]; exact f1
    refine q_Vi (na := 1) (As := [.int (-2)]) (rest := []) X hD hN h rfl (c_refused l G cI cB cZ cO ad w4 _ _ _ _ _ _ _ _ _ _ _ _ (-2) f8) ⟨kw_11, kw_12, kw_13, kw_14, kw_15⟩ rfl ⟨by decide, by decide, by decide⟩ ⟨Nat.le_of_ble_eq_true rfl, Nat.le_of_ble_eq_true rfl⟩ ⟨Nat.zero_le _, Nat.zero_le _⟩ (by decide) f8 rfl rfl hl.1 rfl (Nat.le_of_ble_eq_true rfl) dX8_gives_24 (fun r9 w10 H locs hp11 h => ?_)
    obtain ⟨rfl, x12, y13, z14, e15⟩ := hp11
    have f16 : w10 0 = .inr (6, [.ref (ad 1), .ref (ad 14), .ref (ad 27), .ref (ad 54), .ref (ad 55), .ref (ad 58), .ref (ad 62), .long 0, .long 1, .int x12, .int y13, .int z14]) := (congrFun e15 _).trans (va_up_self _ _ _)
    exact e_i X h hr hlk dX8_gives_27 ⟨rfl, fun k hk => ((congrFun e15 k).trans (va_up_ne _ _ (by omega))).trans (congrFun e6 k)⟩

set_option maxHeartbeats 4000000 in
set_option maxRecDepth 100000 in
theorem c_X_keeps (l : Launch) (G : va_G) (cI cB cZ cO : ClassId) (ad : Nat → Nat) (w : Nat → va_E) (F : ∀ k, k < 74 → w k = fr0 cI cB cZ cO ad k) (j u : Int32) : MI l G (tyq cI cB cZ cO) yX8_keeps cX8_keeps 3 (some .int) 1 21 74 ad w [.ref (ad 0), .int j, .int u] (fun r w1 => r = (-2) ∧ ∀ k, 64 ≤ k → w1 k = w k) := by
  refine mk_i (own := "NoonShade") rfl (by decide) (Nat.le_of_ble_eq_true rfl) ?_
  intro p e s m below meth c ls X hD hN hr hlk h hl
  have hx := X.1.1
  have hb := X.1.2.1
  have hown := X.1.2.2.2.1
  have hts := X.1.2.2.2.2
  have hl : lv_has ls 3 [(0, .ref (ad 0)), (1, .int j), (2, .int u)] := hl
  refine lv_aload_n hx hb dX8_keeps_0 rfl (lv_at hl 0 rfl) ?_
  have f1 : w 0 = .inr (6, [.ref (ad 1), .ref (ad 14), .ref (ad 27), .ref (ad 54), .ref (ad 55), .ref (ad 58), .ref (ad 62), .long 0, .long 1, .int 0, .int 0, .int 0]) := F 0 (by decide)
  refine r_get kc8 X h 0 0 (by decide) rfl f1 (by decide) kw_5 rfl dX8_keeps_1 ?_
  refine lv_iload_n hx hb dX8_keeps_4 rfl (lv_at hl 1 rfl) ?_
  have f2 : w 1 = .inr (1, [.int 0, .int 0, .int 0, .int 0, .int 0, .ref (ad 2), .ref (ad 3), .ref (ad 4), .ref (ad 5), .ref (ad 6), .ref (ad 7), .ref (ad 8), .ref (ad 10), .ref (ad 12)]) := F 1 (by decide)
  refine q_Vi (na := 1) (As := [.int j]) (rest := []) X hD hN h rfl (c_hasJar l G cI cB cZ cO ad w 1 _ _ _ _ _ _ j 0 rfl (by decide) f2) ⟨kw_16, kw_17, kw_18, kw_9, kw_19⟩ rfl ⟨by decide, by decide, by decide⟩ ⟨Nat.le_of_ble_eq_true rfl, Nat.le_of_ble_eq_true rfl⟩ ⟨Nat.zero_le _, Nat.zero_le _⟩ (by decide) f2 rfl rfl hl.1 rfl (Nat.le_of_ble_eq_true rfl) dX8_keeps_5 (fun r3 w4 H locs hp5 h => ?_)
  obtain ⟨e6, hp5⟩ := hp5
  rcases hp5 with ⟨hq7a, hq7b, rfl⟩ | ⟨hq7, rfl⟩
  · exfalso; omega
  · refine lv_if_eq (tgt := 21) hx hb dX8_keeps_8 (by decide) (fun _ => ?_) (fun hc => absurd (by decide) hc)
    refine lv_aload_n hx hb dX8_keeps_21 rfl (lv_at hl 0 rfl) ?_
    refine lv_bipush (v := (-2)) hx hb dX8_keeps_22 (by decide) ?_
    have f8 : w4 0 = .inr (6, [.ref (ad 1), .ref (ad 14), .ref (ad 27), .ref (ad 54), .ref (ad 55), .ref (ad 58), .ref (ad 62), .long 0, .long 1, .int 0, .int 0, .int 0]) := by rw [e6]; exact f1
    refine q_Vi (na := 1) (As := [.int (-2)]) (rest := []) X hD hN h rfl (c_refused l G cI cB cZ cO ad w4 _ _ _ _ _ _ _ _ _ _ _ _ (-2) f8) ⟨kw_11, kw_12, kw_13, kw_14, kw_15⟩ rfl ⟨by decide, by decide, by decide⟩ ⟨Nat.le_of_ble_eq_true rfl, Nat.le_of_ble_eq_true rfl⟩ ⟨Nat.zero_le _, Nat.zero_le _⟩ (by decide) f8 rfl rfl hl.1 rfl (Nat.le_of_ble_eq_true rfl) dX8_keeps_24 (fun r9 w10 H locs hp11 h => ?_)
    obtain ⟨rfl, x12, y13, z14, e15⟩ := hp11
    have f16 : w10 0 = .inr (6, [.ref (ad 1), .ref (ad 14), .ref (ad 27), .ref (ad 54), .ref (ad 55), .ref (ad 58), .ref (ad 62), .long 0, .long 1, .int x12, .int y13, .int z14]) := (congrFun e15 _).trans (va_up_self _ _ _)
    exact e_i X h hr hlk dX8_keeps_27 ⟨rfl, fun k hk => ((congrFun e15 k).trans (va_up_ne _ _ (by omega))).trans (congrFun e6 k)⟩

set_option maxHeartbeats 4000000 in
set_option maxRecDepth 100000 in
theorem c_X_when (l : Launch) (G : va_G) (cI cB cZ cO : ClassId) (ad : Nat → Nat) (w : Nat → va_E) (F : ∀ k, k < 74 → w k = fr0 cI cB cZ cO ad k) (i : Int32) : MI l G (tyq cI cB cZ cO) yX8_when cX8_when 4 (some .int) 1 21 74 ad w [.ref (ad 0), .int i] (fun r w1 => r = (-2) ∧ ∀ k, 64 ≤ k → w1 k = w k) := by
  refine mk_i (own := "NoonShade") rfl (by decide) (Nat.le_of_ble_eq_true rfl) ?_
  intro p e s m below meth c ls X hD hN hr hlk h hl
  have hx := X.1.1
  have hb := X.1.2.1
  have hown := X.1.2.2.2.1
  have hts := X.1.2.2.2.2
  have hl : lv_has ls 4 [(0, .ref (ad 0)), (1, .int i)] := hl
  refine lv_aload_n hx hb dX8_when_0 rfl (lv_at hl 0 rfl) ?_
  have f1 : w 0 = .inr (6, [.ref (ad 1), .ref (ad 14), .ref (ad 27), .ref (ad 54), .ref (ad 55), .ref (ad 58), .ref (ad 62), .long 0, .long 1, .int 0, .int 0, .int 0]) := F 0 (by decide)
  refine r_get kc8 X h 0 0 (by decide) rfl f1 (by decide) kw_5 rfl dX8_when_1 ?_
  refine lv_iload_n hx hb dX8_when_4 rfl (lv_at hl 1 rfl) ?_
  have f2 : w 1 = .inr (1, [.int 0, .int 0, .int 0, .int 0, .int 0, .ref (ad 2), .ref (ad 3), .ref (ad 4), .ref (ad 5), .ref (ad 6), .ref (ad 7), .ref (ad 8), .ref (ad 10), .ref (ad 12)]) := F 1 (by decide)
  refine q_Vi (na := 1) (As := [.int i]) (rest := []) X hD hN h rfl (c_hasCaster l G cI cB cZ cO ad w 1 _ _ _ _ _ _ i 0 rfl (by decide) f2) ⟨kw_6, kw_7, kw_8, kw_9, kw_10⟩ rfl ⟨by decide, by decide, by decide⟩ ⟨Nat.le_of_ble_eq_true rfl, Nat.le_of_ble_eq_true rfl⟩ ⟨Nat.zero_le _, Nat.zero_le _⟩ (by decide) f2 rfl rfl hl.1 rfl (Nat.le_of_ble_eq_true rfl) dX8_when_5 (fun r3 w4 H locs hp5 h => ?_)
  obtain ⟨e6, hp5⟩ := hp5
  rcases hp5 with ⟨hq7a, hq7b, rfl⟩ | ⟨hq7, rfl⟩
  · exfalso; omega
  · refine lv_if_ne (tgt := 18) hx hb dX8_when_8 (by decide) (fun hc => absurd hc (by decide)) (fun _ => ?_)
    refine lv_aload_n hx hb dX8_when_11 rfl (lv_at hl 0 rfl) ?_
    refine lv_bipush (v := (-2)) hx hb dX8_when_12 (by decide) ?_
    have f8 : w4 0 = .inr (6, [.ref (ad 1), .ref (ad 14), .ref (ad 27), .ref (ad 54), .ref (ad 55), .ref (ad 58), .ref (ad 62), .long 0, .long 1, .int 0, .int 0, .int 0]) := by rw [e6]; exact f1
    refine q_Vi (na := 1) (As := [.int (-2)]) (rest := []) X hD hN h rfl (c_refused l G cI cB cZ cO ad w4 _ _ _ _ _ _ _ _ _ _ _ _ (-2) f8) ⟨kw_11, kw_12, kw_13, kw_14, kw_15⟩ rfl ⟨by decide, by decide, by decide⟩ ⟨Nat.le_of_ble_eq_true rfl, Nat.le_of_ble_eq_true rfl⟩ ⟨Nat.zero_le _, Nat.zero_le _⟩ (by decide) f8 rfl rfl hl.1 rfl (Nat.le_of_ble_eq_true rfl) dX8_when_14 (fun r9 w10 H locs hp11 h => ?_)
    obtain ⟨rfl, x12, y13, z14, e15⟩ := hp11
    have f16 : w10 0 = .inr (6, [.ref (ad 1), .ref (ad 14), .ref (ad 27), .ref (ad 54), .ref (ad 55), .ref (ad 58), .ref (ad 62), .long 0, .long 1, .int x12, .int y13, .int z14]) := (congrFun e15 _).trans (va_up_self _ _ _)
    exact e_i X h hr hlk dX8_when_17 ⟨rfl, fun k hk => ((congrFun e15 k).trans (va_up_ne _ _ (by omega))).trans (congrFun e6 k)⟩

set_option maxHeartbeats 4000000 in
set_option maxRecDepth 100000 in
theorem c_X_gone (l : Launch) (G : va_G) (cI cB cZ cO : ClassId) (ad : Nat → Nat) (w : Nat → va_E) (F : ∀ k, k < 74 → w k = fr0 cI cB cZ cO ad k) (j : Int32) : MI l G (tyq cI cB cZ cO) yX8_gone cX8_gone 4 (some .int) 1 21 74 ad w [.ref (ad 0), .int j] (fun r w1 => r = (-2) ∧ ∀ k, 64 ≤ k → w1 k = w k) := by
  refine mk_i (own := "NoonShade") rfl (by decide) (Nat.le_of_ble_eq_true rfl) ?_
  intro p e s m below meth c ls X hD hN hr hlk h hl
  have hx := X.1.1
  have hb := X.1.2.1
  have hown := X.1.2.2.2.1
  have hts := X.1.2.2.2.2
  have hl : lv_has ls 4 [(0, .ref (ad 0)), (1, .int j)] := hl
  refine lv_aload_n hx hb dX8_gone_0 rfl (lv_at hl 0 rfl) ?_
  have f1 : w 0 = .inr (6, [.ref (ad 1), .ref (ad 14), .ref (ad 27), .ref (ad 54), .ref (ad 55), .ref (ad 58), .ref (ad 62), .long 0, .long 1, .int 0, .int 0, .int 0]) := F 0 (by decide)
  refine r_get kc8 X h 0 0 (by decide) rfl f1 (by decide) kw_5 rfl dX8_gone_1 ?_
  refine lv_iload_n hx hb dX8_gone_4 rfl (lv_at hl 1 rfl) ?_
  have f2 : w 1 = .inr (1, [.int 0, .int 0, .int 0, .int 0, .int 0, .ref (ad 2), .ref (ad 3), .ref (ad 4), .ref (ad 5), .ref (ad 6), .ref (ad 7), .ref (ad 8), .ref (ad 10), .ref (ad 12)]) := F 1 (by decide)
  refine q_Vi (na := 1) (As := [.int j]) (rest := []) X hD hN h rfl (c_hasJar l G cI cB cZ cO ad w 1 _ _ _ _ _ _ j 0 rfl (by decide) f2) ⟨kw_16, kw_17, kw_18, kw_9, kw_19⟩ rfl ⟨by decide, by decide, by decide⟩ ⟨Nat.le_of_ble_eq_true rfl, Nat.le_of_ble_eq_true rfl⟩ ⟨Nat.zero_le _, Nat.zero_le _⟩ (by decide) f2 rfl rfl hl.1 rfl (Nat.le_of_ble_eq_true rfl) dX8_gone_5 (fun r3 w4 H locs hp5 h => ?_)
  obtain ⟨e6, hp5⟩ := hp5
  rcases hp5 with ⟨hq7a, hq7b, rfl⟩ | ⟨hq7, rfl⟩
  · exfalso; omega
  · refine lv_if_ne (tgt := 18) hx hb dX8_gone_8 (by decide) (fun hc => absurd hc (by decide)) (fun _ => ?_)
    refine lv_aload_n hx hb dX8_gone_11 rfl (lv_at hl 0 rfl) ?_
    refine lv_bipush (v := (-2)) hx hb dX8_gone_12 (by decide) ?_
    have f8 : w4 0 = .inr (6, [.ref (ad 1), .ref (ad 14), .ref (ad 27), .ref (ad 54), .ref (ad 55), .ref (ad 58), .ref (ad 62), .long 0, .long 1, .int 0, .int 0, .int 0]) := by rw [e6]; exact f1
    refine q_Vi (na := 1) (As := [.int (-2)]) (rest := []) X hD hN h rfl (c_refused l G cI cB cZ cO ad w4 _ _ _ _ _ _ _ _ _ _ _ _ (-2) f8) ⟨kw_11, kw_12, kw_13, kw_14, kw_15⟩ rfl ⟨by decide, by decide, by decide⟩ ⟨Nat.le_of_ble_eq_true rfl, Nat.le_of_ble_eq_true rfl⟩ ⟨Nat.zero_le _, Nat.zero_le _⟩ (by decide) f8 rfl rfl hl.1 rfl (Nat.le_of_ble_eq_true rfl) dX8_gone_14 (fun r9 w10 H locs hp11 h => ?_)
    obtain ⟨rfl, x12, y13, z14, e15⟩ := hp11
    have f16 : w10 0 = .inr (6, [.ref (ad 1), .ref (ad 14), .ref (ad 27), .ref (ad 54), .ref (ad 55), .ref (ad 58), .ref (ad 62), .long 0, .long 1, .int x12, .int y13, .int z14]) := (congrFun e15 _).trans (va_up_self _ _ _)
    exact e_i X h hr hlk dX8_gone_17 ⟨rfl, fun k hk => ((congrFun e15 k).trans (va_up_ne _ _ (by omega))).trans (congrFun e6 k)⟩

set_option maxHeartbeats 4000000 in
set_option maxRecDepth 100000 in
theorem c_X_round (l : Launch) (G : va_G) (cI cB cZ cO : ClassId) (ad : Nat → Nat) (w : Nat → va_E) (F : ∀ k, k < 74 → w k = fr0 cI cB cZ cO ad k) (j n k : Int32) : MI l G (tyq cI cB cZ cO) yX8_round cX8_round 4 (some .int) 1 21 74 ad w [.ref (ad 0), .int j, .int n, .int k] (fun r w1 => r = (-10) ∧ ∀ k, 64 ≤ k → w1 k = w k) := by
  refine mk_i (own := "NoonShade") rfl (by decide) (Nat.le_of_ble_eq_true rfl) ?_
  intro p e s m below meth c ls X hD hN hr hlk h hl
  have hx := X.1.1
  have hb := X.1.2.1
  have hown := X.1.2.2.2.1
  have hts := X.1.2.2.2.2
  have hl : lv_has ls 4 [(0, .ref (ad 0)), (1, .int j), (2, .int n), (3, .int k)] := hl
  refine lv_aload_n hx hb dX8_round_0 rfl (lv_at hl 0 rfl) ?_
  have f1 : w 0 = .inr (6, [.ref (ad 1), .ref (ad 14), .ref (ad 27), .ref (ad 54), .ref (ad 55), .ref (ad 58), .ref (ad 62), .long 0, .long 1, .int 0, .int 0, .int 0]) := F 0 (by decide)
  refine r_get kc8 X h 0 0 (by decide) rfl f1 (by decide) kw_5 rfl dX8_round_1 ?_
  refine lv_iload_n hx hb dX8_round_4 rfl (lv_at hl 1 rfl) ?_
  have f2 : w 1 = .inr (1, [.int 0, .int 0, .int 0, .int 0, .int 0, .ref (ad 2), .ref (ad 3), .ref (ad 4), .ref (ad 5), .ref (ad 6), .ref (ad 7), .ref (ad 8), .ref (ad 10), .ref (ad 12)]) := F 1 (by decide)
  refine q_Vi (na := 1) (As := [.int j]) (rest := []) X hD hN h rfl (c_hasJar l G cI cB cZ cO ad w 1 _ _ _ _ _ _ j 0 rfl (by decide) f2) ⟨kw_16, kw_17, kw_18, kw_9, kw_19⟩ rfl ⟨by decide, by decide, by decide⟩ ⟨Nat.le_of_ble_eq_true rfl, Nat.le_of_ble_eq_true rfl⟩ ⟨Nat.zero_le _, Nat.zero_le _⟩ (by decide) f2 rfl rfl hl.1 rfl (Nat.le_of_ble_eq_true rfl) dX8_round_5 (fun r3 w4 H locs hp5 h => ?_)
  obtain ⟨e6, hp5⟩ := hp5
  rcases hp5 with ⟨hq7a, hq7b, rfl⟩ | ⟨hq7, rfl⟩
  · exfalso; omega
  · refine lv_if_eq (tgt := 30) hx hb dX8_round_8 (by decide) (fun _ => ?_) (fun hc => absurd (by decide) hc)
    refine lv_aload_n hx hb dX8_round_30 rfl (lv_at hl 0 rfl) ?_
    refine lv_bipush (v := (-2)) hx hb dX8_round_31 (by decide) ?_
    have f8 : w4 0 = .inr (6, [.ref (ad 1), .ref (ad 14), .ref (ad 27), .ref (ad 54), .ref (ad 55), .ref (ad 58), .ref (ad 62), .long 0, .long 1, .int 0, .int 0, .int 0]) := by rw [e6]; exact f1
    refine q_Vi (na := 1) (As := [.int (-2)]) (rest := []) X hD hN h rfl (c_refused l G cI cB cZ cO ad w4 _ _ _ _ _ _ _ _ _ _ _ _ (-2) f8) ⟨kw_11, kw_12, kw_13, kw_14, kw_15⟩ rfl ⟨by decide, by decide, by decide⟩ ⟨Nat.le_of_ble_eq_true rfl, Nat.le_of_ble_eq_true rfl⟩ ⟨Nat.zero_le _, Nat.zero_le _⟩ (by decide) f8 rfl rfl hl.1 rfl (Nat.le_of_ble_eq_true rfl) dX8_round_33 (fun r9 w10 H locs hp11 h => ?_)
    obtain ⟨rfl, x12, y13, z14, e15⟩ := hp11
    have f16 : w10 0 = .inr (6, [.ref (ad 1), .ref (ad 14), .ref (ad 27), .ref (ad 54), .ref (ad 55), .ref (ad 58), .ref (ad 62), .long 0, .long 1, .int x12, .int y13, .int z14]) := (congrFun e15 _).trans (va_up_self _ _ _)
    refine lv_pop hx hb dX8_round_36 rfl ?_
    refine lv_bipush (v := (-10)) hx hb dX8_round_37 (by decide) ?_
    exact e_i X h hr hlk dX8_round_39 ⟨rfl, fun k hk => ((congrFun e15 k).trans (va_up_ne _ _ (by omega))).trans (congrFun e6 k)⟩

set_option maxHeartbeats 4000000 in
set_option maxRecDepth 100000 in
theorem c_X_few (l : Launch) (G : va_G) (cI cB cZ cO : ClassId) (ad : Nat → Nat) (w : Nat → va_E) (F : ∀ k, k < 74 → w k = fr0 cI cB cZ cO ad k) (j t x u : Int32) : MI l G (tyq cI cB cZ cO) yX8_few cX8_few 6 (some .int) 1 21 74 ad w [.ref (ad 0), .int j, .int t, .int x, .int u] (fun r w1 => r = (-2) ∧ ∀ k, 64 ≤ k → w1 k = w k) := by
  refine mk_i (own := "NoonShade") rfl (by decide) (Nat.le_of_ble_eq_true rfl) ?_
  intro p e s m below meth c ls X hD hN hr hlk h hl
  have hx := X.1.1
  have hb := X.1.2.1
  have hown := X.1.2.2.2.1
  have hts := X.1.2.2.2.2
  have hl : lv_has ls 6 [(0, .ref (ad 0)), (1, .int j), (2, .int t), (3, .int x), (4, .int u)] := hl
  refine lv_aload_n hx hb dX8_few_0 rfl (lv_at hl 0 rfl) ?_
  have f1 : w 0 = .inr (6, [.ref (ad 1), .ref (ad 14), .ref (ad 27), .ref (ad 54), .ref (ad 55), .ref (ad 58), .ref (ad 62), .long 0, .long 1, .int 0, .int 0, .int 0]) := F 0 (by decide)
  refine r_get kc8 X h 0 0 (by decide) rfl f1 (by decide) kw_5 rfl dX8_few_1 ?_
  refine lv_iload_n hx hb dX8_few_4 rfl (lv_at hl 1 rfl) ?_
  have f2 : w 1 = .inr (1, [.int 0, .int 0, .int 0, .int 0, .int 0, .ref (ad 2), .ref (ad 3), .ref (ad 4), .ref (ad 5), .ref (ad 6), .ref (ad 7), .ref (ad 8), .ref (ad 10), .ref (ad 12)]) := F 1 (by decide)
  refine q_Vi (na := 1) (As := [.int j]) (rest := []) X hD hN h rfl (c_hasJar l G cI cB cZ cO ad w 1 _ _ _ _ _ _ j 0 rfl (by decide) f2) ⟨kw_16, kw_17, kw_18, kw_9, kw_19⟩ rfl ⟨by decide, by decide, by decide⟩ ⟨Nat.le_of_ble_eq_true rfl, Nat.le_of_ble_eq_true rfl⟩ ⟨Nat.zero_le _, Nat.zero_le _⟩ (by decide) f2 rfl rfl hl.1 rfl (Nat.le_of_ble_eq_true rfl) dX8_few_5 (fun r3 w4 H locs hp5 h => ?_)
  obtain ⟨e6, hp5⟩ := hp5
  rcases hp5 with ⟨hq7a, hq7b, rfl⟩ | ⟨hq7, rfl⟩
  · exfalso; omega
  · refine lv_if_eq (tgt := 40) hx hb dX8_few_8 (by decide) (fun _ => ?_) (fun hc => absurd (by decide) hc)
    refine lv_aload_n hx hb dX8_few_40 rfl (lv_at hl 0 rfl) ?_
    refine lv_bipush (v := (-2)) hx hb dX8_few_41 (by decide) ?_
    have f8 : w4 0 = .inr (6, [.ref (ad 1), .ref (ad 14), .ref (ad 27), .ref (ad 54), .ref (ad 55), .ref (ad 58), .ref (ad 62), .long 0, .long 1, .int 0, .int 0, .int 0]) := by rw [e6]; exact f1
    refine q_Vi (na := 1) (As := [.int (-2)]) (rest := []) X hD hN h rfl (c_refused l G cI cB cZ cO ad w4 _ _ _ _ _ _ _ _ _ _ _ _ (-2) f8) ⟨kw_11, kw_12, kw_13, kw_14, kw_15⟩ rfl ⟨by decide, by decide, by decide⟩ ⟨Nat.le_of_ble_eq_true rfl, Nat.le_of_ble_eq_true rfl⟩ ⟨Nat.zero_le _, Nat.zero_le _⟩ (by decide) f8 rfl rfl hl.1 rfl (Nat.le_of_ble_eq_true rfl) dX8_few_43 (fun r9 w10 H locs hp11 h => ?_)
    obtain ⟨rfl, x12, y13, z14, e15⟩ := hp11
    have f16 : w10 0 = .inr (6, [.ref (ad 1), .ref (ad 14), .ref (ad 27), .ref (ad 54), .ref (ad 55), .ref (ad 58), .ref (ad 62), .long 0, .long 1, .int x12, .int y13, .int z14]) := (congrFun e15 _).trans (va_up_self _ _ _)
    exact e_i X h hr hlk dX8_few_46 ⟨rfl, fun k hk => ((congrFun e15 k).trans (va_up_ne _ _ (by omega))).trans (congrFun e6 k)⟩

set_option maxHeartbeats 4000000 in
set_option maxRecDepth 100000 in
theorem c_X_into (l : Launch) (G : va_G) (cI cB cZ cO : ClassId) (ad : Nat → Nat) (w : Nat → va_E) (F : ∀ k, k < 74 → w k = fr0 cI cB cZ cO ad k) (j u x : Int32) : MI l G (tyq cI cB cZ cO) yX8_into cX8_into 8 (some .int) 1 21 74 ad w [.ref (ad 0), .int j, .int u, .int x] (fun r w1 => r = (-2) ∧ ∀ k, 64 ≤ k → w1 k = w k) := by
  refine mk_i (own := "NoonShade") rfl (by decide) (Nat.le_of_ble_eq_true rfl) ?_
  intro p e s m below meth c ls X hD hN hr hlk h hl
  have hx := X.1.1
  have hb := X.1.2.1
  have hown := X.1.2.2.2.1
  have hts := X.1.2.2.2.2
  have hl : lv_has ls 8 [(0, .ref (ad 0)), (1, .int j), (2, .int u), (3, .int x)] := hl
  refine lv_aload_n hx hb dX8_into_0 rfl (lv_at hl 0 rfl) ?_
  have f1 : w 0 = .inr (6, [.ref (ad 1), .ref (ad 14), .ref (ad 27), .ref (ad 54), .ref (ad 55), .ref (ad 58), .ref (ad 62), .long 0, .long 1, .int 0, .int 0, .int 0]) := F 0 (by decide)
  refine r_get kc8 X h 0 0 (by decide) rfl f1 (by decide) kw_5 rfl dX8_into_1 ?_
  refine lv_iload_n hx hb dX8_into_4 rfl (lv_at hl 1 rfl) ?_
  have f2 : w 1 = .inr (1, [.int 0, .int 0, .int 0, .int 0, .int 0, .ref (ad 2), .ref (ad 3), .ref (ad 4), .ref (ad 5), .ref (ad 6), .ref (ad 7), .ref (ad 8), .ref (ad 10), .ref (ad 12)]) := F 1 (by decide)
  refine q_Vi (na := 1) (As := [.int j]) (rest := []) X hD hN h rfl (c_hasJar l G cI cB cZ cO ad w 1 _ _ _ _ _ _ j 0 rfl (by decide) f2) ⟨kw_16, kw_17, kw_18, kw_9, kw_19⟩ rfl ⟨by decide, by decide, by decide⟩ ⟨Nat.le_of_ble_eq_true rfl, Nat.le_of_ble_eq_true rfl⟩ ⟨Nat.zero_le _, Nat.zero_le _⟩ (by decide) f2 rfl rfl hl.1 rfl (Nat.le_of_ble_eq_true rfl) dX8_into_5 (fun r3 w4 H locs hp5 h => ?_)
  obtain ⟨e6, hp5⟩ := hp5
  rcases hp5 with ⟨hq7a, hq7b, rfl⟩ | ⟨hq7, rfl⟩
  · exfalso; omega
  · refine lv_if_eq (tgt := 30) hx hb dX8_into_8 (by decide) (fun _ => ?_) (fun hc => absurd (by decide) hc)
    refine lv_aload_n hx hb dX8_into_30 rfl (lv_at hl 0 rfl) ?_
    refine lv_bipush (v := (-2)) hx hb dX8_into_31 (by decide) ?_
    have f8 : w4 0 = .inr (6, [.ref (ad 1), .ref (ad 14), .ref (ad 27), .ref (ad 54), .ref (ad 55), .ref (ad 58), .ref (ad 62), .long 0, .long 1, .int 0, .int 0, .int 0]) := by rw [e6]; exact f1
    refine q_Vi (na := 1) (As := [.int (-2)]) (rest := []) X hD hN h rfl (c_refused l G cI cB cZ cO ad w4 _ _ _ _ _ _ _ _ _ _ _ _ (-2) f8) ⟨kw_11, kw_12, kw_13, kw_14, kw_15⟩ rfl ⟨by decide, by decide, by decide⟩ ⟨Nat.le_of_ble_eq_true rfl, Nat.le_of_ble_eq_true rfl⟩ ⟨Nat.zero_le _, Nat.zero_le _⟩ (by decide) f8 rfl rfl hl.1 rfl (Nat.le_of_ble_eq_true rfl) dX8_into_33 (fun r9 w10 H locs hp11 h => ?_)
    obtain ⟨rfl, x12, y13, z14, e15⟩ := hp11
    have f16 : w10 0 = .inr (6, [.ref (ad 1), .ref (ad 14), .ref (ad 27), .ref (ad 54), .ref (ad 55), .ref (ad 58), .ref (ad 62), .long 0, .long 1, .int x12, .int y13, .int z14]) := (congrFun e15 _).trans (va_up_self _ _ _)
    exact e_i X h hr hlk dX8_into_36 ⟨rfl, fun k hk => ((congrFun e15 k).trans (va_up_ne _ _ (by omega))).trans (congrFun e6 k)⟩

set_option maxHeartbeats 4000000 in
set_option maxRecDepth 100000 in
theorem c_X_note (l : Launch) (G : va_G) (cI cB cZ cO : ClassId) (ad : Nat → Nat) (w : Nat → va_E) (F : ∀ k, k < 74 → w k = fr0 cI cB cZ cO ad k) (i u t x : Int32) : MI l G (tyq cI cB cZ cO) yX8_note cX8_note 5 (some .int) 1 21 74 ad w [.ref (ad 0), .int i, .int u, .int t, .int x] (fun r w1 => r = (-2) ∧ ∀ k, 64 ≤ k → w1 k = w k) := by
  refine mk_i (own := "NoonShade") rfl (by decide) (Nat.le_of_ble_eq_true rfl) ?_
  intro p e s m below meth c ls X hD hN hr hlk h hl
  have hx := X.1.1
  have hb := X.1.2.1
  have hown := X.1.2.2.2.1
  have hts := X.1.2.2.2.2
  have hl : lv_has ls 5 [(0, .ref (ad 0)), (1, .int i), (2, .int u), (3, .int t), (4, .int x)] := hl
  refine lv_aload_n hx hb dX8_note_0 rfl (lv_at hl 0 rfl) ?_
  have f1 : w 0 = .inr (6, [.ref (ad 1), .ref (ad 14), .ref (ad 27), .ref (ad 54), .ref (ad 55), .ref (ad 58), .ref (ad 62), .long 0, .long 1, .int 0, .int 0, .int 0]) := F 0 (by decide)
  refine r_get kc8 X h 0 0 (by decide) rfl f1 (by decide) kw_5 rfl dX8_note_1 ?_
  refine lv_iload_n hx hb dX8_note_4 rfl (lv_at hl 1 rfl) ?_
  have f2 : w 1 = .inr (1, [.int 0, .int 0, .int 0, .int 0, .int 0, .ref (ad 2), .ref (ad 3), .ref (ad 4), .ref (ad 5), .ref (ad 6), .ref (ad 7), .ref (ad 8), .ref (ad 10), .ref (ad 12)]) := F 1 (by decide)
  refine q_Vi (na := 1) (As := [.int i]) (rest := []) X hD hN h rfl (c_hasCaster l G cI cB cZ cO ad w 1 _ _ _ _ _ _ i 0 rfl (by decide) f2) ⟨kw_6, kw_7, kw_8, kw_9, kw_10⟩ rfl ⟨by decide, by decide, by decide⟩ ⟨Nat.le_of_ble_eq_true rfl, Nat.le_of_ble_eq_true rfl⟩ ⟨Nat.zero_le _, Nat.zero_le _⟩ (by decide) f2 rfl rfl hl.1 rfl (Nat.le_of_ble_eq_true rfl) dX8_note_5 (fun r3 w4 H locs hp5 h => ?_)
  obtain ⟨e6, hp5⟩ := hp5
  rcases hp5 with ⟨hq7a, hq7b, rfl⟩ | ⟨hq7, rfl⟩
  · exfalso; omega
  · refine lv_if_eq (tgt := 42) hx hb dX8_note_8 (by decide) (fun _ => ?_) (fun hc => absurd (by decide) hc)
    refine lv_aload_n hx hb dX8_note_42 rfl (lv_at hl 0 rfl) ?_
    refine lv_bipush (v := (-2)) hx hb dX8_note_43 (by decide) ?_
    have f8 : w4 0 = .inr (6, [.ref (ad 1), .ref (ad 14), .ref (ad 27), .ref (ad 54), .ref (ad 55), .ref (ad 58), .ref (ad 62), .long 0, .long 1, .int 0, .int 0, .int 0]) := by rw [e6]; exact f1
    refine q_Vi (na := 1) (As := [.int (-2)]) (rest := []) X hD hN h rfl (c_refused l G cI cB cZ cO ad w4 _ _ _ _ _ _ _ _ _ _ _ _ (-2) f8) ⟨kw_11, kw_12, kw_13, kw_14, kw_15⟩ rfl ⟨by decide, by decide, by decide⟩ ⟨Nat.le_of_ble_eq_true rfl, Nat.le_of_ble_eq_true rfl⟩ ⟨Nat.zero_le _, Nat.zero_le _⟩ (by decide) f8 rfl rfl hl.1 rfl (Nat.le_of_ble_eq_true rfl) dX8_note_45 (fun r9 w10 H locs hp11 h => ?_)
    obtain ⟨rfl, x12, y13, z14, e15⟩ := hp11
    have f16 : w10 0 = .inr (6, [.ref (ad 1), .ref (ad 14), .ref (ad 27), .ref (ad 54), .ref (ad 55), .ref (ad 58), .ref (ad 62), .long 0, .long 1, .int x12, .int y13, .int z14]) := (congrFun e15 _).trans (va_up_self _ _ _)
    exact e_i X h hr hlk dX8_note_48 ⟨rfl, fun k hk => ((congrFun e15 k).trans (va_up_ne _ _ (by omega))).trans (congrFun e6 k)⟩

set_option maxHeartbeats 4000000 in
set_option maxRecDepth 100000 in
theorem c_X_mark (l : Launch) (G : va_G) (cI cB cZ cO : ClassId) (ad : Nat → Nat) (w : Nat → va_E) (F : ∀ k, k < 74 → w k = fr0 cI cB cZ cO ad k) (j u t x : Int32) : MI l G (tyq cI cB cZ cO) yX8_mark cX8_mark 5 (some .int) 1 21 74 ad w [.ref (ad 0), .int j, .int u, .int t, .int x] (fun r w1 => r = (-2) ∧ ∀ k, 64 ≤ k → w1 k = w k) := by
  refine mk_i (own := "NoonShade") rfl (by decide) (Nat.le_of_ble_eq_true rfl) ?_
  intro p e s m below meth c ls X hD hN hr hlk h hl
  have hx := X.1.1
  have hb := X.1.2.1
  have hown := X.1.2.2.2.1
  have hts := X.1.2.2.2.2
  have hl : lv_has ls 5 [(0, .ref (ad 0)), (1, .int j), (2, .int u), (3, .int t), (4, .int x)] := hl
  refine lv_aload_n hx hb dX8_mark_0 rfl (lv_at hl 0 rfl) ?_
  have f1 : w 0 = .inr (6, [.ref (ad 1), .ref (ad 14), .ref (ad 27), .ref (ad 54), .ref (ad 55), .ref (ad 58), .ref (ad 62), .long 0, .long 1, .int 0, .int 0, .int 0]) := F 0 (by decide)
  refine r_get kc8 X h 0 0 (by decide) rfl f1 (by decide) kw_5 rfl dX8_mark_1 ?_
  refine lv_iload_n hx hb dX8_mark_4 rfl (lv_at hl 1 rfl) ?_
  have f2 : w 1 = .inr (1, [.int 0, .int 0, .int 0, .int 0, .int 0, .ref (ad 2), .ref (ad 3), .ref (ad 4), .ref (ad 5), .ref (ad 6), .ref (ad 7), .ref (ad 8), .ref (ad 10), .ref (ad 12)]) := F 1 (by decide)
  refine q_Vi (na := 1) (As := [.int j]) (rest := []) X hD hN h rfl (c_hasJar l G cI cB cZ cO ad w 1 _ _ _ _ _ _ j 0 rfl (by decide) f2) ⟨kw_16, kw_17, kw_18, kw_9, kw_19⟩ rfl ⟨by decide, by decide, by decide⟩ ⟨Nat.le_of_ble_eq_true rfl, Nat.le_of_ble_eq_true rfl⟩ ⟨Nat.zero_le _, Nat.zero_le _⟩ (by decide) f2 rfl rfl hl.1 rfl (Nat.le_of_ble_eq_true rfl) dX8_mark_5 (fun r3 w4 H locs hp5 h => ?_)
  obtain ⟨e6, hp5⟩ := hp5
  rcases hp5 with ⟨hq7a, hq7b, rfl⟩ | ⟨hq7, rfl⟩
  · exfalso; omega
  · refine lv_if_eq (tgt := 42) hx hb dX8_mark_8 (by decide) (fun _ => ?_) (fun hc => absurd (by decide) hc)
    refine lv_aload_n hx hb dX8_mark_42 rfl (lv_at hl 0 rfl) ?_
    refine lv_bipush (v := (-2)) hx hb dX8_mark_43 (by decide) ?_
    have f8 : w4 0 = .inr (6, [.ref (ad 1), .ref (ad 14), .ref (ad 27), .ref (ad 54), .ref (ad 55), .ref (ad 58), .ref (ad 62), .long 0, .long 1, .int 0, .int 0, .int 0]) := by rw [e6]; exact f1
    refine q_Vi (na := 1) (As := [.int (-2)]) (rest := []) X hD hN h rfl (c_refused l G cI cB cZ cO ad w4 _ _ _ _ _ _ _ _ _ _ _ _ (-2) f8) ⟨kw_11, kw_12, kw_13, kw_14, kw_15⟩ rfl ⟨by decide, by decide, by decide⟩ ⟨Nat.le_of_ble_eq_true rfl, Nat.le_of_ble_eq_true rfl⟩ ⟨Nat.zero_le _, Nat.zero_le _⟩ (by decide) f8 rfl rfl hl.1 rfl (Nat.le_of_ble_eq_true rfl) dX8_mark_45 (fun r9 w10 H locs hp11 h => ?_)
    obtain ⟨rfl, x12, y13, z14, e15⟩ := hp11
    have f16 : w10 0 = .inr (6, [.ref (ad 1), .ref (ad 14), .ref (ad 27), .ref (ad 54), .ref (ad 55), .ref (ad 58), .ref (ad 62), .long 0, .long 1, .int x12, .int y13, .int z14]) := (congrFun e15 _).trans (va_up_self _ _ _)
    exact e_i X h hr hlk dX8_mark_48 ⟨rfl, fun k hk => ((congrFun e15 k).trans (va_up_ne _ _ (by omega))).trans (congrFun e6 k)⟩

set_option maxHeartbeats 4000000 in
set_option maxRecDepth 100000 in
theorem c_X_is (l : Launch) (G : va_G) (cI cB cZ cO : ClassId) (ad : Nat → Nat) (w : Nat → va_E) (F : ∀ k, k < 74 → w k = fr0 cI cB cZ cO ad k) (i : Int32) : MI l G (tyq cI cB cZ cO) yX8_is cX8_is 2 (some .int) 1 21 74 ad w [.ref (ad 0), .int i] (fun r w1 => r = (-2) ∧ ∀ k, 64 ≤ k → w1 k = w k) := by
  refine mk_i (own := "NoonShade") rfl (by decide) (Nat.le_of_ble_eq_true rfl) ?_
  intro p e s m below meth c ls X hD hN hr hlk h hl
  have hx := X.1.1
  have hb := X.1.2.1
  have hown := X.1.2.2.2.1
  have hts := X.1.2.2.2.2
  have hl : lv_has ls 2 [(0, .ref (ad 0)), (1, .int i)] := hl
  refine lv_aload_n hx hb dX8_is_0 rfl (lv_at hl 0 rfl) ?_
  have f1 : w 0 = .inr (6, [.ref (ad 1), .ref (ad 14), .ref (ad 27), .ref (ad 54), .ref (ad 55), .ref (ad 58), .ref (ad 62), .long 0, .long 1, .int 0, .int 0, .int 0]) := F 0 (by decide)
  refine r_get kc8 X h 0 0 (by decide) rfl f1 (by decide) kw_5 rfl dX8_is_1 ?_
  refine lv_iload_n hx hb dX8_is_4 rfl (lv_at hl 1 rfl) ?_
  have f2 : w 1 = .inr (1, [.int 0, .int 0, .int 0, .int 0, .int 0, .ref (ad 2), .ref (ad 3), .ref (ad 4), .ref (ad 5), .ref (ad 6), .ref (ad 7), .ref (ad 8), .ref (ad 10), .ref (ad 12)]) := F 1 (by decide)
  refine q_Vi (na := 1) (As := [.int i]) (rest := []) X hD hN h rfl (c_hasCaster l G cI cB cZ cO ad w 1 _ _ _ _ _ _ i 0 rfl (by decide) f2) ⟨kw_6, kw_7, kw_8, kw_9, kw_10⟩ rfl ⟨by decide, by decide, by decide⟩ ⟨Nat.le_of_ble_eq_true rfl, Nat.le_of_ble_eq_true rfl⟩ ⟨Nat.zero_le _, Nat.zero_le _⟩ (by decide) f2 rfl rfl hl.1 rfl (Nat.le_of_ble_eq_true rfl) dX8_is_5 (fun r3 w4 H locs hp5 h => ?_)
  obtain ⟨e6, hp5⟩ := hp5
  rcases hp5 with ⟨hq7a, hq7b, rfl⟩ | ⟨hq7, rfl⟩
  · exfalso; omega
  · refine lv_if_ne (tgt := 18) hx hb dX8_is_8 (by decide) (fun hc => absurd hc (by decide)) (fun _ => ?_)
    refine lv_aload_n hx hb dX8_is_11 rfl (lv_at hl 0 rfl) ?_
    refine lv_bipush (v := (-2)) hx hb dX8_is_12 (by decide) ?_
    have f8 : w4 0 = .inr (6, [.ref (ad 1), .ref (ad 14), .ref (ad 27), .ref (ad 54), .ref (ad 55), .ref (ad 58), .ref (ad 62), .long 0, .long 1, .int 0, .int 0, .int 0]) := by rw [e6]; exact f1
    refine q_Vi (na := 1) (As := [.int (-2)]) (rest := []) X hD hN h rfl (c_refused l G cI cB cZ cO ad w4 _ _ _ _ _ _ _ _ _ _ _ _ (-2) f8) ⟨kw_11, kw_12, kw_13, kw_14, kw_15⟩ rfl ⟨by decide, by decide, by decide⟩ ⟨Nat.le_of_ble_eq_true rfl, Nat.le_of_ble_eq_true rfl⟩ ⟨Nat.zero_le _, Nat.zero_le _⟩ (by decide) f8 rfl rfl hl.1 rfl (Nat.le_of_ble_eq_true rfl) dX8_is_14 (fun r9 w10 H locs hp11 h => ?_)
    obtain ⟨rfl, x12, y13, z14, e15⟩ := hp11
    have f16 : w10 0 = .inr (6, [.ref (ad 1), .ref (ad 14), .ref (ad 27), .ref (ad 54), .ref (ad 55), .ref (ad 58), .ref (ad 62), .long 0, .long 1, .int x12, .int y13, .int z14]) := (congrFun e15 _).trans (va_up_self _ _ _)
    exact e_i X h hr hlk dX8_is_17 ⟨rfl, fun k hk => ((congrFun e15 k).trans (va_up_ne _ _ (by omega))).trans (congrFun e6 k)⟩

set_option maxHeartbeats 4000000 in
set_option maxRecDepth 100000 in
theorem c_X_look (l : Launch) (G : va_G) (cI cB cZ cO : ClassId) (ad : Nat → Nat) (w : Nat → va_E) (F : ∀ k, k < 74 → w k = fr0 cI cB cZ cO ad k) (i : Int32) : MI l G (tyq cI cB cZ cO) yX8_look cX8_look 4 (some .int) 1 21 74 ad w [.ref (ad 0), .int i] (fun r w1 => r = (-2) ∧ ∀ k, 64 ≤ k → w1 k = w k) := by
  refine mk_i (own := "NoonShade") rfl (by decide) (Nat.le_of_ble_eq_true rfl) ?_
  intro p e s m below meth c ls X hD hN hr hlk h hl
  have hx := X.1.1
  have hb := X.1.2.1
  have hown := X.1.2.2.2.1
  have hts := X.1.2.2.2.2
  have hl : lv_has ls 4 [(0, .ref (ad 0)), (1, .int i)] := hl
  refine lv_aload_n hx hb dX8_look_0 rfl (lv_at hl 0 rfl) ?_
  have f1 : w 0 = .inr (6, [.ref (ad 1), .ref (ad 14), .ref (ad 27), .ref (ad 54), .ref (ad 55), .ref (ad 58), .ref (ad 62), .long 0, .long 1, .int 0, .int 0, .int 0]) := F 0 (by decide)
  refine r_get kc8 X h 0 0 (by decide) rfl f1 (by decide) kw_5 rfl dX8_look_1 ?_
  refine lv_iload_n hx hb dX8_look_4 rfl (lv_at hl 1 rfl) ?_
  have f2 : w 1 = .inr (1, [.int 0, .int 0, .int 0, .int 0, .int 0, .ref (ad 2), .ref (ad 3), .ref (ad 4), .ref (ad 5), .ref (ad 6), .ref (ad 7), .ref (ad 8), .ref (ad 10), .ref (ad 12)]) := F 1 (by decide)
  refine q_Vi (na := 1) (As := [.int i]) (rest := []) X hD hN h rfl (c_hasCaster l G cI cB cZ cO ad w 1 _ _ _ _ _ _ i 0 rfl (by decide) f2) ⟨kw_6, kw_7, kw_8, kw_9, kw_10⟩ rfl ⟨by decide, by decide, by decide⟩ ⟨Nat.le_of_ble_eq_true rfl, Nat.le_of_ble_eq_true rfl⟩ ⟨Nat.zero_le _, Nat.zero_le _⟩ (by decide) f2 rfl rfl hl.1 rfl (Nat.le_of_ble_eq_true rfl) dX8_look_5 (fun r3 w4 H locs hp5 h => ?_)
  obtain ⟨e6, hp5⟩ := hp5
  rcases hp5 with ⟨hq7a, hq7b, rfl⟩ | ⟨hq7, rfl⟩
  · exfalso; omega
  · refine lv_if_ne (tgt := 18) hx hb dX8_look_8 (by decide) (fun hc => absurd hc (by decide)) (fun _ => ?_)
    refine lv_aload_n hx hb dX8_look_11 rfl (lv_at hl 0 rfl) ?_
    refine lv_bipush (v := (-2)) hx hb dX8_look_12 (by decide) ?_
    have f8 : w4 0 = .inr (6, [.ref (ad 1), .ref (ad 14), .ref (ad 27), .ref (ad 54), .ref (ad 55), .ref (ad 58), .ref (ad 62), .long 0, .long 1, .int 0, .int 0, .int 0]) := by rw [e6]; exact f1
    refine q_Vi (na := 1) (As := [.int (-2)]) (rest := []) X hD hN h rfl (c_refused l G cI cB cZ cO ad w4 _ _ _ _ _ _ _ _ _ _ _ _ (-2) f8) ⟨kw_11, kw_12, kw_13, kw_14, kw_15⟩ rfl ⟨by decide, by decide, by decide⟩ ⟨Nat.le_of_ble_eq_true rfl, Nat.le_of_ble_eq_true rfl⟩ ⟨Nat.zero_le _, Nat.zero_le _⟩ (by decide) f8 rfl rfl hl.1 rfl (Nat.le_of_ble_eq_true rfl) dX8_look_14 (fun r9 w10 H locs hp11 h => ?_)
    obtain ⟨rfl, x12, y13, z14, e15⟩ := hp11
    have f16 : w10 0 = .inr (6, [.ref (ad 1), .ref (ad 14), .ref (ad 27), .ref (ad 54), .ref (ad 55), .ref (ad 58), .ref (ad 62), .long 0, .long 1, .int x12, .int y13, .int z14]) := (congrFun e15 _).trans (va_up_self _ _ _)
    exact e_i X h hr hlk dX8_look_17 ⟨rfl, fun k hk => ((congrFun e15 k).trans (va_up_ne _ _ (by omega))).trans (congrFun e6 k)⟩

set_option maxHeartbeats 4000000 in
set_option maxRecDepth 100000 in
theorem c_X_kinds (l : Launch) (G : va_G) (cI cB cZ cO : ClassId) (ad : Nat → Nat) (w : Nat → va_E) (F : ∀ k, k < 74 → w k = fr0 cI cB cZ cO ad k) (j : Int32) : MI l G (tyq cI cB cZ cO) yX8_kinds cX8_kinds 2 (some .int) 1 21 74 ad w [.ref (ad 0), .int j] (fun r w1 => r = (-2) ∧ ∀ k, 64 ≤ k → w1 k = w k) := by
  refine mk_i (own := "NoonShade") rfl (by decide) (Nat.le_of_ble_eq_true rfl) ?_
  intro p e s m below meth c ls X hD hN hr hlk h hl
  have hx := X.1.1
  have hb := X.1.2.1
  have hown := X.1.2.2.2.1
  have hts := X.1.2.2.2.2
  have hl : lv_has ls 2 [(0, .ref (ad 0)), (1, .int j)] := hl
  refine lv_aload_n hx hb dX8_kinds_0 rfl (lv_at hl 0 rfl) ?_
  have f1 : w 0 = .inr (6, [.ref (ad 1), .ref (ad 14), .ref (ad 27), .ref (ad 54), .ref (ad 55), .ref (ad 58), .ref (ad 62), .long 0, .long 1, .int 0, .int 0, .int 0]) := F 0 (by decide)
  refine r_get kc8 X h 0 0 (by decide) rfl f1 (by decide) kw_5 rfl dX8_kinds_1 ?_
  refine lv_iload_n hx hb dX8_kinds_4 rfl (lv_at hl 1 rfl) ?_
  have f2 : w 1 = .inr (1, [.int 0, .int 0, .int 0, .int 0, .int 0, .ref (ad 2), .ref (ad 3), .ref (ad 4), .ref (ad 5), .ref (ad 6), .ref (ad 7), .ref (ad 8), .ref (ad 10), .ref (ad 12)]) := F 1 (by decide)
  refine q_Vi (na := 1) (As := [.int j]) (rest := []) X hD hN h rfl (c_hasJar l G cI cB cZ cO ad w 1 _ _ _ _ _ _ j 0 rfl (by decide) f2) ⟨kw_16, kw_17, kw_18, kw_9, kw_19⟩ rfl ⟨by decide, by decide, by decide⟩ ⟨Nat.le_of_ble_eq_true rfl, Nat.le_of_ble_eq_true rfl⟩ ⟨Nat.zero_le _, Nat.zero_le _⟩ (by decide) f2 rfl rfl hl.1 rfl (Nat.le_of_ble_eq_true rfl) dX8_kinds_5 (fun r3 w4 H locs hp5 h => ?_)
  obtain ⟨e6, hp5⟩ := hp5
  rcases hp5 with ⟨hq7a, hq7b, rfl⟩ | ⟨hq7, rfl⟩
  · exfalso; omega
  · refine lv_if_ne (tgt := 18) hx hb dX8_kinds_8 (by decide) (fun hc => absurd hc (by decide)) (fun _ => ?_)
    refine lv_aload_n hx hb dX8_kinds_11 rfl (lv_at hl 0 rfl) ?_
    refine lv_bipush (v := (-2)) hx hb dX8_kinds_12 (by decide) ?_
    have f8 : w4 0 = .inr (6, [.ref (ad 1), .ref (ad 14), .ref (ad 27), .ref (ad 54), .ref (ad 55), .ref (ad 58), .ref (ad 62), .long 0, .long 1, .int 0, .int 0, .int 0]) := by rw [e6]; exact f1
    refine q_Vi (na := 1) (As := [.int (-2)]) (rest := []) X hD hN h rfl (c_refused l G cI cB cZ cO ad w4 _ _ _ _ _ _ _ _ _ _ _ _ (-2) f8) ⟨kw_11, kw_12, kw_13, kw_14, kw_15⟩ rfl ⟨by decide, by decide, by decide⟩ ⟨Nat.le_of_ble_eq_true rfl, Nat.le_of_ble_eq_true rfl⟩ ⟨Nat.zero_le _, Nat.zero_le _⟩ (by decide) f8 rfl rfl hl.1 rfl (Nat.le_of_ble_eq_true rfl) dX8_kinds_14 (fun r9 w10 H locs hp11 h => ?_)
    obtain ⟨rfl, x12, y13, z14, e15⟩ := hp11
    have f16 : w10 0 = .inr (6, [.ref (ad 1), .ref (ad 14), .ref (ad 27), .ref (ad 54), .ref (ad 55), .ref (ad 58), .ref (ad 62), .long 0, .long 1, .int x12, .int y13, .int z14]) := (congrFun e15 _).trans (va_up_self _ _ _)
    exact e_i X h hr hlk dX8_kinds_17 ⟨rfl, fun k hk => ((congrFun e15 k).trans (va_up_ne _ _ (by omega))).trans (congrFun e6 k)⟩

set_option maxHeartbeats 4000000 in
set_option maxRecDepth 100000 in
theorem c_X_ask (l : Launch) (G : va_G) (cI cB cZ cO : ClassId) (ad : Nat → Nat) (w : Nat → va_E) (F : ∀ k, k < 74 → w k = fr0 cI cB cZ cO ad k) (j : Int32) : MI l G (tyq cI cB cZ cO) yX8_ask cX8_ask 3 (some .int) 1 21 74 ad w [.ref (ad 0), .int j] (fun r w1 => r = (-2) ∧ ∀ k, 64 ≤ k → w1 k = w k) := by
  refine mk_i (own := "NoonShade") rfl (by decide) (Nat.le_of_ble_eq_true rfl) ?_
  intro p e s m below meth c ls X hD hN hr hlk h hl
  have hx := X.1.1
  have hb := X.1.2.1
  have hown := X.1.2.2.2.1
  have hts := X.1.2.2.2.2
  have hl : lv_has ls 3 [(0, .ref (ad 0)), (1, .int j)] := hl
  refine lv_aload_n hx hb dX8_ask_0 rfl (lv_at hl 0 rfl) ?_
  have f1 : w 0 = .inr (6, [.ref (ad 1), .ref (ad 14), .ref (ad 27), .ref (ad 54), .ref (ad 55), .ref (ad 58), .ref (ad 62), .long 0, .long 1, .int 0, .int 0, .int 0]) := F 0 (by decide)
  refine r_get kc8 X h 0 0 (by decide) rfl f1 (by decide) kw_5 rfl dX8_ask_1 ?_
  refine lv_iload_n hx hb dX8_ask_4 rfl (lv_at hl 1 rfl) ?_
  have f2 : w 1 = .inr (1, [.int 0, .int 0, .int 0, .int 0, .int 0, .ref (ad 2), .ref (ad 3), .ref (ad 4), .ref (ad 5), .ref (ad 6), .ref (ad 7), .ref (ad 8), .ref (ad 10), .ref (ad 12)]) := F 1 (by decide)
  refine q_Vi (na := 1) (As := [.int j]) (rest := []) X hD hN h rfl (c_hasJar l G cI cB cZ cO ad w 1 _ _ _ _ _ _ j 0 rfl (by decide) f2) ⟨kw_16, kw_17, kw_18, kw_9, kw_19⟩ rfl ⟨by decide, by decide, by decide⟩ ⟨Nat.le_of_ble_eq_true rfl, Nat.le_of_ble_eq_true rfl⟩ ⟨Nat.zero_le _, Nat.zero_le _⟩ (by decide) f2 rfl rfl hl.1 rfl (Nat.le_of_ble_eq_true rfl) dX8_ask_5 (fun r3 w4 H locs hp5 h => ?_)
  obtain ⟨e6, hp5⟩ := hp5
  rcases hp5 with ⟨hq7a, hq7b, rfl⟩ | ⟨hq7, rfl⟩
  · exfalso; omega
  · refine lv_if_ne (tgt := 18) hx hb dX8_ask_8 (by decide) (fun hc => absurd hc (by decide)) (fun _ => ?_)
    refine lv_aload_n hx hb dX8_ask_11 rfl (lv_at hl 0 rfl) ?_
    refine lv_bipush (v := (-2)) hx hb dX8_ask_12 (by decide) ?_
    have f8 : w4 0 = .inr (6, [.ref (ad 1), .ref (ad 14), .ref (ad 27), .ref (ad 54), .ref (ad 55), .ref (ad 58), .ref (ad 62), .long 0, .long 1, .int 0, .int 0, .int 0]) := by rw [e6]; exact f1
    refine q_Vi (na := 1) (As := [.int (-2)]) (rest := []) X hD hN h rfl (c_refused l G cI cB cZ cO ad w4 _ _ _ _ _ _ _ _ _ _ _ _ (-2) f8) ⟨kw_11, kw_12, kw_13, kw_14, kw_15⟩ rfl ⟨by decide, by decide, by decide⟩ ⟨Nat.le_of_ble_eq_true rfl, Nat.le_of_ble_eq_true rfl⟩ ⟨Nat.zero_le _, Nat.zero_le _⟩ (by decide) f8 rfl rfl hl.1 rfl (Nat.le_of_ble_eq_true rfl) dX8_ask_14 (fun r9 w10 H locs hp11 h => ?_)
    obtain ⟨rfl, x12, y13, z14, e15⟩ := hp11
    have f16 : w10 0 = .inr (6, [.ref (ad 1), .ref (ad 14), .ref (ad 27), .ref (ad 54), .ref (ad 55), .ref (ad 58), .ref (ad 62), .long 0, .long 1, .int x12, .int y13, .int z14]) := (congrFun e15 _).trans (va_up_self _ _ _)
    exact e_i X h hr hlk dX8_ask_17 ⟨rfl, fun k hk => ((congrFun e15 k).trans (va_up_ne _ _ (by omega))).trans (congrFun e6 k)⟩

set_option maxHeartbeats 4000000 in
set_option maxRecDepth 100000 in
theorem c_X_spilt (l : Launch) (G : va_G) (cI cB cZ cO : ClassId) (ad : Nat → Nat) (w : Nat → va_E) (F : ∀ k, k < 74 → w k = fr0 cI cB cZ cO ad k) (j u x t : Int32) : MI l G (tyq cI cB cZ cO) yX8_spilt cX8_spilt 5 (some .int) 1 21 74 ad w [.ref (ad 0), .int j, .int u, .int x, .int t] (fun r w1 => r = (-2) ∧ ∀ k, 64 ≤ k → w1 k = w k) := by
  refine mk_i (own := "NoonShade") rfl (by decide) (Nat.le_of_ble_eq_true rfl) ?_
  intro p e s m below meth c ls X hD hN hr hlk h hl
  have hx := X.1.1
  have hb := X.1.2.1
  have hown := X.1.2.2.2.1
  have hts := X.1.2.2.2.2
  have hl : lv_has ls 5 [(0, .ref (ad 0)), (1, .int j), (2, .int u), (3, .int x), (4, .int t)] := hl
  refine lv_aload_n hx hb dX8_spilt_0 rfl (lv_at hl 0 rfl) ?_
  have f1 : w 0 = .inr (6, [.ref (ad 1), .ref (ad 14), .ref (ad 27), .ref (ad 54), .ref (ad 55), .ref (ad 58), .ref (ad 62), .long 0, .long 1, .int 0, .int 0, .int 0]) := F 0 (by decide)
  refine r_get kc8 X h 0 0 (by decide) rfl f1 (by decide) kw_5 rfl dX8_spilt_1 ?_
  refine lv_iload_n hx hb dX8_spilt_4 rfl (lv_at hl 1 rfl) ?_
  have f2 : w 1 = .inr (1, [.int 0, .int 0, .int 0, .int 0, .int 0, .ref (ad 2), .ref (ad 3), .ref (ad 4), .ref (ad 5), .ref (ad 6), .ref (ad 7), .ref (ad 8), .ref (ad 10), .ref (ad 12)]) := F 1 (by decide)
  refine q_Vi (na := 1) (As := [.int j]) (rest := []) X hD hN h rfl (c_hasJar l G cI cB cZ cO ad w 1 _ _ _ _ _ _ j 0 rfl (by decide) f2) ⟨kw_16, kw_17, kw_18, kw_9, kw_19⟩ rfl ⟨by decide, by decide, by decide⟩ ⟨Nat.le_of_ble_eq_true rfl, Nat.le_of_ble_eq_true rfl⟩ ⟨Nat.zero_le _, Nat.zero_le _⟩ (by decide) f2 rfl rfl hl.1 rfl (Nat.le_of_ble_eq_true rfl) dX8_spilt_5 (fun r3 w4 H locs hp5 h => ?_)
  obtain ⟨e6, hp5⟩ := hp5
  rcases hp5 with ⟨hq7a, hq7b, rfl⟩ | ⟨hq7, rfl⟩
  · exfalso; omega
  · refine lv_if_eq (tgt := 41) hx hb dX8_spilt_8 (by decide) (fun _ => ?_) (fun hc => absurd (by decide) hc)
    refine lv_aload_n hx hb dX8_spilt_41 rfl (lv_at hl 0 rfl) ?_
    refine lv_bipush (v := (-2)) hx hb dX8_spilt_42 (by decide) ?_
    have f8 : w4 0 = .inr (6, [.ref (ad 1), .ref (ad 14), .ref (ad 27), .ref (ad 54), .ref (ad 55), .ref (ad 58), .ref (ad 62), .long 0, .long 1, .int 0, .int 0, .int 0]) := by rw [e6]; exact f1
    refine q_Vi (na := 1) (As := [.int (-2)]) (rest := []) X hD hN h rfl (c_refused l G cI cB cZ cO ad w4 _ _ _ _ _ _ _ _ _ _ _ _ (-2) f8) ⟨kw_11, kw_12, kw_13, kw_14, kw_15⟩ rfl ⟨by decide, by decide, by decide⟩ ⟨Nat.le_of_ble_eq_true rfl, Nat.le_of_ble_eq_true rfl⟩ ⟨Nat.zero_le _, Nat.zero_le _⟩ (by decide) f8 rfl rfl hl.1 rfl (Nat.le_of_ble_eq_true rfl) dX8_spilt_44 (fun r9 w10 H locs hp11 h => ?_)
    obtain ⟨rfl, x12, y13, z14, e15⟩ := hp11
    have f16 : w10 0 = .inr (6, [.ref (ad 1), .ref (ad 14), .ref (ad 27), .ref (ad 54), .ref (ad 55), .ref (ad 58), .ref (ad 62), .long 0, .long 1, .int x12, .int y13, .int z14]) := (congrFun e15 _).trans (va_up_self _ _ _)
    exact e_i X h hr hlk dX8_spilt_47 ⟨rfl, fun k hk => ((congrFun e15 k).trans (va_up_ne _ _ (by omega))).trans (congrFun e6 k)⟩
