set_option maxHeartbeats 4000000 in
set_option maxRecDepth 100000 in
theorem c_X_ladle (l : Launch) (G : va_G) (cI cB cZ cO : ClassId) (ad : Nat → Nat) (w : Nat → va_E) (F : ∀ k, k < 74 → w k = fr0 cI cB cZ cO ad k) (i j : Int32) : MI l G (tyq cI cB cZ cO) yX8_ladle cX8_ladle 3 (some .int) 1 21 74 ad w [.ref (ad 0), .int i, .int j] (fun r w1 => r = (-2) ∧ ∀ k, 64 ≤ k → w1 k = w k) := by
  refine mk_i (own := "NoonShade") rfl (by decide) (Nat.le_of_ble_eq_true rfl) ?_
  intro p e s m below meth c ls X hD hN hr hlk h hl
  have hx := X.1.1
  have hb := X.1.2.1
  have hown := X.1.2.2.2.1
  have hts := X.1.2.2.2.2
  have hl : lv_has ls 3 [(0, .ref (ad 0)), (1, .int i), (2, .int j)] := hl
  refine lv_aload_n hx hb dX8_ladle_0 rfl (lv_at hl 0 rfl) ?_
  have f1 : w 0 = .inr (6, [.ref (ad 1), .ref (ad 14), .ref (ad 27), .ref (ad 54), .ref (ad 55), .ref (ad 58), .ref (ad 62), .long 0, .long 1, .int 0, .int 0, .int 0]) := F 0 (by decide)
  refine r_get kc8 X h 0 0 (by decide) rfl f1 (by decide) kw_5 rfl dX8_ladle_1 ?_
  refine lv_iload_n hx hb dX8_ladle_4 rfl (lv_at hl 1 rfl) ?_
  have f2 : w 1 = .inr (1, [.int 0, .int 0, .int 0, .int 0, .int 0, .ref (ad 2), .ref (ad 3), .ref (ad 4), .ref (ad 5), .ref (ad 6), .ref (ad 7), .ref (ad 8), .ref (ad 10), .ref (ad 12)]) := F 1 (by decide)
  refine q_Vi (na := 1) (As := [.int i]) (rest := []) X hD hN h rfl (c_hasCaster l G cI cB cZ cO ad w 1 _ _ _ _ _ _ i 0 rfl (by decide) f2) ⟨kw_6, kw_7, kw_8, kw_9, kw_10⟩ rfl ⟨by decide, by decide, by decide⟩ ⟨Nat.le_of_ble_eq_true rfl, Nat.le_of_ble_eq_true rfl⟩ ⟨Nat.zero_le _, Nat.zero_le _⟩ (by decide) f2 rfl rfl hl.1 rfl (Nat.le_of_ble_eq_true rfl) dX8_ladle_5 (fun r3 w4 H locs hp5 h => ?_)
  obtain ⟨e6, hp5⟩ := hp5
  rcases hp5 with ⟨hq7a, hq7b, rfl⟩ | ⟨hq7, rfl⟩
  · exfalso; omega
  · refine lv_if_eq (tgt := 22) hx hb dX8_ladle_8 (by decide) (fun _ => ?_) (fun hc => absurd (by decide) hc)
    refine lv_aload_n hx hb dX8_ladle_22 rfl (lv_at hl 0 rfl) ?_
    refine lv_bipush (v := (-2)) hx hb dX8_ladle_23 (by decide) ?_
    have f8 : w4 0 = .inr (6, [.ref (ad 1), .ref (ad 14), .ref (ad 27), .ref (ad 54), .ref (ad 55), .ref (ad 58), .ref (ad 62), .long 0, .long 1, .int 0, .int 0, .int 0]) := by rw [e6]; exact f1
    refine q_Vi (na := 1) (As := [.int (-2)]) (rest := []) X hD hN h rfl (c_refused l G cI cB cZ cO ad w4 _ _ _ _ _ _ _ _ _ _ _ _ (-2) f8) ⟨kw_11, kw_12, kw_13, kw_14, kw_15⟩ rfl ⟨by decide, by decide, by decide⟩ ⟨Nat.le_of_ble_eq_true rfl, Nat.le_of_ble_eq_true rfl⟩ ⟨Nat.zero_le _, Nat.zero_le _⟩ (by decide) f8 rfl rfl hl.1 rfl (Nat.le_of_ble_eq_true rfl) dX8_ladle_25 (fun r9 w10 H locs hp11 h => ?_)
    obtain ⟨rfl, x12, y13, z14, e15⟩ := hp11
    have f16 : w10 0 = .inr (6, [.ref (ad 1), .ref (ad 14), .ref (ad 27), .ref (ad 54), .ref (ad 55), .ref (ad 58), .ref (ad 62), .long 0, .long 1, .int x12, .int y13, .int z14]) := (congrFun e15 _).trans (va_up_self _ _ _)
    exact e_i X h hr hlk dX8_ladle_28 ⟨rfl, fun k hk => ((congrFun e15 k).trans (va_up_ne _ _ (by omega))).trans (congrFun e6 k)⟩

set_option maxHeartbeats 4000000 in
set_option maxRecDepth 100000 in
theorem c_X_pours (l : Launch) (G : va_G) (cI cB cZ cO : ClassId) (ad : Nat → Nat) (w : Nat → va_E) (F : ∀ k, k < 74 → w k = fr0 cI cB cZ cO ad k) (j k : Int32) : MI l G (tyq cI cB cZ cO) yX8_pours cX8_pours 3 (some .int) 1 21 74 ad w [.ref (ad 0), .int j, .int k] (fun r w1 => r = (-2) ∧ ∀ k, 64 ≤ k → w1 k = w k) := by
  refine mk_i (own := "NoonShade") rfl (by decide) (Nat.le_of_ble_eq_true rfl) ?_
  intro p e s m below meth c ls X hD hN hr hlk h hl
  have hx := X.1.1
  have hb := X.1.2.1
  have hown := X.1.2.2.2.1
  have hts := X.1.2.2.2.2
  have hl : lv_has ls 3 [(0, .ref (ad 0)), (1, .int j), (2, .int k)] := hl
  refine lv_aload_n hx hb dX8_pours_0 rfl (lv_at hl 0 rfl) ?_
  have f1 : w 0 = .inr (6, [.ref (ad 1), .ref (ad 14), .ref (ad 27), .ref (ad 54), .ref (ad 55), .ref (ad 58), .ref (ad 62), .long 0, .long 1, .int 0, .int 0, .int 0]) := F 0 (by decide)
  refine r_get kc8 X h 0 0 (by decide) rfl f1 (by decide) kw_5 rfl dX8_pours_1 ?_
  refine lv_iload_n hx hb dX8_pours_4 rfl (lv_at hl 1 rfl) ?_
  have f2 : w 1 = .inr (1, [.int 0, .int 0, .int 0, .int 0, .int 0, .ref (ad 2), .ref (ad 3), .ref (ad 4), .ref (ad 5), .ref (ad 6), .ref (ad 7), .ref (ad 8), .ref (ad 10), .ref (ad 12)]) := F 1 (by decide)
  refine q_Vi (na := 1) (As := [.int j]) (rest := []) X hD hN h rfl (c_hasJar l G cI cB cZ cO ad w 1 _ _ _ _ _ _ j 0 rfl (by decide) f2) ⟨kw_16, kw_17, kw_18, kw_9, kw_19⟩ rfl ⟨by decide, by decide, by decide⟩ ⟨Nat.le_of_ble_eq_true rfl, Nat.le_of_ble_eq_true rfl⟩ ⟨Nat.zero_le _, Nat.zero_le _⟩ (by decide) f2 rfl rfl hl.1 rfl (Nat.le_of_ble_eq_true rfl) dX8_pours_5 (fun r3 w4 H locs hp5 h => ?_)
  obtain ⟨e6, hp5⟩ := hp5
  rcases hp5 with ⟨hq7a, hq7b, rfl⟩ | ⟨hq7, rfl⟩
  · exfalso; omega
  · refine lv_if_eq (tgt := 27) hx hb dX8_pours_8 (by decide) (fun _ => ?_) (fun hc => absurd (by decide) hc)
    refine lv_aload_n hx hb dX8_pours_27 rfl (lv_at hl 0 rfl) ?_
    refine lv_bipush (v := (-2)) hx hb dX8_pours_28 (by decide) ?_
    have f8 : w4 0 = .inr (6, [.ref (ad 1), .ref (ad 14), .ref (ad 27), .ref (ad 54), .ref (ad 55), .ref (ad 58), .ref (ad 62), .long 0, .long 1, .int 0, .int 0, .int 0]) := by rw [e6]; exact f1
    refine q_Vi (na := 1) (As := [.int (-2)]) (rest := []) X hD hN h rfl (c_refused l G cI cB cZ cO ad w4 _ _ _ _ _ _ _ _ _ _ _ _ (-2) f8) ⟨kw_11, kw_12, kw_13, kw_14, kw_15⟩ rfl ⟨by decide, by decide, by decide⟩ ⟨Nat.le_of_ble_eq_true rfl, Nat.le_of_ble_eq_true rfl⟩ ⟨Nat.zero_le _, Nat.zero_le _⟩ (by decide) f8 rfl rfl hl.1 rfl (Nat.le_of_ble_eq_true rfl) dX8_pours_30 (fun r9 w10 H locs hp11 h => ?_)
    obtain ⟨rfl, x12, y13, z14, e15⟩ := hp11
    have f16 : w10 0 = .inr (6, [.ref (ad 1), .ref (ad 14), .ref (ad 27), .ref (ad 54), .ref (ad 55), .ref (ad 58), .ref (ad 62), .long 0, .long 1, .int x12, .int y13, .int z14]) := (congrFun e15 _).trans (va_up_self _ _ _)
    exact e_i X h hr hlk dX8_pours_33 ⟨rfl, fun k hk => ((congrFun e15 k).trans (va_up_ne _ _ (by omega))).trans (congrFun e6 k)⟩

set_option maxHeartbeats 4000000 in
set_option maxRecDepth 100000 in
theorem c_X_sells (l : Launch) (G : va_G) (cI cB cZ cO : ClassId) (ad : Nat → Nat) (w : Nat → va_E) (F : ∀ k, k < 74 → w k = fr0 cI cB cZ cO ad k) (j : Int32) : MI l G (tyq cI cB cZ cO) yX8_sells cX8_sells 2 (some .int) 1 21 74 ad w [.ref (ad 0), .int j] (fun r w1 => r = (-2) ∧ ∀ k, 64 ≤ k → w1 k = w k) := by
  refine mk_i (own := "NoonShade") rfl (by decide) (Nat.le_of_ble_eq_true rfl) ?_
  intro p e s m below meth c ls X hD hN hr hlk h hl
  have hx := X.1.1
  have hb := X.1.2.1
  have hown := X.1.2.2.2.1
  have hts := X.1.2.2.2.2
  have hl : lv_has ls 2 [(0, .ref (ad 0)), (1, .int j)] := hl
  refine lv_aload_n hx hb dX8_sells_0 rfl (lv_at hl 0 rfl) ?_
  have f1 : w 0 = .inr (6, [.ref (ad 1), .ref (ad 14), .ref (ad 27), .ref (ad 54), .ref (ad 55), .ref (ad 58), .ref (ad 62), .long 0, .long 1, .int 0, .int 0, .int 0]) := F 0 (by decide)
  refine r_get kc8 X h 0 0 (by decide) rfl f1 (by decide) kw_5 rfl dX8_sells_1 ?_
  refine lv_iload_n hx hb dX8_sells_4 rfl (lv_at hl 1 rfl) ?_
  have f2 : w 1 = .inr (1, [.int 0, .int 0, .int 0, .int 0, .int 0, .ref (ad 2), .ref (ad 3), .ref (ad 4), .ref (ad 5), .ref (ad 6), .ref (ad 7), .ref (ad 8), .ref (ad 10), .ref (ad 12)]) := F 1 (by decide)
  refine q_Vi (na := 1) (As := [.int j]) (rest := []) X hD hN h rfl (c_hasJar l G cI cB cZ cO ad w 1 _ _ _ _ _ _ j 0 rfl (by decide) f2) ⟨kw_16, kw_17, kw_18, kw_9, kw_19⟩ rfl ⟨by decide, by decide, by decide⟩ ⟨Nat.le_of_ble_eq_true rfl, Nat.le_of_ble_eq_true rfl⟩ ⟨Nat.zero_le _, Nat.zero_le _⟩ (by decide) f2 rfl rfl hl.1 rfl (Nat.le_of_ble_eq_true rfl) dX8_sells_5 (fun r3 w4 H locs hp5 h => ?_)
  obtain ⟨e6, hp5⟩ := hp5
  rcases hp5 with ⟨hq7a, hq7b, rfl⟩ | ⟨hq7, rfl⟩
  · exfalso; omega
  · refine lv_if_ne (tgt := 18) hx hb dX8_sells_8 (by decide) (fun hc => absurd (by decide) hc) (fun _ => ?_)
    refine lv_aload_n hx hb dX8_sells_11 rfl (lv_at hl 0 rfl) ?_
    refine lv_bipush (v := (-2)) hx hb dX8_sells_12 (by decide) ?_
    have f8 : w4 0 = .inr (6, [.ref (ad 1), .ref (ad 14), .ref (ad 27), .ref (ad 54), .ref (ad 55), .ref (ad 58), .ref (ad 62), .long 0, .long 1, .int 0, .int 0, .int 0]) := by rw [e6]; exact f1
    refine q_Vi (na := 1) (As := [.int (-2)]) (rest := []) X hD hN h rfl (c_refused l G cI cB cZ cO ad w4 _ _ _ _ _ _ _ _ _ _ _ _ (-2) f8) ⟨kw_11, kw_12, kw_13, kw_14, kw_15⟩ rfl ⟨by decide, by decide, by decide⟩ ⟨Nat.le_of_ble_eq_true rfl, Nat.le_of_ble_eq_true rfl⟩ ⟨Nat.zero_le _, Nat.zero_le _⟩ (by decide) f8 rfl rfl hl.1 rfl (Nat.le_of_ble_eq_true rfl) dX8_sells_14 (fun r9 w10 H locs hp11 h => ?_)
    obtain ⟨rfl, x12, y13, z14, e15⟩ := hp11
    have f16 : w10 0 = .inr (6, [.ref (ad 1), .ref (ad 14), .ref (ad 27), .ref (ad 54), .ref (ad 55), .ref (ad 58), .ref (ad 62), .long 0, .long 1, .int x12, .int y13, .int z14]) := (congrFun e15 _).trans (va_up_self _ _ _)
    exact e_i X h hr hlk dX8_sells_17 ⟨rfl, fun k hk => ((congrFun e15 k).trans (va_up_ne _ _ (by omega))).trans (congrFun e6 k)⟩

set_option maxHeartbeats 4000000 in
set_option maxRecDepth 100000 in
theorem c_X_of (l : Launch) (G : va_G) (cI cB cZ cO : ClassId) (ad : Nat → Nat) (w : Nat → va_E) (F : ∀ k, k < 74 → w k = fr0 cI cB cZ cO ad k) (i u : Int32) : MI l G (tyq cI cB cZ cO) yX8_of cX8_of 3 (some .int) 1 21 74 ad w [.ref (ad 0), .int i, .int u] (fun r w1 => r = (-2) ∧ ∀ k, 64 ≤ k → w1 k = w k) := by
  refine mk_i (own := "NoonShade") rfl (by decide) (Nat.le_of_ble_eq_true rfl) ?_
  intro p e s m below meth c ls X hD hN hr hlk h hl
  have hx := X.1.1
  have hb := X.1.2.1
  have hown := X.1.2.2.2.1
  have hts := X.1.2.2.2.2
  have hl : lv_has ls 3 [(0, .ref (ad 0)), (1, .int i), (2, .int u)] := hl
  refine lv_aload_n hx hb dX8_of_0 rfl (lv_at hl 0 rfl) ?_
  have f1 : w 0 = .inr (6, [.ref (ad 1), .ref (ad 14), .ref (ad 27), .ref (ad 54), .ref (ad 55), .ref (ad 58), .ref (ad 62), .long 0, .long 1, .int 0, .int 0, .int 0]) := F 0 (by decide)
  refine r_get kc8 X h 0 0 (by decide) rfl f1 (by decide) kw_5 rfl dX8_of_1 ?_
  refine lv_iload_n hx hb dX8_of_4 rfl (lv_at hl 1 rfl) ?_
  have f2 : w 1 = .inr (1, [.int 0, .int 0, .int 0, .int 0, .int 0, .ref (ad 2), .ref (ad 3), .ref (ad 4), .ref (ad 5), .ref (ad 6), .ref (ad 7), .ref (ad 8), .ref (ad 10), .ref (ad 12)]) := F 1 (by decide)
  refine q_Vi (na := 1) (As := [.int i]) (rest := []) X hD hN h rfl (c_hasCaster l G cI cB cZ cO ad w 1 _ _ _ _ _ _ i 0 rfl (by decide) f2) ⟨kw_6, kw_7, kw_8, kw_9, kw_10⟩ rfl ⟨by decide, by decide, by decide⟩ ⟨Nat.le_of_ble_eq_true rfl, Nat.le_of_ble_eq_true rfl⟩ ⟨Nat.zero_le _, Nat.zero_le _⟩ (by decide) f2 rfl rfl hl.1 rfl (Nat.le_of_ble_eq_true rfl) dX8_of_5 (fun r3 w4 H locs hp5 h => ?_)
  obtain ⟨e6, hp5⟩ := hp5
  rcases hp5 with ⟨hq7a, hq7b, rfl⟩ | ⟨hq7, rfl⟩
  · exfalso; omega
  · refine lv_if_ne (tgt := 18) hx hb dX8_of_8 (by decide) (fun hc => absurd (by decide) hc) (fun _ => ?_)
    refine lv_aload_n hx hb dX8_of_11 rfl (lv_at hl 0 rfl) ?_
    refine lv_bipush (v := (-2)) hx hb dX8_of_12 (by decide) ?_
    have f8 : w4 0 = .inr (6, [.ref (ad 1), .ref (ad 14), .ref (ad 27), .ref (ad 54), .ref (ad 55), .ref (ad 58), .ref (ad 62), .long 0, .long 1, .int 0, .int 0, .int 0]) := by rw [e6]; exact f1
    refine q_Vi (na := 1) (As := [.int (-2)]) (rest := []) X hD hN h rfl (c_refused l G cI cB cZ cO ad w4 _ _ _ _ _ _ _ _ _ _ _ _ (-2) f8) ⟨kw_11, kw_12, kw_13, kw_14, kw_15⟩ rfl ⟨by decide, by decide, by decide⟩ ⟨Nat.le_of_ble_eq_true rfl, Nat.le_of_ble_eq_true rfl⟩ ⟨Nat.zero_le _, Nat.zero_le _⟩ (by decide) f8 rfl rfl hl.1 rfl (Nat.le_of_ble_eq_true rfl) dX8_of_14 (fun r9 w10 H locs hp11 h => ?_)
    obtain ⟨rfl, x12, y13, z14, e15⟩ := hp11
    have f16 : w10 0 = .inr (6, [.ref (ad 1), .ref (ad 14), .ref (ad 27), .ref (ad 54), .ref (ad 55), .ref (ad 58), .ref (ad 62), .long 0, .long 1, .int x12, .int y13, .int z14]) := (congrFun e15 _).trans (va_up_self _ _ _)
    exact e_i X h hr hlk dX8_of_17 ⟨rfl, fun k hk => ((congrFun e15 k).trans (va_up_ne _ _ (by omega))).trans (congrFun e6 k)⟩

set_option maxHeartbeats 4000000 in
set_option maxRecDepth 100000 in
theorem c_X_about (l : Launch) (G : va_G) (cI cB cZ cO : ClassId) (ad : Nat → Nat) (w : Nat → va_E) (F : ∀ k, k < 74 → w k = fr0 cI cB cZ cO ad k) (j u : Int32) : MI l G (tyq cI cB cZ cO) yX8_about cX8_about 3 (some .int) 1 21 74 ad w [.ref (ad 0), .int j, .int u] (fun r w1 => r = (-2) ∧ ∀ k, 64 ≤ k → w1 k = w k) := by
  refine mk_i (own := "NoonShade") rfl (by decide) (Nat.le_of_ble_eq_true rfl) ?_
  intro p e s m below meth c ls X hD hN hr hlk h hl
  have hx := X.1.1
  have hb := X.1.2.1
  have hown := X.1.2.2.2.1
  have hts := X.1.2.2.2.2
  have hl : lv_has ls 3 [(0, .ref (ad 0)), (1, .int j), (2, .int u)] := hl
  refine lv_aload_n hx hb dX8_about_0 rfl (lv_at hl 0 rfl) ?_
  have f1 : w 0 = .inr (6, [.ref (ad 1), .ref (ad 14), .ref (ad 27), .ref (ad 54), .ref (ad 55), .ref (ad 58), .ref (ad 62), .long 0, .long 1, .int 0, .int 0, .int 0]) := F 0 (by decide)
  refine r_get kc8 X h 0 0 (by decide) rfl f1 (by decide) kw_5 rfl dX8_about_1 ?_
  refine lv_iload_n hx hb dX8_about_4 rfl (lv_at hl 1 rfl) ?_
  have f2 : w 1 = .inr (1, [.int 0, .int 0, .int 0, .int 0, .int 0, .ref (ad 2), .ref (ad 3), .ref (ad 4), .ref (ad 5), .ref (ad 6), .ref (ad 7), .ref (ad 8), .ref (ad 10), .ref (ad 12)]) := F 1 (by decide)
  refine q_Vi (na := 1) (As := [.int j]) (rest := []) X hD hN h rfl (c_hasJar l G cI cB cZ cO ad w 1 _ _ _ _ _ _ j 0 rfl (by decide) f2) ⟨kw_16, kw_17, kw_18, kw_9, kw_19⟩ rfl ⟨by decide, by decide, by decide⟩ ⟨Nat.le_of_ble_eq_true rfl, Nat.le_of_ble_eq_true rfl⟩ ⟨Nat.zero_le _, Nat.zero_le _⟩ (by decide) f2 rfl rfl hl.1 rfl (Nat.le_of_ble_eq_true rfl) dX8_about_5 (fun r3 w4 H locs hp5 h => ?_)
  obtain ⟨e6, hp5⟩ := hp5
  rcases hp5 with ⟨hq7a, hq7b, rfl⟩ | ⟨hq7, rfl⟩
  · exfalso; omega
  · refine lv_if_ne (tgt := 18) hx hb dX8_about_8 (by decide) (fun hc => absurd (by decide) hc) (fun _ => ?_)
    refine lv_aload_n hx hb dX8_about_11 rfl (lv_at hl 0 rfl) ?_
    refine lv_bipush (v := (-2)) hx hb dX8_about_12 (by decide) ?_
    have f8 : w4 0 = .inr (6, [.ref (ad 1), .ref (ad 14), .ref (ad 27), .ref (ad 54), .ref (ad 55), .ref (ad 58), .ref (ad 62), .long 0, .long 1, .int 0, .int 0, .int 0]) := by rw [e6]; exact f1
    refine q_Vi (na := 1) (As := [.int (-2)]) (rest := []) X hD hN h rfl (c_refused l G cI cB cZ cO ad w4 _ _ _ _ _ _ _ _ _ _ _ _ (-2) f8) ⟨kw_11, kw_12, kw_13, kw_14, kw_15⟩ rfl ⟨by decide, by decide, by decide⟩ ⟨Nat.le_of_ble_eq_true rfl, Nat.le_of_ble_eq_true rfl⟩ ⟨Nat.zero_le _, Nat.zero_le _⟩ (by decide) f8 rfl rfl hl.1 rfl (Nat.le_of_ble_eq_true rfl) dX8_about_14 (fun r9 w10 H locs hp11 h => ?_)
    obtain ⟨rfl, x12, y13, z14, e15⟩ := hp11
    have f16 : w10 0 = .inr (6, [.ref (ad 1), .ref (ad 14), .ref (ad 27), .ref (ad 54), .ref (ad 55), .ref (ad 58), .ref (ad 62), .long 0, .long 1, .int x12, .int y13, .int z14]) := (congrFun e15 _).trans (va_up_self _ _ _)
    exact e_i X h hr hlk dX8_about_17 ⟨rfl, fun k hk => ((congrFun e15 k).trans (va_up_ne _ _ (by omega))).trans (congrFun e6 k)⟩

set_option maxHeartbeats 4000000 in
set_option maxRecDepth 100000 in
theorem c_X_gives (l : Launch) (G : va_G) (cI cB cZ cO : ClassId) (ad : Nat → Nat) (w : Nat → va_E) (F : ∀ k, k < 74 → w k = fr0 cI cB cZ cO ad k) (i u : Int32) : MI l G (tyq cI cB cZ cO) yX8_gives cX8_gives 3 (some .int) 1 21 74 ad w [.ref (ad 0), .int i, .int u] (fun r w1 => r = (-2) ∧ ∀ k, 64 ≤ k → w1 k = w k) := by
  refine mk_i (own := "NoonShade") rfl (by decide) (Nat.le_of_ble_eq_true rfl) ?_
  intro p e s m below meth c ls X hD hN hr hlk h hl
  have hx := X.1.1
  have hb := X.1.2.1
  have hown := X.1.2.2.2.1
  have hts := X.1.2.2.2.2
  have hl : lv_has ls 3 [(0, .ref (ad 0)), (1, .int i), (2, .int u)] := hl
  refine lv_aload_n hx hb dX8_gives_0 rfl (lv_at hl 0 rfl) ?_
  have f1 : w 0 = .inr (6, [.ref (ad 1), .ref (ad 14), .ref (ad 27), .ref (ad 54), .ref (ad 55), .ref (ad 58), .ref (ad 62), .long 0, .long 1, .int 0, .int 0, .int 0]) := F 0 (by decide)
  refine r_get kc8 X h 0 0 (by decide) rfl f1 (by decide) kw_5 rfl dX8_gives_1 ?_
  refine lv_iload_n hx hb dX8_gives_4 rfl (lv_at hl 1 rfl) ?_
  have f2 : w 1 = .inr (1, [.int 0, .int 0, .int 0, .int 0, .int 0, .ref (ad 2), .ref (ad 3), .ref (ad 4), .ref (ad 5), .ref (ad 6), .ref (ad 7), .ref (ad 8), .ref (ad 10), .ref (ad 12)]) := F 1 (by decide)
  refine q_Vi (na := 1) (As := [.int i]) (rest := []) X hD hN h rfl (c_hasCaster l G cI cB cZ cO ad w 1 _ _ _ _ _ _ i 0 rfl (by decide) f2) ⟨kw_6, kw_7, kw_8, kw_9, kw_10⟩ rfl ⟨by decide, by decide, by decide⟩ ⟨Nat.le_of_ble_eq_true rfl, Nat.le_of_ble_eq_true rfl⟩ ⟨Nat.zero_le _, Nat.zero_le _⟩ (by decide) f2 rfl rfl hl.1 rfl (Nat.le_of_ble_eq_true rfl) dX8_gives_5 (fun r3 w4 H locs hp5 h => ?_)
  obtain ⟨e6, hp5⟩ := hp5
  rcases hp5 with ⟨hq7a, hq7b, rfl⟩ | ⟨hq7, rfl⟩
  · exfalso; omega
  · refine lv_if_eq (tgt := 21) hx hb dX8_gives_8 (by decide) (fun _ => ?_) (fun hc => absurd (by decide) hc)
    refine lv_aload_n hx hb dX8_gives_21 rfl (lv_at hl 0 rfl) ?_
    refine lv_bipush (v := (-2)) hx hb dX8_gives_22 (by decide) ?_
    have f8 : w4 0 = .inr (6, [.ref (ad 1), .ref (ad 14), .ref (ad 27), .ref (ad 54), .ref (ad 55), .ref (ad 58), .ref (ad 62), .long 0, .long 1, .int 0, .int 0, .int 0]) := by rw [e6]; exact f1
    refine q_Vi (na := 1) (As := [.int (-2)]) (rest := []) X hD hN h rfl (c_refused l G cI cB cZ cO ad w4 _ _ _ _ _ _ _ _ _ _ _ _ (-2) f8) ⟨kw_11, kw_12, kw_13, kw_14, kw_15⟩ rfl ⟨by decide, by decide, by decide⟩ ⟨Nat.le_of_ble_eq_true rfl, Nat.le_of_ble_eq_true rfl⟩ ⟨Nat.zero_le _, Nat.zero_le _⟩ (by decide) f8 rfl rfl hl.1 rfl (Nat.le_of_ble_eq_true rfl) dX8_gives_24 (fun r9 w10 H locs hp11 h => ?_)
    obtain ⟨rfl, x12, y13, z14, e15⟩ := hp11
    have f16 : w10 0 = .inr (6, [.ref (ad 1), .ref (ad 14), .ref (ad 27), .ref (ad 54), .ref (ad 55), .ref (ad 58), .ref (ad 62), .long 0, .long 1, .int x12, .int y13, .int z14]) := (congrFun e15 _).trans (va_up_self _ _ _)
    exact e_i X h hr hlk dX8_gives_27 ⟨rfl, fun k hk => ((congrFun e15 k).trans (va_up_ne _ _ (by omega))).trans (congrFun e6 k)⟩

set_option maxHeartbeats 4000000 in
set_option maxRecDepth 100000 in
theorem c_X_keeps (l : Launch) (G : va_G) (cI cB cZ cO : ClassId) (ad : Nat → Nat) (w : Nat → va_E) (F : ∀ k, k < 74 → w k = fr0 cI cB cZ cO ad k) (j u : Int32) : MI l G (tyq cI cB cZ cO) yX8_keeps cX8_keeps 3 (some .int) 1 21 74 ad w [.ref (ad 0), .int j, .int u] (fun r w1 => r = (-2) ∧ ∀ k, 64 ≤ k → w1 k = w k) := by
  refine mk_i (own := "NoonShade") rfl (by decide) (Nat.le_of_ble_eq_true rfl) ?_
  intro p e s m below meth c ls X hD hN hr hlk h hl
  have hx := X.1.1
  have hb := X.1.2.1
  have hown := X.1.2.2.2.1
  have hts := X.1.2.2.2.2
  have hl : lv_has ls 3 [(0, .ref (ad 0)), (1, .int j), (2, .int u)] := hl
  refine lv_aload_n hx hb dX8_keeps_0 rfl (lv_at hl 0 rfl) ?_
  have f1 : w 0 = .inr (6, [.ref (ad 1), .ref (ad 14), .ref (ad 27), .ref (ad 54), .ref (ad 55), .ref (ad 58), .ref (ad 62), .long 0, .long 1, .int 0, .int 0, .int 0]) := F 0 (by decide)
  refine r_get kc8 X h 0 0 (by decide) rfl f1 (by decide) kw_5 rfl dX8_keeps_1 ?_
  refine lv_iload_n hx hb dX8_keeps_4 rfl (lv_at hl 1 rfl) ?_
  have f2 : w 1 = .inr (1, [.int 0, .int 0, .int 0, .int 0, .int 0, .ref (ad 2), .ref (ad 3), .ref (ad 4), .ref (ad 5), .ref (ad 6), .ref (ad 7), .ref (ad 8), .ref (ad 10), .ref (ad 12)]) := F 1 (by decide)
  refine q_Vi (na := 1) (As := [.int j]) (rest := []) X hD hN h rfl (c_hasJar l G cI cB cZ cO ad w 1 _ _ _ _ _ _ j 0 rfl (by decide) f2) ⟨kw_16, kw_17, kw_18, kw_9, kw_19⟩ rfl ⟨by decide, by decide, by decide⟩ ⟨Nat.le_of_ble_eq_true rfl, Nat.le_of_ble_eq_true rfl⟩ ⟨Nat.zero_le _, Nat.zero_le _⟩ (by decide) f2 rfl rfl hl.1 rfl (Nat.le_of_ble_eq_true rfl) dX8_keeps_5 (fun r3 w4 H locs hp5 h => ?_)
  obtain ⟨e6, hp5⟩ := hp5
  rcases hp5 with ⟨hq7a, hq7b, rfl⟩ | ⟨hq7, rfl⟩
  · exfalso; omega
  · refine lv_if_eq (tgt := 21) hx hb dX8_keeps_8 (by decide) (fun _ => ?_) (fun hc => absurd (by decide) hc)
    refine lv_aload_n hx hb dX8_keeps_21 rfl (lv_at hl 0 rfl) ?_
    refine lv_bipush (v := (-2)) hx hb dX8_keeps_22 (by decide) ?_
    have f8 : w4 0 = .inr (6, [.ref (ad 1), .ref (ad 14), .ref (ad 27), .ref (ad 54), .ref (ad 55), .ref (ad 58), .ref (ad 62), .long 0, .long 1, .int 0, .int 0, .int 0]) := by rw [e6]; exact f1
    refine q_Vi (na := 1) (As := [.int (-2)]) (rest := []) X hD hN h rfl (c_refused l G cI cB cZ cO ad w4 _ _ _ _ _ _ _ _ _ _ _ _ (-2) f8) ⟨kw_11, kw_12, kw_13, kw_14, kw_15⟩ rfl ⟨by decide, by decide, by decide⟩ ⟨Nat.le_of_ble_eq_true rfl, Nat.le_of_ble_eq_true rfl⟩ ⟨Nat.zero_le _, Nat.zero_le _⟩ (by decide) f8 rfl rfl hl.1 rfl (Nat.le_of_ble_eq_true rfl) dX8_keeps_24 (fun r9 w10 H locs hp11 h => ?_)
    obtain ⟨rfl, x12, y13, z14, e15⟩ := hp11
    have f16 : w10 0 = .inr (6, [.ref (ad 1), .ref (ad 14), .ref (ad 27), .ref (ad 54), .ref (ad 55), .ref (ad 58), .ref (ad 62), .long 0, .long 1, .int x12, .int y13, .int z14]) := (congrFun e15 _).trans (va_up_self _ _ _)
    exact e_i X h hr hlk dX8_keeps_27 ⟨rfl, fun k hk => ((congrFun e15 k).trans (va_up_ne _ _ (by omega))).trans (congrFun e6 k)⟩

set_option maxHeartbeats 4000000 in
set_option maxRecDepth 100000 in
theorem c_X_when (l : Launch) (G : va_G) (cI cB cZ cO : ClassId) (ad : Nat → Nat) (w : Nat → va_E) (F : ∀ k, k < 74 → w k = fr0 cI cB cZ cO ad k) (i : Int32) : MI l G (tyq cI cB cZ cO) yX8_when cX8_when 4 (some .int) 1 21 74 ad w [.ref (ad 0), .int i] (fun r w1 => r = (-2) ∧ ∀ k, 64 ≤ k → w1 k = w k) := by
  refine mk_i (own := "NoonShade") rfl (by decide) (Nat.le_of_ble_eq_true rfl) ?_
  intro p e s m below meth c ls X hD hN hr hlk h hl
  have hx := X.1.1
  have hb := X.1.2.1
  have hown := X.1.2.2.2.1
  have hts := X.1.2.2.2.2
  have hl : lv_has ls 4 [(0, .ref (ad 0)), (1, .int i)] := hl
  refine lv_aload_n hx hb dX8_when_0 rfl (lv_at hl 0 rfl) ?_
  have f1 : w 0 = .inr (6, [.ref (ad 1), .ref (ad 14), .ref (ad 27), .ref (ad 54), .ref (ad 55), .ref (ad 58), .ref (ad 62), .long 0, .long 1, .int 0, .int 0, .int 0]) := F 0 (by decide)
  refine r_get kc8 X h 0 0 (by decide) rfl f1 (by decide) kw_5 rfl dX8_when_1 ?_
  refine lv_iload_n hx hb dX8_when_4 rfl (lv_at hl 1 rfl) ?_
  have f2 : w 1 = .inr (1, [.int 0, .int 0, .int 0, .int 0, .int 0, .ref (ad 2), .ref (ad 3), .ref (ad 4), .ref (ad 5), .ref (ad 6), .ref (ad 7), .ref (ad 8), .ref (ad 10), .ref (ad 12)]) := F 1 (by decide)
  refine q_Vi (na := 1) (As := [.int i]) (rest := []) X hD hN h rfl (c_hasCaster l G cI cB cZ cO ad w 1 _ _ _ _ _ _ i 0 rfl (by decide) f2) ⟨kw_6, kw_7, kw_8, kw_9, kw_10⟩ rfl ⟨by decide, by decide, by decide⟩ ⟨Nat.le_of_ble_eq_true rfl, Nat.le_of_ble_eq_true rfl⟩ ⟨Nat.zero_le _, Nat.zero_le _⟩ (by decide) f2 rfl rfl hl.1 rfl (Nat.le_of_ble_eq_true rfl) dX8_when_5 (fun r3 w4 H locs hp5 h => ?_)
  obtain ⟨e6, hp5⟩ := hp5
  rcases hp5 with ⟨hq7a, hq7b, rfl⟩ | ⟨hq7, rfl⟩
  · exfalso; omega
  · refine lv_if_ne (tgt := 18) hx hb dX8_when_8 (by decide) (fun hc => absurd (by decide) hc) (fun _ => ?_)
    refine lv_aload_n hx hb dX8_when_11 rfl (lv_at hl 0 rfl) ?_
    refine lv_bipush (v := (-2)) hx hb dX8_when_12 (by decide) ?_
    have f8 : w4 0 = .inr (6, [.ref (ad 1), .ref (ad 14), .ref (ad 27), .ref (ad 54), .ref (ad 55), .ref (ad 58), .ref (ad 62), .long 0, .long 1, .int 0, .int 0, .int 0]) := by rw [e6]; exact f1
    refine q_Vi (na := 1) (As := [.int (-2)]) (rest := []) X hD hN h rfl (c_refused l G cI cB cZ cO ad w4 _ _ _ _ _ _ _ _ _ _ _ _ (-2) f8) ⟨kw_11, kw_12, kw_13, kw_14, kw_15⟩ rfl ⟨by decide, by decide, by decide⟩ ⟨Nat.le_of_ble_eq_true rfl, Nat.le_of_ble_eq_true rfl⟩ ⟨Nat.zero_le _, Nat.zero_le _⟩ (by decide) f8 rfl rfl hl.1 rfl (Nat.le_of_ble_eq_true rfl) dX8_when_14 (fun r9 w10 H locs hp11 h => ?_)
    obtain ⟨rfl, x12, y13, z14, e15⟩ := hp11
    have f16 : w10 0 = .inr (6, [.ref (ad 1), .ref (ad 14), .ref (ad 27), .ref (ad 54), .ref (ad 55), .ref (ad 58), .ref (ad 62), .long 0, .long 1, .int x12, .int y13, .int z14]) := (congrFun e15 _).trans (va_up_self _ _ _)
    exact e_i X h hr hlk dX8_when_17 ⟨rfl, fun k hk => ((congrFun e15 k).trans (va_up_ne _ _ (by omega))).trans (congrFun e6 k)⟩

set_option maxHeartbeats 4000000 in
set_option maxRecDepth 100000 in
theorem c_X_gone (l : Launch) (G : va_G) (cI cB cZ cO : ClassId) (ad : Nat → Nat) (w : Nat → va_E) (F : ∀ k, k < 74 → w k = fr0 cI cB cZ cO ad k) (j : Int32) : MI l G (tyq cI cB cZ cO) yX8_gone cX8_gone 4 (some .int) 1 21 74 ad w [.ref (ad 0), .int j] (fun r w1 => r = (-2) ∧ ∀ k, 64 ≤ k → w1 k = w k) := by
  refine mk_i (own := "NoonShade") rfl (by decide) (Nat.le_of_ble_eq_true rfl) ?_
  intro p e s m below meth c ls X hD hN hr hlk h hl
  have hx := X.1.1
  have hb := X.1.2.1
  have hown := X.1.2.2.2.1
  have hts := X.1.2.2.2.2
  have hl : lv_has ls 4 [(0, .ref (ad 0)), (1, .int j)] := hl
  refine lv_aload_n hx hb dX8_gone_0 rfl (lv_at hl 0 rfl) ?_
  have f1 : w 0 = .inr (6, [.ref (ad 1), .ref (ad 14), .ref (ad 27), .ref (ad 54), .ref (ad 55), .ref (ad 58), .ref (ad 62), .long 0, .long 1, .int 0, .int 0, .int 0]) := F 0 (by decide)
  refine r_get kc8 X h 0 0 (by decide) rfl f1 (by decide) kw_5 rfl dX8_gone_1 ?_
  refine lv_iload_n hx hb dX8_gone_4 rfl (lv_at hl 1 rfl) ?_
  have f2 : w 1 = .inr (1, [.int 0, .int 0, .int 0, .int 0, .int 0, .ref (ad 2), .ref (ad 3), .ref (ad 4), .ref (ad 5), .ref (ad 6), .ref (ad 7), .ref (ad 8), .ref (ad 10), .ref (ad 12)]) := F 1 (by decide)
  refine q_Vi (na := 1) (As := [.int j]) (rest := []) X hD hN h rfl (c_hasJar l G cI cB cZ cO ad w 1 _ _ _ _ _ _ j 0 rfl (by decide) f2) ⟨kw_16, kw_17, kw_18, kw_9, kw_19⟩ rfl ⟨by decide, by decide, by decide⟩ ⟨Nat.le_of_ble_eq_true rfl, Nat.le_of_ble_eq_true rfl⟩ ⟨Nat.zero_le _, Nat.zero_le _⟩ (by decide) f2 rfl rfl hl.1 rfl (Nat.le_of_ble_eq_true rfl) dX8_gone_5 (fun r3 w4 H locs hp5 h => ?_)
  obtain ⟨e6, hp5⟩ := hp5
  rcases hp5 with ⟨hq7a, hq7b, rfl⟩ | ⟨hq7, rfl⟩
  · exfalso; omega
  · refine lv_if_ne (tgt := 18) hx hb dX8_gone_8 (by decide) (fun hc => absurd (by decide) hc) (fun _ => ?_)
    refine lv_aload_n hx hb dX8_gone_11 rfl (lv_at hl 0 rfl) ?_
    refine lv_bipush (v := (-2)) hx hb dX8_gone_12 (by decide) ?_
    have f8 : w4 0 = .inr (6, [.ref (ad 1), .ref (ad 14), .ref (ad 27), .ref (ad 54), .ref (ad 55), .ref (ad 58), .ref (ad 62), .long 0, .long 1, .int 0, .int 0, .int 0]) := by rw [e6]; exact f1
    refine q_Vi (na := 1) (As := [.int (-2)]) (rest := []) X hD hN h rfl (c_refused l G cI cB cZ cO ad w4 _ _ _ _ _ _ _ _ _ _ _ _ (-2) f8) ⟨kw_11, kw_12, kw_13, kw_14, kw_15⟩ rfl ⟨by decide, by decide, by decide⟩ ⟨Nat.le_of_ble_eq_true rfl, Nat.le_of_ble_eq_true rfl⟩ ⟨Nat.zero_le _, Nat.zero_le _⟩ (by decide) f8 rfl rfl hl.1 rfl (Nat.le_of_ble_eq_true rfl) dX8_gone_14 (fun r9 w10 H locs hp11 h => ?_)
    obtain ⟨rfl, x12, y13, z14, e15⟩ := hp11
    have f16 : w10 0 = .inr (6, [.ref (ad 1), .ref (ad 14), .ref (ad 27), .ref (ad 54), .ref (ad 55), .ref (ad 58), .ref (ad 62), .long 0, .long 1, .int x12, .int y13, .int z14]) := (congrFun e15 _).trans (va_up_self _ _ _)
    exact e_i X h hr hlk dX8_gone_17 ⟨rfl, fun k hk => ((congrFun e15 k).trans (va_up_ne _ _ (by omega))).trans (congrFun e6 k)⟩

set_option maxHeartbeats 4000000 in
set_option maxRecDepth 100000 in
theorem c_X_round (l : Launch) (G : va_G) (cI cB cZ cO : ClassId) (ad : Nat → Nat) (w : Nat → va_E) (F : ∀ k, k < 74 → w k = fr0 cI cB cZ cO ad k) (j n k : Int32) : MI l G (tyq cI cB cZ cO) yX8_round cX8_round 4 (some .int) 1 21 74 ad w [.ref (ad 0), .int j, .int n, .int k] (fun r w1 => r = (-10) ∧ ∀ k, 64 ≤ k → w1 k = w k) := by
  refine mk_i (own := "NoonShade") rfl (by decide) (Nat.le_of_ble_eq_true rfl) ?_
  intro p e s m below meth c ls X hD hN hr hlk h hl
  have hx := X.1.1
  have hb := X.1.2.1
  have hown := X.1.2.2.2.1
  have hts := X.1.2.2.2.2
  have hl : lv_has ls 4 [(0, .ref (ad 0)), (1, .int j), (2, .int n), (3, .int k)] := hl
  refine lv_aload_n hx hb dX8_round_0 rfl (lv_at hl 0 rfl) ?_
  have f1 : w 0 = .inr (6, [.ref (ad 1), .ref (ad 14), .ref (ad 27), .ref (ad 54), .ref (ad 55), .ref (ad 58), .ref (ad 62), .long 0, .long 1, .int 0, .int 0, .int 0]) := F 0 (by decide)
  refine r_get kc8 X h 0 0 (by decide) rfl f1 (by decide) kw_5 rfl dX8_round_1 ?_
  refine lv_iload_n hx hb dX8_round_4 rfl (lv_at hl 1 rfl) ?_
  have f2 : w 1 = .inr (1, [.int 0, .int 0, .int 0, .int 0, .int 0, .ref (ad 2), .ref (ad 3), .ref (ad 4), .ref (ad 5), .ref (ad 6), .ref (ad 7), .ref (ad 8), .ref (ad 10), .ref (ad 12)]) := F 1 (by decide)
  refine q_Vi (na := 1) (As := [.int j]) (rest := []) X hD hN h rfl (c_hasJar l G cI cB cZ cO ad w 1 _ _ _ _ _ _ j 0 rfl (by decide) f2) ⟨kw_16, kw_17, kw_18, kw_9, kw_19⟩ rfl ⟨by decide, by decide, by decide⟩ ⟨Nat.le_of_ble_eq_true rfl, Nat.le_of_ble_eq_true rfl⟩ ⟨Nat.zero_le _, Nat.zero_le _⟩ (by decide) f2 rfl rfl hl.1 rfl (Nat.le_of_ble_eq_true rfl) dX8_round_5 (fun r3 w4 H locs hp5 h => ?_)
  obtain ⟨e6, hp5⟩ := hp5
  rcases hp5 with ⟨hq7a, hq7b, rfl⟩ | ⟨hq7, rfl⟩
  · exfalso; omega
  · refine lv_if_eq (tgt := 30) hx hb dX8_round_8 (by decide) (fun _ => ?_) (fun hc => absurd (by decide) hc)
    refine lv_aload_n hx hb dX8_round_30 rfl (lv_at hl 0 rfl) ?_
    refine lv_bipush (v := (-2)) hx hb dX8_round_31 (by decide) ?_
    have f8 : w4 0 = .inr (6, [.ref (ad 1), .ref (ad 14), .ref (ad 27), .ref (ad 54), .ref (ad 55), .ref (ad 58), .ref (ad 62), .long 0, .long 1, .int 0, .int 0, .int 0]) := by rw [e6]; exact f1
    refine q_Vi (na := 1) (As := [.int (-2)]) (rest := []) X hD hN h rfl (c_refused l G cI cB cZ cO ad w4 _ _ _ _ _ _ _ _ _ _ _ _ (-2) f8) ⟨kw_11, kw_12, kw_13, kw_14, kw_15⟩ rfl ⟨by decide, by decide, by decide⟩ ⟨Nat.le_of_ble_eq_true rfl, Nat.le_of_ble_eq_true rfl⟩ ⟨Nat.zero_le _, Nat.zero_le _⟩ (by decide) f8 rfl rfl hl.1 rfl (Nat.le_of_ble_eq_true rfl) dX8_round_33 (fun r9 w10 H locs hp11 h => ?_)
    obtain ⟨rfl, x12, y13, z14, e15⟩ := hp11
    have f16 : w10 0 = .inr (6, [.ref (ad 1), .ref (ad 14), .ref (ad 27), .ref (ad 54), .ref (ad 55), .ref (ad 58), .ref (ad 62), .long 0, .long 1, .int x12, .int y13, .int z14]) := (congrFun e15 _).trans (va_up_self _ _ _)
    refine lv_pop hx hb dX8_round_36 rfl ?_
    refine lv_bipush (v := (-10)) hx hb dX8_round_37 (by decide) ?_
    exact e_i X h hr hlk dX8_round_39 ⟨rfl, fun k hk => ((congrFun e15 k).trans (va_up_ne _ _ (by omega))).trans (congrFun e6 k)⟩

set_option maxHeartbeats 4000000 in
set_option maxRecDepth 100000 in
theorem c_X_few (l : Launch) (G : va_G) (cI cB cZ cO : ClassId) (ad : Nat → Nat) (w : Nat → va_E) (F : ∀ k, k < 74 → w k = fr0 cI cB cZ cO ad k) (j t x u : Int32) : MI l G (tyq cI cB cZ cO) yX8_few cX8_few 6 (some .int) 1 21 74 ad w [.ref (ad 0), .int j, .int t, .int x, .int u] (fun r w1 => r = (-2) ∧ ∀ k, 64 ≤ k → w1 k = w k) := by
  refine mk_i (own := "NoonShade") rfl (by decide) (Nat.le_of_ble_eq_true rfl) ?_
  intro p e s m below meth c ls X hD hN hr hlk h hl
  have hx := X.1.1
  have hb := X.1.2.1
  have hown := X.1.2.2.2.1
  have hts := X.1.2.2.2.2
  have hl : lv_has ls 6 [(0, .ref (ad 0)), (1, .int j), (2, .int t), (3, .int x), (4, .int u)] := hl
  refine lv_aload_n hx hb dX8_few_0 rfl (lv_at hl 0 rfl) ?_
  have f1 : w 0 = .inr (6, [.ref (ad 1), .ref (ad 14), .ref (ad 27), .ref (ad 54), .ref (ad 55), .ref (ad 58), .ref (ad 62), .long 0, .long 1, .int 0, .int 0, .int 0]) := F 0 (by decide)
  refine r_get kc8 X h 0 0 (by decide) rfl f1 (by decide) kw_5 rfl dX8_few_1 ?_
  refine lv_iload_n hx hb dX8_few_4 rfl (lv_at hl 1 rfl) ?_
  have f2 : w 1 = .inr (1, [.int 0, .int 0, .int 0, .int 0, .int 0, .ref (ad 2), .ref (ad 3), .ref (ad 4), .ref (ad 5), .ref (ad 6), .ref (ad 7), .ref (ad 8), .ref (ad 10), .ref (ad 12)]) := F 1 (by decide)
  refine q_Vi (na := 1) (As := [.int j]) (rest := []) X hD hN h rfl (c_hasJar l G cI cB cZ cO ad w 1 _ _ _ _ _ _ j 0 rfl (by decide) f2) ⟨kw_16, kw_17, kw_18, kw_9, kw_19⟩ rfl ⟨by decide, by decide, by decide⟩ ⟨Nat.le_of_ble_eq_true rfl, Nat.le_of_ble_eq_true rfl⟩ ⟨Nat.zero_le _, Nat.zero_le _⟩ (by decide) f2 rfl rfl hl.1 rfl (Nat.le_of_ble_eq_true rfl) dX8_few_5 (fun r3 w4 H locs hp5 h => ?_)
  obtain ⟨e6, hp5⟩ := hp5
  rcases hp5 with ⟨hq7a, hq7b, rfl⟩ | ⟨hq7, rfl⟩
  · exfalso; omega
  · refine lv_if_eq (tgt := 40) hx hb dX8_few_8 (by decide) (fun _ => ?_) (fun hc => absurd (by decide) hc)
    refine lv_aload_n hx hb dX8_few_40 rfl (lv_at hl 0 rfl) ?_
    refine lv_bipush (v := (-2)) hx hb dX8_few_41 (by decide) ?_
    have f8 : w4 0 = .inr (6, [.ref (ad 1), .ref (ad 14), .ref (ad 27), .ref (ad 54), .ref (ad 55), .ref (ad 58), .ref (ad 62), .long 0, .long 1, .int 0, .int 0, .int 0]) := by rw [e6]; exact f1
    refine q_Vi (na := 1) (As := [.int (-2)]) (rest := []) X hD hN h rfl (c_refused l G cI cB cZ cO ad w4 _ _ _ _ _ _ _ _ _ _ _ _ (-2) f8) ⟨kw_11, kw_12, kw_13, kw_14, kw_15⟩ rfl ⟨by decide, by decide, by decide⟩ ⟨Nat.le_of_ble_eq_true rfl, Nat.le_of_ble_eq_true rfl⟩ ⟨Nat.zero_le _, Nat.zero_le _⟩ (by decide) f8 rfl rfl hl.1 rfl (Nat.le_of_ble_eq_true rfl) dX8_few_43 (fun r9 w10 H locs hp11 h => ?_)
    obtain ⟨rfl, x12, y13, z14, e15⟩ := hp11
    have f16 : w10 0 = .inr (6, [.ref (ad 1), .ref (ad 14), .ref (ad 27), .ref (ad 54), .ref (ad 55), .ref (ad 58), .ref (ad 62), .long 0, .long 1, .int x12, .int y13, .int z14]) := (congrFun e15 _).trans (va_up_self _ _ _)
    exact e_i X h hr hlk dX8_few_46 ⟨rfl, fun k hk => ((congrFun e15 k).trans (va_up_ne _ _ (by omega))).trans (congrFun e6 k)⟩

set_option maxHeartbeats 4000000 in
set_option maxRecDepth 100000 in
theorem c_X_into (l : Launch) (G : va_G) (cI cB cZ cO : ClassId) (ad : Nat → Nat) (w : Nat → va_E) (F : ∀ k, k < 74 → w k = fr0 cI cB cZ cO ad k) (j u x : Int32) : MI l G (tyq cI cB cZ cO) yX8_into cX8_into 8 (some .int) 1 21 74 ad w [.ref (ad 0), .int j, .int u, .int x] (fun r w1 => r = (-2) ∧ ∀ k, 64 ≤ k → w1 k = w k) := by
  refine mk_i (own := "NoonShade") rfl (by decide) (Nat.le_of_ble_eq_true rfl) ?_
  intro p e s m below meth c ls X hD hN hr hlk h hl
  have hx := X.1.1
  have hb := X.1.2.1
  have hown := X.1.2.2.2.1
  have hts := X.1.2.2.2.2
  have hl : lv_has ls 8 [(0, .ref (ad 0)), (1, .int j), (2, .int u), (3, .int x)] := hl
  refine lv_aload_n hx hb dX8_into_0 rfl (lv_at hl 0 rfl) ?_
  have f1 : w 0 = .inr (6, [.ref (ad 1), .ref (ad 14), .ref (ad 27), .ref (ad 54), .ref (ad 55), .ref (ad 58), .ref (ad 62), .long 0, .long 1, .int 0, .int 0, .int 0]) := F 0 (by decide)
  refine r_get kc8 X h 0 0 (by decide) rfl f1 (by decide) kw_5 rfl dX8_into_1 ?_
  refine lv_iload_n hx hb dX8_into_4 rfl (lv_at hl 1 rfl) ?_
  have f2 : w 1 = .inr (1, [.int 0, .int 0, .int 0, .int 0, .int 0, .ref (ad 2), .ref (ad 3), .ref (ad 4), .ref (ad 5), .ref (ad 6), .ref (ad 7), .ref (ad 8), .ref (ad 10), .ref (ad 12)]) := F 1 (by decide)
  refine q_Vi (na := 1) (As := [.int j]) (rest := []) X hD hN h rfl (c_hasJar l G cI cB cZ cO ad w 1 _ _ _ _ _ _ j 0 rfl (by decide) f2) ⟨kw_16, kw_17, kw_18, kw_9, kw_19⟩ rfl ⟨by decide, by decide, by decide⟩ ⟨Nat.le_of_ble_eq_true rfl, Nat.le_of_ble_eq_true rfl⟩ ⟨Nat.zero_le _, Nat.zero_le _⟩ (by decide) f2 rfl rfl hl.1 rfl (Nat.le_of_ble_eq_true rfl) dX8_into_5 (fun r3 w4 H locs hp5 h => ?_)
  obtain ⟨e6, hp5⟩ := hp5
  rcases hp5 with ⟨hq7a, hq7b, rfl⟩ | ⟨hq7, rfl⟩
  · exfalso; omega
  · refine lv_if_eq (tgt := 30) hx hb dX8_into_8 (by decide) (fun _ => ?_) (fun hc => absurd (by decide) hc)
    refine lv_aload_n hx hb dX8_into_30 rfl (lv_at hl 0 rfl) ?_
    refine lv_bipush (v := (-2)) hx hb dX8_into_31 (by decide) ?_
    have f8 : w4 0 = .inr (6, [.ref (ad 1), .ref (ad 14), .ref (ad 27), .ref (ad 54), .ref (ad 55), .ref (ad 58), .ref (ad 62), .long 0, .long 1, .int 0, .int 0, .int 0]) := by rw [e6]; exact f1
    refine q_Vi (na := 1) (As := [.int (-2)]) (rest := []) X hD hN h rfl (c_refused l G cI cB cZ cO ad w4 _ _ _ _ _ _ _ _ _ _ _ _ (-2) f8) ⟨kw_11, kw_12, kw_13, kw_14, kw_15⟩ rfl ⟨by decide, by decide, by decide⟩ ⟨Nat.le_of_ble_eq_true rfl, Nat.le_of_ble_eq_true rfl⟩ ⟨Nat.zero_le _, Nat.zero_le _⟩ (by decide) f8 rfl rfl hl.1 rfl (Nat.le_of_ble_eq_true rfl) dX8_into_33 (fun r9 w10 H locs hp11 h => ?_)
    obtain ⟨rfl, x12, y13, z14, e15⟩ := hp11
    have f16 : w10 0 = .inr (6, [.ref (ad 1), .ref (ad 14), .ref (ad 27), .ref (ad 54), .ref (ad 55), .ref (ad 58), .ref (ad 62), .long 0, .long 1, .int x12, .int y13, .int z14]) := (congrFun e15 _).trans (va_up_self _ _ _)
    exact e_i X h hr hlk dX8_into_36 ⟨rfl, fun k hk => ((congrFun e15 k).trans (va_up_ne _ _ (by omega))).trans (congrFun e6 k)⟩

set_option maxHeartbeats 4000000 in
set_option maxRecDepth 100000 in
theorem c_X_note (l : Launch) (G : va_G) (cI cB cZ cO : ClassId) (ad : Nat → Nat) (w : Nat → va_E) (F : ∀ k, k < 74 → w k = fr0 cI cB cZ cO ad k) (i u t x : Int32) : MI l G (tyq cI cB cZ cO) yX8_note cX8_note 5 (some .int) 1 21 74 ad w [.ref (ad 0), .int i, .int u, .int t, .int x] (fun r w1 => r = (-2) ∧ ∀ k, 64 ≤ k → w1 k = w k) := by
  refine mk_i (own := "NoonShade") rfl (by decide) (Nat.le_of_ble_eq_true rfl) ?_
  intro p e s m below meth c ls X hD hN hr hlk h hl
  have hx := X.1.1
  have hb := X.1.2.1
  have hown := X.1.2.2.2.1
  have hts := X.1.2.2.2.2
  have hl : lv_has ls 5 [(0, .ref (ad 0)), (1, .int i), (2, .int u), (3, .int t), (4, .int x)] := hl
  refine lv_aload_n hx hb dX8_note_0 rfl (lv_at hl 0 rfl) ?_
  have f1 : w 0 = .inr (6, [.ref (ad 1), .ref (ad 14), .ref (ad 27), .ref (ad 54), .ref (ad 55), .ref (ad 58), .ref (ad 62), .long 0, .long 1, .int 0, .int 0, .int 0]) := F 0 (by decide)
  refine r_get kc8 X h 0 0 (by decide) rfl f1 (by decide) kw_5 rfl dX8_note_1 ?_
  refine lv_iload_n hx hb dX8_note_4 rfl (lv_at hl 1 rfl) ?_
  have f2 : w 1 = .inr (1, [.int 0, .int 0, .int 0, .int 0, .int 0, .ref (ad 2), .ref (ad 3), .ref (ad 4), .ref (ad 5), .ref (ad 6), .ref (ad 7), .ref (ad 8), .ref (ad 10), .ref (ad 12)]) := F 1 (by decide)
  refine q_Vi (na := 1) (As := [.int i]) (rest := []) X hD hN h rfl (c_hasCaster l G cI cB cZ cO ad w 1 _ _ _ _ _ _ i 0 rfl (by decide) f2) ⟨kw_6, kw_7, kw_8, kw_9, kw_10⟩ rfl ⟨by decide, by decide, by decide⟩ ⟨Nat.le_of_ble_eq_true rfl, Nat.le_of_ble_eq_true rfl⟩ ⟨Nat.zero_le _, Nat.zero_le _⟩ (by decide) f2 rfl rfl hl.1 rfl (Nat.le_of_ble_eq_true rfl) dX8_note_5 (fun r3 w4 H locs hp5 h => ?_)
  obtain ⟨e6, hp5⟩ := hp5
  rcases hp5 with ⟨hq7a, hq7b, rfl⟩ | ⟨hq7, rfl⟩
  · exfalso; omega
  · refine lv_if_eq (tgt := 42) hx hb dX8_note_8 (by decide) (fun _ => ?_) (fun hc => absurd (by decide) hc)
    refine lv_aload_n hx hb dX8_note_42 rfl (lv_at hl 0 rfl) ?_
    refine lv_bipush (v := (-2)) hx hb dX8_note_43 (by decide) ?_
    have f8 : w4 0 = .inr (6, [.ref (ad 1), .ref (ad 14), .ref (ad 27), .ref (ad 54), .ref (ad 55), .ref (ad 58), .ref (ad 62), .long 0, .long 1, .int 0, .int 0, .int 0]) := by rw [e6]; exact f1
    refine q_Vi (na := 1) (As := [.int (-2)]) (rest := []) X hD hN h rfl (c_refused l G cI cB cZ cO ad w4 _ _ _ _ _ _ _ _ _ _ _ _ (-2) f8) ⟨kw_11, kw_12, kw_13, kw_14, kw_15⟩ rfl ⟨by decide, by decide, by decide⟩ ⟨Nat.le_of_ble_eq_true rfl, Nat.le_of_ble_eq_true rfl⟩ ⟨Nat.zero_le _, Nat.zero_le _⟩ (by decide) f8 rfl rfl hl.1 rfl (Nat.le_of_ble_eq_true rfl) dX8_note_45 (fun r9 w10 H locs hp11 h => ?_)
    obtain ⟨rfl, x12, y13, z14, e15⟩ := hp11
    have f16 : w10 0 = .inr (6, [.ref (ad 1), .ref (ad 14), .ref (ad 27), .ref (ad 54), .ref (ad 55), .ref (ad 58), .ref (ad 62), .long 0, .long 1, .int x12, .int y13, .int z14]) := (congrFun e15 _).trans (va_up_self _ _ _)
    exact e_i X h hr hlk dX8_note_48 ⟨rfl, fun k hk => ((congrFun e15 k).trans (va_up_ne _ _ (by omega))).trans (congrFun e6 k)⟩

set_option maxHeartbeats 4000000 in
set_option maxRecDepth 100000 in
theorem c_X_mark (l : Launch) (G : va_G) (cI cB cZ cO : ClassId) (ad : Nat → Nat) (w : Nat → va_E) (F : ∀ k, k < 74 → w k = fr0 cI cB cZ cO ad k) (j u t x : Int32) : MI l G (tyq cI cB cZ cO) yX8_mark cX8_mark 5 (some .int) 1 21 74 ad w [.ref (ad 0), .int j, .int u, .int t, .int x] (fun r w1 => r = (-2) ∧ ∀ k, 64 ≤ k → w1 k = w k) := by
  refine mk_i (own := "NoonShade") rfl (by decide) (Nat.le_of_ble_eq_true rfl) ?_
  intro p e s m below meth c ls X hD hN hr hlk h hl
  have hx := X.1.1
  have hb := X.1.2.1
  have hown := X.1.2.2.2.1
  have hts := X.1.2.2.2.2
  have hl : lv_has ls 5 [(0, .ref (ad 0)), (1, .int j), (2, .int u), (3, .int t), (4, .int x)] := hl
  refine lv_aload_n hx hb dX8_mark_0 rfl (lv_at hl 0 rfl) ?_
  have f1 : w 0 = .inr (6, [.ref (ad 1), .ref (ad 14), .ref (ad 27), .ref (ad 54), .ref (ad 55), .ref (ad 58), .ref (ad 62), .long 0, .long 1, .int 0, .int 0, .int 0]) := F 0 (by decide)
  refine r_get kc8 X h 0 0 (by decide) rfl f1 (by decide) kw_5 rfl dX8_mark_1 ?_
  refine lv_iload_n hx hb dX8_mark_4 rfl (lv_at hl 1 rfl) ?_
  have f2 : w 1 = .inr (1, [.int 0, .int 0, .int 0, .int 0, .int 0, .ref (ad 2), .ref (ad 3), .ref (ad 4), .ref (ad 5), .ref (ad 6), .ref (ad 7), .ref (ad 8), .ref (ad 10), .ref (ad 12)]) := F 1 (by decide)
  refine q_Vi (na := 1) (As := [.int j]) (rest := []) X hD hN h rfl (c_hasJar l G cI cB cZ cO ad w 1 _ _ _ _ _ _ j 0 rfl (by decide) f2) ⟨kw_16, kw_17, kw_18, kw_9, kw_19⟩ rfl ⟨by decide, by decide, by decide⟩ ⟨Nat.le_of_ble_eq_true rfl, Nat.le_of_ble_eq_true rfl⟩ ⟨Nat.zero_le _, Nat.zero_le _⟩ (by decide) f2 rfl rfl hl.1 rfl (Nat.le_of_ble_eq_true rfl) dX8_mark_5 (fun r3 w4 H locs hp5 h => ?_)
  obtain ⟨e6, hp5⟩ := hp5
  rcases hp5 with ⟨hq7a, hq7b, rfl⟩ | ⟨hq7, rfl⟩
  · exfalso; omega
  · refine lv_if_eq (tgt := 42) hx hb dX8_mark_8 (by decide) (fun _ => ?_) (fun hc => absurd (by decide) hc)
    refine lv_aload_n hx hb dX8_mark_42 rfl (lv_at hl 0 rfl) ?_
    refine lv_bipush (v := (-2)) hx hb dX8_mark_43 (by decide) ?_
    have f8 : w4 0 = .inr (6, [.ref (ad 1), .ref (ad 14), .ref (ad 27), .ref (ad 54), .ref (ad 55), .ref (ad 58), .ref (ad 62), .long 0, .long 1, .int 0, .int 0, .int 0]) := by rw [e6]; exact f1
    refine q_Vi (na := 1) (As := [.int (-2)]) (rest := []) X hD hN h rfl (c_refused l G cI cB cZ cO ad w4 _ _ _ _ _ _ _ _ _ _ _ _ (-2) f8) ⟨kw_11, kw_12, kw_13, kw_14, kw_15⟩ rfl ⟨by decide, by decide, by decide⟩ ⟨Nat.le_of_ble_eq_true rfl, Nat.le_of_ble_eq_true rfl⟩ ⟨Nat.zero_le _, Nat.zero_le _⟩ (by decide) f8 rfl rfl hl.1 rfl (Nat.le_of_ble_eq_true rfl) dX8_mark_45 (fun r9 w10 H locs hp11 h => ?_)
    obtain ⟨rfl, x12, y13, z14, e15⟩ := hp11
    have f16 : w10 0 = .inr (6, [.ref (ad 1), .ref (ad 14), .ref (ad 27), .ref (ad 54), .ref (ad 55), .ref (ad 58), .ref (ad 62), .long 0, .long 1, .int x12, .int y13, .int z14]) := (congrFun e15 _).trans (va_up_self _ _ _)
    exact e_i X h hr hlk dX8_mark_48 ⟨rfl, fun k hk => ((congrFun e15 k).trans (va_up_ne _ _ (by omega))).trans (congrFun e6 k)⟩

set_option maxHeartbeats 4000000 in
set_option maxRecDepth 100000 in
theorem c_X_is (l : Launch) (G : va_G) (cI cB cZ cO : ClassId) (ad : Nat → Nat) (w : Nat → va_E) (F : ∀ k, k < 74 → w k = fr0 cI cB cZ cO ad k) (i : Int32) : MI l G (tyq cI cB cZ cO) yX8_is cX8_is 2 (some .int) 1 21 74 ad w [.ref (ad 0), .int i] (fun r w1 => r = (-2) ∧ ∀ k, 64 ≤ k → w1 k = w k) := by
  refine mk_i (own := "NoonShade") rfl (by decide) (Nat.le_of_ble_eq_true rfl) ?_
  intro p e s m below meth c ls X hD hN hr hlk h hl
  have hx := X.1.1
  have hb := X.1.2.1
  have hown := X.1.2.2.2.1
  have hts := X.1.2.2.2.2
  have hl : lv_has ls 2 [(0, .ref (ad 0)), (1, .int i)] := hl
  refine lv_aload_n hx hb dX8_is_0 rfl (lv_at hl 0 rfl) ?_
  have f1 : w 0 = .inr (6, [.ref (ad 1), .ref (ad 14), .ref (ad 27), .ref (ad 54), .ref (ad 55), .ref (ad 58), .ref (ad 62), .long 0, .long 1, .int 0, .int 0, .int 0]) := F 0 (by decide)
  refine r_get kc8 X h 0 0 (by decide) rfl f1 (by decide) kw_5 rfl dX8_is_1 ?_
  refine lv_iload_n hx hb dX8_is_4 rfl (lv_at hl 1 rfl) ?_
  have f2 : w 1 = .inr (1, [.int 0, .int 0, .int 0, .int 0, .int 0, .ref (ad 2), .ref (ad 3), .ref (ad 4), .ref (ad 5), .ref (ad 6), .ref (ad 7), .ref (ad 8), .ref (ad 10), .ref (ad 12)]) := F 1 (by decide)
  refine q_Vi (na := 1) (As := [.int i]) (rest := []) X hD hN h rfl (c_hasCaster l G cI cB cZ cO ad w 1 _ _ _ _ _ _ i 0 rfl (by decide) f2) ⟨kw_6, kw_7, kw_8, kw_9, kw_10⟩ rfl ⟨by decide, by decide, by decide⟩ ⟨Nat.le_of_ble_eq_true rfl, Nat.le_of_ble_eq_true rfl⟩ ⟨Nat.zero_le _, Nat.zero_le _⟩ (by decide) f2 rfl rfl hl.1 rfl (Nat.le_of_ble_eq_true rfl) dX8_is_5 (fun r3 w4 H locs hp5 h => ?_)
  obtain ⟨e6, hp5⟩ := hp5
  rcases hp5 with ⟨hq7a, hq7b, rfl⟩ | ⟨hq7, rfl⟩
  · exfalso; omega
  · refine lv_if_ne (tgt := 18) hx hb dX8_is_8 (by decide) (fun hc => absurd (by decide) hc) (fun _ => ?_)
    refine lv_aload_n hx hb dX8_is_11 rfl (lv_at hl 0 rfl) ?_
    refine lv_bipush (v := (-2)) hx hb dX8_is_12 (by decide) ?_
    have f8 : w4 0 = .inr (6, [.ref (ad 1), .ref (ad 14), .ref (ad 27), .ref (ad 54), .ref (ad 55), .ref (ad 58), .ref (ad 62), .long 0, .long 1, .int 0, .int 0, .int 0]) := by rw [e6]; exact f1
    refine q_Vi (na := 1) (As := [.int (-2)]) (rest := []) X hD hN h rfl (c_refused l G cI cB cZ cO ad w4 _ _ _ _ _ _ _ _ _ _ _ _ (-2) f8) ⟨kw_11, kw_12, kw_13, kw_14, kw_15⟩ rfl ⟨by decide, by decide, by decide⟩ ⟨Nat.le_of_ble_eq_true rfl, Nat.le_of_ble_eq_true rfl⟩ ⟨Nat.zero_le _, Nat.zero_le _⟩ (by decide) f8 rfl rfl hl.1 rfl (Nat.le_of_ble_eq_true rfl) dX8_is_14 (fun r9 w10 H locs hp11 h => ?_)
    obtain ⟨rfl, x12, y13, z14, e15⟩ := hp11
    have f16 : w10 0 = .inr (6, [.ref (ad 1), .ref (ad 14), .ref (ad 27), .ref (ad 54), .ref (ad 55), .ref (ad 58), .ref (ad 62), .long 0, .long 1, .int x12, .int y13, .int z14]) := (congrFun e15 _).trans (va_up_self _ _ _)
    exact e_i X h hr hlk dX8_is_17 ⟨rfl, fun k hk => ((congrFun e15 k).trans (va_up_ne _ _ (by omega))).trans (congrFun e6 k)⟩

set_option maxHeartbeats 4000000 in
set_option maxRecDepth 100000 in
theorem c_X_look (l : Launch) (G : va_G) (cI cB cZ cO : ClassId) (ad : Nat → Nat) (w : Nat → va_E) (F : ∀ k, k < 74 → w k = fr0 cI cB cZ cO ad k) (i : Int32) : MI l G (tyq cI cB cZ cO) yX8_look cX8_look 4 (some .int) 1 21 74 ad w [.ref (ad 0), .int i] (fun r w1 => r = (-2) ∧ ∀ k, 64 ≤ k → w1 k = w k) := by
  refine mk_i (own := "NoonShade") rfl (by decide) (Nat.le_of_ble_eq_true rfl) ?_
  intro p e s m below meth c ls X hD hN hr hlk h hl
  have hx := X.1.1
  have hb := X.1.2.1
  have hown := X.1.2.2.2.1
  have hts := X.1.2.2.2.2
  have hl : lv_has ls 4 [(0, .ref (ad 0)), (1, .int i)] := hl
  refine lv_aload_n hx hb dX8_look_0 rfl (lv_at hl 0 rfl) ?_
  have f1 : w 0 = .inr (6, [.ref (ad 1), .ref (ad 14), .ref (ad 27), .ref (ad 54), .ref (ad 55), .ref (ad 58), .ref (ad 62), .long 0, .long 1, .int 0, .int 0, .int 0]) := F 0 (by decide)
  refine r_get kc8 X h 0 0 (by decide) rfl f1 (by decide) kw_5 rfl dX8_look_1 ?_
  refine lv_iload_n hx hb dX8_look_4 rfl (lv_at hl 1 rfl) ?_
  have f2 : w 1 = .inr (1, [.int 0, .int 0, .int 0, .int 0, .int 0, .ref (ad 2), .ref (ad 3), .ref (ad 4), .ref (ad 5), .ref (ad 6), .ref (ad 7), .ref (ad 8), .ref (ad 10), .ref (ad 12)]) := F 1 (by decide)
  refine q_Vi (na := 1) (As := [.int i]) (rest := []) X hD hN h rfl (c_hasCaster l G cI cB cZ cO ad w 1 _ _ _ _ _ _ i 0 rfl (by decide) f2) ⟨kw_6, kw_7, kw_8, kw_9, kw_10⟩ rfl ⟨by decide, by decide, by decide⟩ ⟨Nat.le_of_ble_eq_true rfl, Nat.le_of_ble_eq_true rfl⟩ ⟨Nat.zero_le _, Nat.zero_le _⟩ (by decide) f2 rfl rfl hl.1 rfl (Nat.le_of_ble_eq_true rfl) dX8_look_5 (fun r3 w4 H locs hp5 h => ?_)
  obtain ⟨e6, hp5⟩ := hp5
  rcases hp5 with ⟨hq7a, hq7b, rfl⟩ | ⟨hq7, rfl⟩
  · exfalso; omega
  · refine lv_if_ne (tgt := 18) hx hb dX8_look_8 (by decide) (fun hc => absurd (by decide) hc) (fun _ => ?_)
    refine lv_aload_n hx hb dX8_look_11 rfl (lv_at hl 0 rfl) ?_
    refine lv_bipush (v := (-2)) hx hb dX8_look_12 (by decide) ?_
    have f8 : w4 0 = .inr (6, [.ref (ad 1), .ref (ad 14), .ref (ad 27), .ref (ad 54), .ref (ad 55), .ref (ad 58), .ref (ad 62), .long 0, .long 1, .int 0, .int 0, .int 0]) := by rw [e6]; exact f1
    refine q_Vi (na := 1) (As := [.int (-2)]) (rest := []) X hD hN h rfl (c_refused l G cI cB cZ cO ad w4 _ _ _ _ _ _ _ _ _ _ _ _ (-2) f8) ⟨kw_11, kw_12, kw_13, kw_14, kw_15⟩ rfl ⟨by decide, by decide, by decide⟩ ⟨Nat.le_of_ble_eq_true rfl, Nat.le_of_ble_eq_true rfl⟩ ⟨Nat.zero_le _, Nat.zero_le _⟩ (by decide) f8 rfl rfl hl.1 rfl (Nat.le_of_ble_eq_true rfl) dX8_look_14 (fun r9 w10 H locs hp11 h => ?_)
    obtain ⟨rfl, x12, y13, z14, e15⟩ := hp11
    have f16 : w10 0 = .inr (6, [.ref (ad 1), .ref (ad 14), .ref (ad 27), .ref (ad 54), .ref (ad 55), .ref (ad 58), .ref (ad 62), .long 0, .long 1, .int x12, .int y13, .int z14]) := (congrFun e15 _).trans (va_up_self _ _ _)
    exact e_i X h hr hlk dX8_look_17 ⟨rfl, fun k hk => ((congrFun e15 k).trans (va_up_ne _ _ (by omega))).trans (congrFun e6 k)⟩

set_option maxHeartbeats 4000000 in
set_option maxRecDepth 100000 in
theorem c_X_kinds (l : Launch) (G : va_G) (cI cB cZ cO : ClassId) (ad : Nat → Nat) (w : Nat → va_E) (F : ∀ k, k < 74 → w k = fr0 cI cB cZ cO ad k) (j : Int32) : MI l G (tyq cI cB cZ cO) yX8_kinds cX8_kinds 2 (some .int) 1 21 74 ad w [.ref (ad 0), .int j] (fun r w1 => r = (-2) ∧ ∀ k, 64 ≤ k → w1 k = w k) := by
  refine mk_i (own := "NoonShade") rfl (by decide) (Nat.le_of_ble_eq_true rfl) ?_
  intro p e s m below meth c ls X hD hN hr hlk h hl
  have hx := X.1.1
  have hb := X.1.2.1
  have hown := X.1.2.2.2.1
  have hts := X.1.2.2.2.2
  have hl : lv_has ls 2 [(0, .ref (ad 0)), (1, .int j)] := hl
  refine lv_aload_n hx hb dX8_kinds_0 rfl (lv_at hl 0 rfl) ?_
  have f1 : w 0 = .inr (6, [.ref (ad 1), .ref (ad 14), .ref (ad 27), .ref (ad 54), .ref (ad 55), .ref (ad 58), .ref (ad 62), .long 0, .long 1, .int 0, .int 0, .int 0]) := F 0 (by decide)
  refine r_get kc8 X h 0 0 (by decide) rfl f1 (by decide) kw_5 rfl dX8_kinds_1 ?_
  refine lv_iload_n hx hb dX8_kinds_4 rfl (lv_at hl 1 rfl) ?_
  have f2 : w 1 = .inr (1, [.int 0, .int 0, .int 0, .int 0, .int 0, .ref (ad 2), .ref (ad 3), .ref (ad 4), .ref (ad 5), .ref (ad 6), .ref (ad 7), .ref (ad 8), .ref (ad 10), .ref (ad 12)]) := F 1 (by decide)
  refine q_Vi (na := 1) (As := [.int j]) (rest := []) X hD hN h rfl (c_hasJar l G cI cB cZ cO ad w 1 _ _ _ _ _ _ j 0 rfl (by decide) f2) ⟨kw_16, kw_17, kw_18, kw_9, kw_19⟩ rfl ⟨by decide, by decide, by decide⟩ ⟨Nat.le_of_ble_eq_true rfl, Nat.le_of_ble_eq_true rfl⟩ ⟨Nat.zero_le _, Nat.zero_le _⟩ (by decide) f2 rfl rfl hl.1 rfl (Nat.le_of_ble_eq_true rfl) dX8_kinds_5 (fun r3 w4 H locs hp5 h => ?_)
  obtain ⟨e6, hp5⟩ := hp5
  rcases hp5 with ⟨hq7a, hq7b, rfl⟩ | ⟨hq7, rfl⟩
  · exfalso; omega
  · refine lv_if_ne (tgt := 18) hx hb dX8_kinds_8 (by decide) (fun hc => absurd (by decide) hc) (fun _ => ?_)
    refine lv_aload_n hx hb dX8_kinds_11 rfl (lv_at hl 0 rfl) ?_
    refine lv_bipush (v := (-2)) hx hb dX8_kinds_12 (by decide) ?_
    have f8 : w4 0 = .inr (6, [.ref (ad 1), .ref (ad 14), .ref (ad 27), .ref (ad 54), .ref (ad 55), .ref (ad 58), .ref (ad 62), .long 0, .long 1, .int 0, .int 0, .int 0]) := by rw [e6]; exact f1
    refine q_Vi (na := 1) (As := [.int (-2)]) (rest := []) X hD hN h rfl (c_refused l G cI cB cZ cO ad w4 _ _ _ _ _ _ _ _ _ _ _ _ (-2) f8) ⟨kw_11, kw_12, kw_13, kw_14, kw_15⟩ rfl ⟨by decide, by decide, by decide⟩ ⟨Nat.le_of_ble_eq_true rfl, Nat.le_of_ble_eq_true rfl⟩ ⟨Nat.zero_le _, Nat.zero_le _⟩ (by decide) f8 rfl rfl hl.1 rfl (Nat.le_of_ble_eq_true rfl) dX8_kinds_14 (fun r9 w10 H locs hp11 h => ?_)
    obtain ⟨rfl, x12, y13, z14, e15⟩ := hp11
    have f16 : w10 0 = .inr (6, [.ref (ad 1), .ref (ad 14), .ref (ad 27), .ref (ad 54), .ref (ad 55), .ref (ad 58), .ref (ad 62), .long 0, .long 1, .int x12, .int y13, .int z14]) := (congrFun e15 _).trans (va_up_self _ _ _)
    exact e_i X h hr hlk dX8_kinds_17 ⟨rfl, fun k hk => ((congrFun e15 k).trans (va_up_ne _ _ (by omega))).trans (congrFun e6 k)⟩

set_option maxHeartbeats 4000000 in
set_option maxRecDepth 100000 in
theorem c_X_ask (l : Launch) (G : va_G) (cI cB cZ cO : ClassId) (ad : Nat → Nat) (w : Nat → va_E) (F : ∀ k, k < 74 → w k = fr0 cI cB cZ cO ad k) (j : Int32) : MI l G (tyq cI cB cZ cO) yX8_ask cX8_ask 3 (some .int) 1 21 74 ad w [.ref (ad 0), .int j] (fun r w1 => r = (-2) ∧ ∀ k, 64 ≤ k → w1 k = w k) := by
  refine mk_i (own := "NoonShade") rfl (by decide) (Nat.le_of_ble_eq_true rfl) ?_
  intro p e s m below meth c ls X hD hN hr hlk h hl
  have hx := X.1.1
  have hb := X.1.2.1
  have hown := X.1.2.2.2.1
  have hts := X.1.2.2.2.2
  have hl : lv_has ls 3 [(0, .ref (ad 0)), (1, .int j)] := hl
  refine lv_aload_n hx hb dX8_ask_0 rfl (lv_at hl 0 rfl) ?_
  have f1 : w 0 = .inr (6, [.ref (ad 1), .ref (ad 14), .ref (ad 27), .ref (ad 54), .ref (ad 55), .ref (ad 58), .ref (ad 62), .long 0, .long 1, .int 0, .int 0, .int 0]) := F 0 (by decide)
  refine r_get kc8 X h 0 0 (by decide) rfl f1 (by decide) kw_5 rfl dX8_ask_1 ?_
  refine lv_iload_n hx hb dX8_ask_4 rfl (lv_at hl 1 rfl) ?_
  have f2 : w 1 = .inr (1, [.int 0, .int 0, .int 0, .int 0, .int 0, .ref (ad 2), .ref (ad 3), .ref (ad 4), .ref (ad 5), .ref (ad 6), .ref (ad 7), .ref (ad 8), .ref (ad 10), .ref (ad 12)]) := F 1 (by decide)
  refine q_Vi (na := 1) (As := [.int j]) (rest := []) X hD hN h rfl (c_hasJar l G cI cB cZ cO ad w 1 _ _ _ _ _ _ j 0 rfl (by decide) f2) ⟨kw_16, kw_17, kw_18, kw_9, kw_19⟩ rfl ⟨by decide, by decide, by decide⟩ ⟨Nat.le_of_ble_eq_true rfl, Nat.le_of_ble_eq_true rfl⟩ ⟨Nat.zero_le _, Nat.zero_le _⟩ (by decide) f2 rfl rfl hl.1 rfl (Nat.le_of_ble_eq_true rfl) dX8_ask_5 (fun r3 w4 H locs hp5 h => ?_)
  obtain ⟨e6, hp5⟩ := hp5
  rcases hp5 with ⟨hq7a, hq7b, rfl⟩ | ⟨hq7, rfl⟩
  · exfalso; omega
  · refine lv_if_ne (tgt := 18) hx hb dX8_ask_8 (by decide) (fun hc => absurd (by decide) hc) (fun _ => ?_)
    refine lv_aload_n hx hb dX8_ask_11 rfl (lv_at hl 0 rfl) ?_
    refine lv_bipush (v := (-2)) hx hb dX8_ask_12 (by decide) ?_
    have f8 : w4 0 = .inr (6, [.ref (ad 1), .ref (ad 14), .ref (ad 27), .ref (ad 54), .ref (ad 55), .ref (ad 58), .ref (ad 62), .long 0, .long 1, .int 0, .int 0, .int 0]) := by rw [e6]; exact f1
    refine q_Vi (na := 1) (As := [.int (-2)]) (rest := []) X hD hN h rfl (c_refused l G cI cB cZ cO ad w4 _ _ _ _ _ _ _ _ _ _ _ _ (-2) f8) ⟨kw_11, kw_12, kw_13, kw_14, kw_15⟩ rfl ⟨by decide, by decide, by decide⟩ ⟨Nat.le_of_ble_eq_true rfl, Nat.le_of_ble_eq_true rfl⟩ ⟨Nat.zero_le _, Nat.zero_le _⟩ (by decide) f8 rfl rfl hl.1 rfl (Nat.le_of_ble_eq_true rfl) dX8_ask_14 (fun r9 w10 H locs hp11 h => ?_)
    obtain ⟨rfl, x12, y13, z14, e15⟩ := hp11
    have f16 : w10 0 = .inr (6, [.ref (ad 1), .ref (ad 14), .ref (ad 27), .ref (ad 54), .ref (ad 55), .ref (ad 58), .ref (ad 62), .long 0, .long 1, .int x12, .int y13, .int z14]) := (congrFun e15 _).trans (va_up_self _ _ _)
    exact e_i X h hr hlk dX8_ask_17 ⟨rfl, fun k hk => ((congrFun e15 k).trans (va_up_ne _ _ (by omega))).trans (congrFun e6 k)⟩

set_option maxHeartbeats 4000000 in
set_option maxRecDepth 100000 in
theorem c_X_spilt (l : Launch) (G : va_G) (cI cB cZ cO : ClassId) (ad : Nat → Nat) (w : Nat → va_E) (F : ∀ k, k < 74 → w k = fr0 cI cB cZ cO ad k) (j u x t : Int32) : MI l G (tyq cI cB cZ cO) yX8_spilt cX8_spilt 5 (some .int) 1 21 74 ad w [.ref (ad 0), .int j, .int u, .int x, .int t] (fun r w1 => r = (-2) ∧ ∀ k, 64 ≤ k → w1 k = w k) := by
  refine mk_i (own := "NoonShade") rfl (by decide) (Nat.le_of_ble_eq_true rfl) ?_
  intro p e s m below meth c ls X hD hN hr hlk h hl
  have hx := X.1.1
  have hb := X.1.2.1
  have hown := X.1.2.2.2.1
  have hts := X.1.2.2.2.2
  have hl : lv_has ls 5 [(0, .ref (ad 0)), (1, .int j), (2, .int u), (3, .int x), (4, .int t)] := hl
  refine lv_aload_n hx hb dX8_spilt_0 rfl (lv_at hl 0 rfl) ?_
  have f1 : w 0 = .inr (6, [.ref (ad 1), .ref (ad 14), .ref (ad 27), .ref (ad 54), .ref (ad 55), .ref (ad 58), .ref (ad 62), .long 0, .long 1, .int 0, .int 0, .int 0]) := F 0 (by decide)
  refine r_get kc8 X h 0 0 (by decide) rfl f1 (by decide) kw_5 rfl dX8_spilt_1 ?_
  refine lv_iload_n hx hb dX8_spilt_4 rfl (lv_at hl 1 rfl) ?_
  have f2 : w 1 = .inr (1, [.int 0, .int 0, .int 0, .int 0, .int 0, .ref (ad 2), .ref (ad 3), .ref (ad 4), .ref (ad 5), .ref (ad 6), .ref (ad 7), .ref (ad 8), .ref (ad 10), .ref (ad 12)]) := F 1 (by decide)
  refine q_Vi (na := 1) (As := [.int j]) (rest := []) X hD hN h rfl (c_hasJar l G cI cB cZ cO ad w 1 _ _ _ _ _ _ j 0 rfl (by decide) f2) ⟨kw_16, kw_17, kw_18, kw_9, kw_19⟩ rfl ⟨by decide, by decide, by decide⟩ ⟨Nat.le_of_ble_eq_true rfl, Nat.le_of_ble_eq_true rfl⟩ ⟨Nat.zero_le _, Nat.zero_le _⟩ (by decide) f2 rfl rfl hl.1 rfl (Nat.le_of_ble_eq_true rfl) dX8_spilt_5 (fun r3 w4 H locs hp5 h => ?_)
  obtain ⟨e6, hp5⟩ := hp5
  rcases hp5 with ⟨hq7a, hq7b, rfl⟩ | ⟨hq7, rfl⟩
  · exfalso; omega
  · refine lv_if_eq (tgt := 41) hx hb dX8_spilt_8 (by decide) (fun _ => ?_) (fun hc => absurd (by decide) hc)
    refine lv_aload_n hx hb dX8_spilt_41 rfl (lv_at hl 0 rfl) ?_
    refine lv_bipush (v := (-2)) hx hb dX8_spilt_42 (by decide) ?_
    have f8 : w4 0 = .inr (6, [.ref (ad 1), .ref (ad 14), .ref (ad 27), .ref (ad 54), .ref (ad 55), .ref (ad 58), .ref (ad 62), .long 0, .long 1, .int 0, .int 0, .int 0]) := by rw [e6]; exact f1
    refine q_Vi (na := 1) (As := [.int (-2)]) (rest := []) X hD hN h rfl (c_refused l G cI cB cZ cO ad w4 _ _ _ _ _ _ _ _ _ _ _ _ (-2) f8) ⟨kw_11, kw_12, kw_13, kw_14, kw_15⟩ rfl ⟨by decide, by decide, by decide⟩ ⟨Nat.le_of_ble_eq_true rfl, Nat.le_of_ble_eq_true rfl⟩ ⟨Nat.zero_le _, Nat.zero_le _⟩ (by decide) f8 rfl rfl hl.1 rfl (Nat.le_of_ble_eq_true rfl) dX8_spilt_44 (fun r9 w10 H locs hp11 h => ?_)
    obtain ⟨rfl, x12, y13, z14, e15⟩ := hp11
    have f16 : w10 0 = .inr (6, [.ref (ad 1), .ref (ad 14), .ref (ad 27), .ref (ad 54), .ref (ad 55), .ref (ad 58), .ref (ad 62), .long 0, .long 1, .int x12, .int y13, .int z14]) := (congrFun e15 _).trans (va_up_self _ _ _)
    exact e_i X h hr hlk dX8_spilt_47 ⟨rfl, fun k hk => ((congrFun e15 k).trans (va_up_ne _ _ (by omega))).trans (congrFun e6 k)⟩

set_option maxHeartbeats 4000000 in
set_option maxRecDepth 100000 in
theorem c_X_island (l : Launch) (G : va_G) (cI cB cZ cO : ClassId) (ad : Nat → Nat) (w : Nat → va_E) (F : ∀ k, k < 74 → w k = fr0 cI cB cZ cO ad k) (t : Int32) : MI l G (tyq cI cB cZ cO) yX8_island cX8_island 3 (some .int) 2 42 74 ad w [.ref (ad 0), .int t] (fun r w1 => (0 ≤ t.toInt ∧ t.toInt ≤ 99 → r = 0) ∧ (¬ (0 ≤ t.toInt ∧ t.toInt ≤ 99) → r = -2) ∧ ∀ k, 64 ≤ k → w1 k = w k) := by
  refine mk_i (own := "NoonShade") rfl (by decide) (Nat.le_of_ble_eq_true rfl) ?_
  intro p e s m below meth c ls X hD hN hr hlk h hl
  have hx := X.1.1
  have hb := X.1.2.1
  have hown := X.1.2.2.2.1
  have hts := X.1.2.2.2.2
  have hl : lv_has ls 3 [(0, .ref (ad 0)), (1, .int t)] := hl
  refine lv_iload_n hx hb dX8_island_0 rfl (lv_at hl 1 rfl) ?_
  refine lv_iconst (v := 0) hx hb dX8_island_1 (by decide) ?_
  refine lv_bipush (v := 99) hx hb dX8_island_2 (by decide) ?_
  refine q_Si (na := 3) (As := [.int t, .int 0, .int 99]) (rest := []) X hD hN h (c_within l G cI cB cZ cO ad w t 0 99 ((t).toInt) 0 99 rfl rfl rfl) ⟨kw_38, kw_39, kw_14, kw_40⟩ ⟨by decide, by decide, by decide⟩ ⟨Nat.le_of_ble_eq_true rfl, Nat.le_of_ble_eq_true rfl⟩ ⟨Nat.zero_le _, Nat.zero_le _⟩ rfl hl.1 rfl (Nat.le_of_ble_eq_true rfl) dX8_island_4 (fun r1 w2 H locs hp3 h => ?_)
  obtain ⟨e4, hp3⟩ := hp3
  rcases hp3 with ⟨hq5a, hq5b, rfl⟩ | ⟨hq5, rfl⟩
  · refine lv_if_ne (tgt := 17) hx hb dX8_island_7 (by decide) (fun _ => ?_) (fun hc => absurd hc (by decide))
    refine lv_aload_n hx hb dX8_island_17 rfl (lv_at hl 0 rfl) ?_
    have f6 : w 0 = .inr (6, [.ref (ad 1), .ref (ad 14), .ref (ad 27), .ref (ad 54), .ref (ad 55), .ref (ad 58), .ref (ad 62), .long 0, .long 1, .int 0, .int 0, .int 0]) := F 0 (by decide)
    have f7 : w2 0 = .inr (6, [.ref (ad 1), .ref (ad 14), .ref (ad 27), .ref (ad 54), .ref (ad 55), .ref (ad 58), .ref (ad 62), .long 0, .long 1, .int 0, .int 0, .int 0]) := by rw [e4]; exact f6
    refine r_get kc8 X h 0 0 (by decide) rfl f7 (by decide) kw_5 rfl dX8_island_18 ?_
    have f8 : w 1 = .inr (1, [.int 0, .int 0, .int 0, .int 0, .int 0, .ref (ad 2), .ref (ad 3), .ref (ad 4), .ref (ad 5), .ref (ad 6), .ref (ad 7), .ref (ad 8), .ref (ad 10), .ref (ad 12)]) := F 1 (by decide)
    have f9 : w2 1 = .inr (1, [.int 0, .int 0, .int 0, .int 0, .int 0, .ref (ad 2), .ref (ad 3), .ref (ad 4), .ref (ad 5), .ref (ad 6), .ref (ad 7), .ref (ad 8), .ref (ad 10), .ref (ad 12)]) := by rw [e4]; exact f8
    refine r_get kc2 X h 1 3 (by decide) rfl f9 (by decide) kw_41 rfl dX8_island_21 ?_
    refine lv_istore_n (lv' := [(2, .int 0), (0, .ref (ad 0)), (1, .int t)]) hx hb dX8_island_24 rfl hl (by decide) rfl (fun ls hl => ?_)
    refine lv_aload_n hx hb dX8_island_25 rfl (lv_at hl 1 rfl) ?_
    refine r_get kc8 X h 0 0 (by decide) rfl f7 (by decide) kw_5 rfl dX8_island_26 ?_
    refine lv_iload_n hx hb dX8_island_29 rfl (lv_at hl 2 rfl) ?_
    have f10 : w 8 = .inr (4, [.ref (ad 9), .int 0]) := F 8 (by decide)
    have f11 : w2 8 = .inr (4, [.ref (ad 9), .int 0]) := by rw [e4]; exact f10
    have f12 : w 10 = .inr (4, [.ref (ad 11), .int 0]) := F 10 (by decide)
    have f13 : w2 10 = .inr (4, [.ref (ad 11), .int 0]) := by rw [e4]; exact f12
    have f14 : w 12 = .inr (2, [.ref (ad 13), .int 0]) := F 12 (by decide)
    have f15 : w2 12 = .inr (2, [.ref (ad 13), .int 0]) := by rw [e4]; exact f14
    refine q_Vv (na := 1) (As := [.int t]) (rest := []) X hD hN h rfl (c_begin l G cI cB cZ cO ad w2 1 _ _ _ _ _ _ _ _ t (by decide) f9 f11 f13 f15) ⟨kw_42, kw_43, kw_44, kw_9, kw_45⟩ rfl ⟨by decide, by decide, by decide⟩ ⟨Nat.le_of_ble_eq_true rfl, Nat.le_of_ble_eq_true rfl⟩ ⟨Nat.zero_le _, Nat.zero_le _⟩ (by decide) f9 rfl rfl hl.1 rfl (Nat.le_of_ble_eq_true rfl) dX8_island_30 (fun w17 H locs hp18 h => ?_)
    obtain ⟨f19, f20, f21, f22, hf23⟩ := hp18
    refine lv_iload_n hx hb dX8_island_33 rfl (lv_at hl 0 rfl) ?_
    exact e_i X h hr hlk dX8_island_34 ⟨fun _ => by first | rfl | omega, fun _ => by first | rfl | omega, fun k hk => (hf23 k (by omega) (by omega) (by omega) (by omega)).trans (congrFun e4 k)⟩
  · refine lv_if_ne (tgt := 17) hx hb dX8_island_7 (by decide) (fun hc => absurd (by decide) hc) (fun _ => ?_)
    refine lv_aload_n hx hb dX8_island_10 rfl (lv_at hl 0 rfl) ?_
    refine lv_bipush (v := (-2)) hx hb dX8_island_11 (by decide) ?_
    have f24 : w 0 = .inr (6, [.ref (ad 1), .ref (ad 14), .ref (ad 27), .ref (ad 54), .ref (ad 55), .ref (ad 58), .ref (ad 62), .long 0, .long 1, .int 0, .int 0, .int 0]) := F 0 (by decide)
    have f25 : w2 0 = .inr (6, [.ref (ad 1), .ref (ad 14), .ref (ad 27), .ref (ad 54), .ref (ad 55), .ref (ad 58), .ref (ad 62), .long 0, .long 1, .int 0, .int 0, .int 0]) := by rw [e4]; exact f24
    refine q_Vi (na := 1) (As := [.int (-2)]) (rest := []) X hD hN h rfl (c_refused l G cI cB cZ cO ad w2 _ _ _ _ _ _ _ _ _ _ _ _ (-2) f25) ⟨kw_11, kw_12, kw_13, kw_14, kw_15⟩ rfl ⟨by decide, by decide, by decide⟩ ⟨Nat.le_of_ble_eq_true rfl, Nat.le_of_ble_eq_true rfl⟩ ⟨Nat.zero_le _, Nat.zero_le _⟩ (by decide) f25 rfl rfl hl.1 rfl (Nat.le_of_ble_eq_true rfl) dX8_island_13 (fun r26 w27 H locs hp28 h => ?_)
    obtain ⟨rfl, x29, y30, z31, e32⟩ := hp28
    have f33 : w27 0 = .inr (6, [.ref (ad 1), .ref (ad 14), .ref (ad 27), .ref (ad 54), .ref (ad 55), .ref (ad 58), .ref (ad 62), .long 0, .long 1, .int x29, .int y30, .int z31]) := (congrFun e32 _).trans (va_up_self _ _ _)
    exact e_i X h hr hlk dX8_island_16 ⟨fun _ => by first | rfl | omega, fun _ => by first | rfl | omega, fun k hk => ((congrFun e32 k).trans (va_up_ne _ _ (by omega))).trans (congrFun e4 k)⟩

set_option maxHeartbeats 4000000 in
set_option maxRecDepth 100000 in
theorem c_X_caster (l : Launch) (G : va_G) (cI cB cZ cO : ClassId) (ad : Nat → Nat) (w : Nat → va_E) (F : ∀ k, k < 74 → w k = fr0 cI cB cZ cO ad k) (i j t : Int32) : MI l G (tyq cI cB cZ cO) yX8_caster cX8_caster 4 (some .int) 1 23 74 ad w [.ref (ad 0), .int i, .int j, .int t] (fun r w1 => (0 ≤ i.toInt ∧ i.toInt ≤ 5 ∧ 1 ≤ j.toInt ∧ j.toInt ≤ 9 ∧ 0 ≤ t.toInt ∧ t.toInt ≤ 3 → r = 0) ∧ (¬ (0 ≤ i.toInt ∧ i.toInt ≤ 5 ∧ 1 ≤ j.toInt ∧ j.toInt ≤ 9 ∧ 0 ≤ t.toInt ∧ t.toInt ≤ 3) → r = -2) ∧ ∀ k, 64 ≤ k → w1 k = w k) := by
  refine mk_i (own := "NoonShade") rfl (by decide) (Nat.le_of_ble_eq_true rfl) ?_
  intro p e s m below meth c ls X hD hN hr hlk h hl
  have hx := X.1.1
  have hb := X.1.2.1
  have hown := X.1.2.2.2.1
  have hts := X.1.2.2.2.2
  have hl : lv_has ls 4 [(0, .ref (ad 0)), (1, .int i), (2, .int j), (3, .int t)] := hl
  refine lv_iload_n hx hb dX8_caster_0 rfl (lv_at hl 1 rfl) ?_
  refine lv_iconst (v := 0) hx hb dX8_caster_1 (by decide) ?_
  refine lv_iconst (v := 5) hx hb dX8_caster_2 (by decide) ?_
  refine q_Si (na := 3) (As := [.int i, .int 0, .int 5]) (rest := []) X hD hN h (c_within l G cI cB cZ cO ad w i 0 5 ((i).toInt) 0 5 rfl rfl rfl) ⟨kw_38, kw_39, kw_14, kw_40⟩ ⟨by decide, by decide, by decide⟩ ⟨Nat.le_of_ble_eq_true rfl, Nat.le_of_ble_eq_true rfl⟩ ⟨Nat.zero_le _, Nat.zero_le _⟩ rfl hl.1 rfl (Nat.le_of_ble_eq_true rfl) dX8_caster_3 (fun r1 w2 H locs hp3 h => ?_)
  obtain ⟨e4, hp3⟩ := hp3
  rcases hp3 with ⟨hq5a, hq5b, rfl⟩ | ⟨hq5, rfl⟩
  · refine lv_if_eq (tgt := 28) hx hb dX8_caster_6 (by decide) (fun hc => absurd hc (by decide)) (fun _ => ?_)
    refine lv_iload_n hx hb dX8_caster_9 rfl (lv_at hl 2 rfl) ?_
    refine lv_iconst (v := 1) hx hb dX8_caster_10 (by decide) ?_
    refine lv_bipush (v := 9) hx hb dX8_caster_11 (by decide) ?_
    refine q_Si (na := 3) (As := [.int j, .int 1, .int 9]) (rest := []) X hD hN h (c_within l G cI cB cZ cO ad w2 j 1 9 ((j).toInt) 1 9 rfl rfl rfl) ⟨kw_38, kw_39, kw_14, kw_40⟩ ⟨by decide, by decide, by decide⟩ ⟨Nat.le_of_ble_eq_true rfl, Nat.le_of_ble_eq_true rfl⟩ ⟨Nat.zero_le _, Nat.zero_le _⟩ rfl hl.1 rfl (Nat.le_of_ble_eq_true rfl) dX8_caster_13 (fun r6 w7 H locs hp8 h => ?_)
    obtain ⟨e9, hp8⟩ := hp8
    rcases hp8 with ⟨hq10a, hq10b, rfl⟩ | ⟨hq10, rfl⟩
    · refine lv_if_eq (tgt := 28) hx hb dX8_caster_16 (by decide) (fun hc => absurd hc (by decide)) (fun _ => ?_)
      refine lv_iload_n hx hb dX8_caster_19 rfl (lv_at hl 3 rfl) ?_
      refine lv_iconst (v := 0) hx hb dX8_caster_20 (by decide) ?_
      refine lv_iconst (v := 3) hx hb dX8_caster_21 (by decide) ?_
      refine q_Si (na := 3) (As := [.int t, .int 0, .int 3]) (rest := []) X hD hN h (c_within l G cI cB cZ cO ad w7 t 0 3 ((t).toInt) 0 3 rfl rfl rfl) ⟨kw_38, kw_39, kw_14, kw_40⟩ ⟨by decide, by decide, by decide⟩ ⟨Nat.le_of_ble_eq_true rfl, Nat.le_of_ble_eq_true rfl⟩ ⟨Nat.zero_le _, Nat.zero_le _⟩ rfl hl.1 rfl (Nat.le_of_ble_eq_true rfl) dX8_caster_22 (fun r11 w12 H locs hp13 h => ?_)
      obtain ⟨e14, hp13⟩ := hp13
      rcases hp13 with ⟨hq15a, hq15b, rfl⟩ | ⟨hq15, rfl⟩
      · refine lv_if_ne (tgt := 35) hx hb dX8_caster_25 (by decide) (fun _ => ?_) (fun hc => absurd hc (by decide))
        refine lv_aload_n hx hb dX8_caster_35 rfl (lv_at hl 0 rfl) ?_
        have f16 : w 0 = .inr (6, [.ref (ad 1), .ref (ad 14), .ref (ad 27), .ref (ad 54), .ref (ad 55), .ref (ad 58), .ref (ad 62), .long 0, .long 1, .int 0, .int 0, .int 0]) := F 0 (by decide)
        have f17 : w2 0 = .inr (6, [.ref (ad 1), .ref (ad 14), .ref (ad 27), .ref (ad 54), .ref (ad 55), .ref (ad 58), .ref (ad 62), .long 0, .long 1, .int 0, .int 0, .int 0]) := by rw [e4]; exact f16
        have f18 : w7 0 = .inr (6, [.ref (ad 1), .ref (ad 14), .ref (ad 27), .ref (ad 54), .ref (ad 55), .ref (ad 58), .ref (ad 62), .long 0, .long 1, .int 0, .int 0, .int 0]) := by rw [e9]; exact f17
        have f19 : w12 0 = .inr (6, [.ref (ad 1), .ref (ad 14), .ref (ad 27), .ref (ad 54), .ref (ad 55), .ref (ad 58), .ref (ad 62), .long 0, .long 1, .int 0, .int 0, .int 0]) := by rw [e14]; exact f18
        refine r_get kc8 X h 0 0 (by decide) rfl f19 (by decide) kw_5 rfl dX8_caster_36 ?_
        have f20 : w 1 = .inr (1, [.int 0, .int 0, .int 0, .int 0, .int 0, .ref (ad 2), .ref (ad 3), .ref (ad 4), .ref (ad 5), .ref (ad 6), .ref (ad 7), .ref (ad 8), .ref (ad 10), .ref (ad 12)]) := F 1 (by decide)
        have f21 : w2 1 = .inr (1, [.int 0, .int 0, .int 0, .int 0, .int 0, .ref (ad 2), .ref (ad 3), .ref (ad 4), .ref (ad 5), .ref (ad 6), .ref (ad 7), .ref (ad 8), .ref (ad 10), .ref (ad 12)]) := by rw [e4]; exact f20
        have f22 : w7 1 = .inr (1, [.int 0, .int 0, .int 0, .int 0, .int 0, .ref (ad 2), .ref (ad 3), .ref (ad 4), .ref (ad 5), .ref (ad 6), .ref (ad 7), .ref (ad 8), .ref (ad 10), .ref (ad 12)]) := by rw [e9]; exact f21
        have f23 : w12 1 = .inr (1, [.int 0, .int 0, .int 0, .int 0, .int 0, .ref (ad 2), .ref (ad 3), .ref (ad 4), .ref (ad 5), .ref (ad 6), .ref (ad 7), .ref (ad 8), .ref (ad 10), .ref (ad 12)]) := by rw [e14]; exact f22
        refine r_get kc2 X h 1 3 (by decide) rfl f23 (by decide) kw_41 rfl dX8_caster_39 ?_
        refine lv_bipush (v := 7) hx hb dX8_caster_42 (by decide) ?_
        refine lv_icmp_lt (tgt := 54) hx hb dX8_caster_44 (by decide) (fun _ => ?_) (fun hc => absurd (by decide) hc)
        refine lv_aload_n hx hb dX8_caster_54 rfl (lv_at hl 0 rfl) ?_
        refine r_get kc8 X h 0 0 (by decide) rfl f19 (by decide) kw_5 rfl dX8_caster_55 ?_
        refine r_get kc2 X h 1 13 (by decide) rfl f23 (by decide) kw_52 rfl dX8_caster_58 ?_
        have f24 : w 12 = .inr (2, [.ref (ad 13), .int 0]) := F 12 (by decide)
        have f25 : w2 12 = .inr (2, [.ref (ad 13), .int 0]) := by rw [e4]; exact f24
        have f26 : w7 12 = .inr (2, [.ref (ad 13), .int 0]) := by rw [e9]; exact f25
        have f27 : w12 12 = .inr (2, [.ref (ad 13), .int 0]) := by rw [e14]; exact f26
        refine q_Vv (na := 0) (As := []) (rest := []) X hD hN h rfl (c_P_empty l G cI cB cZ cO ad w12 12 _ _ (by decide) f27) ⟨kw_53, kw_34, kw_35, kw_36, kw_37⟩ rfl ⟨by decide, by decide, by decide⟩ ⟨Nat.le_of_ble_eq_true rfl, Nat.le_of_ble_eq_true rfl⟩ ⟨Nat.zero_le _, Nat.zero_le _⟩ (by decide) f27 rfl rfl hl.1 rfl (Nat.le_of_ble_eq_true rfl) dX8_caster_61 (fun w29 H locs hp30 h => ?_)
        have e31 := hp30
        have f32 : w29 12 = .inr (2, [.ref (ad 13), .int 0]) := (congrFun e31 _).trans (va_up_self _ _ _)
        refine lv_aload_n hx hb dX8_caster_64 rfl (lv_at hl 0 rfl) ?_
        have f33 : w29 0 = .inr (6, [.ref (ad 1), .ref (ad 14), .ref (ad 27), .ref (ad 54), .ref (ad 55), .ref (ad 58), .ref (ad 62), .long 0, .long 1, .int 0, .int 0, .int 0]) := by rw [e31, va_up_ne _ _ (by decide)]; exact f19
        refine r_get kc8 X h 0 0 (by decide) rfl f33 (by decide) kw_5 rfl dX8_caster_65 ?_
        refine lv_iload_n hx hb dX8_caster_68 rfl (lv_at hl 1 rfl) ?_
        refine lv_iload_n hx hb dX8_caster_69 rfl (lv_at hl 2 rfl) ?_
        refine lv_iload_n hx hb dX8_caster_70 rfl (lv_at hl 3 rfl) ?_
        have f34 : w29 1 = .inr (1, [.int 0, .int 0, .int 0, .int 0, .int 0, .ref (ad 2), .ref (ad 3), .ref (ad 4), .ref (ad 5), .ref (ad 6), .ref (ad 7), .ref (ad 8), .ref (ad 10), .ref (ad 12)]) := by rw [e31, va_up_ne _ _ (by decide)]; exact f23
        have f35 : w 2 = .inl (cI, 7, .inl (fun _ => 0)) := F 2 (by decide)
        have f36 : w2 2 = .inl (cI, 7, .inl (fun _ => 0)) := by rw [e4]; exact f35
        have f37 : w7 2 = .inl (cI, 7, .inl (fun _ => 0)) := by rw [e9]; exact f36
        have f38 : w12 2 = .inl (cI, 7, .inl (fun _ => 0)) := by rw [e14]; exact f37
        have f39 : w29 2 = .inl (cI, 7, .inl (fun _ => 0)) := by rw [e31, va_up_ne _ _ (by decide)]; exact f38
        have f40 : w 3 = .inl (cI, 7, .inl (fun _ => 0)) := F 3 (by decide)
        have f41 : w2 3 = .inl (cI, 7, .inl (fun _ => 0)) := by rw [e4]; exact f40
        have f42 : w7 3 = .inl (cI, 7, .inl (fun _ => 0)) := by rw [e9]; exact f41
        have f43 : w12 3 = .inl (cI, 7, .inl (fun _ => 0)) := by rw [e14]; exact f42
        have f44 : w29 3 = .inl (cI, 7, .inl (fun _ => 0)) := by rw [e31, va_up_ne _ _ (by decide)]; exact f43
        have f45 : w 4 = .inl (cI, 7, .inl (fun _ => 0)) := F 4 (by decide)
        have f46 : w2 4 = .inl (cI, 7, .inl (fun _ => 0)) := by rw [e4]; exact f45
        have f47 : w7 4 = .inl (cI, 7, .inl (fun _ => 0)) := by rw [e9]; exact f46
        have f48 : w12 4 = .inl (cI, 7, .inl (fun _ => 0)) := by rw [e14]; exact f47
        have f49 : w29 4 = .inl (cI, 7, .inl (fun _ => 0)) := by rw [e31, va_up_ne _ _ (by decide)]; exact f48
        refine q_Vi (na := 3) (As := [.int i, .int j, .int t]) (rest := []) X hD hN h rfl (c_addCaster l G cI cB cZ cO ad w29 i j t f34 f39 f44 f49) ⟨kw_54, kw_55, kw_56, kw_9, kw_57⟩ rfl ⟨by decide, by decide, by decide⟩ ⟨Nat.le_of_ble_eq_true rfl, Nat.le_of_ble_eq_true rfl⟩ ⟨Nat.zero_le _, Nat.zero_le _⟩ (by decide) f34 rfl rfl hl.1 rfl (Nat.le_of_ble_eq_true rfl) dX8_caster_71 (fun r50 w51 H locs hp52 h => ?_)
        obtain ⟨rfl, hk53⟩ := hp52
        exact e_i X h hr hlk dX8_caster_74 ⟨fun _ => by first | rfl | omega, fun _ => by first | rfl | omega, fun k hk => (hk53 k (by omega)).trans (((congrFun e31 k).trans (va_up_ne _ _ (by omega))).trans ((congrFun e14 k).trans ((congrFun e9 k).trans (congrFun e4 k))))⟩
      · refine lv_if_ne (tgt := 35) hx hb dX8_caster_25 (by decide) (fun hc => absurd (by decide) hc) (fun _ => ?_)
        refine lv_aload_n hx hb dX8_caster_28 rfl (lv_at hl 0 rfl) ?_
        refine lv_bipush (v := (-2)) hx hb dX8_caster_29 (by decide) ?_
        have f54 : w 0 = .inr (6, [.ref (ad 1), .ref (ad 14), .ref (ad 27), .ref (ad 54), .ref (ad 55), .ref (ad 58), .ref (ad 62), .long 0, .long 1, .int 0, .int 0, .int 0]) := F 0 (by decide)
        have f55 : w2 0 = .inr (6, [.ref (ad 1), .ref (ad 14), .ref (ad 27), .ref (ad 54), .ref (ad 55), .ref (ad 58), .ref (ad 62), .long 0, .long 1, .int 0, .int 0, .int 0]) := by rw [e4]; exact f54
        have f56 : w7 0 = .inr (6, [.ref (ad 1), .ref (ad 14), .ref (ad 27), .ref (ad 54), .ref (ad 55), .ref (ad 58), .ref (ad 62), .long 0, .long 1, .int 0, .int 0, .int 0]) := by rw [e9]; exact f55
        have f57 : w12 0 = .inr (6, [.ref (ad 1), .ref (ad 14), .ref (ad 27), .ref (ad 54), .ref (ad 55), .ref (ad 58), .ref (ad 62), .long 0, .long 1, .int 0, .int 0, .int 0]) := by rw [e14]; exact f56
        refine q_Vi (na := 1) (As := [.int (-2)]) (rest := []) X hD hN h rfl (c_refused l G cI cB cZ cO ad w12 _ _ _ _ _ _ _ _ _ _ _ _ (-2) f57) ⟨kw_11, kw_12, kw_13, kw_14, kw_15⟩ rfl ⟨by decide, by decide, by decide⟩ ⟨Nat.le_of_ble_eq_true rfl, Nat.le_of_ble_eq_true rfl⟩ ⟨Nat.zero_le _, Nat.zero_le _⟩ (by decide) f57 rfl rfl hl.1 rfl (Nat.le_of_ble_eq_true rfl) dX8_caster_31 (fun r58 w59 H locs hp60 h => ?_)
        obtain ⟨rfl, x61, y62, z63, e64⟩ := hp60
        have f65 : w59 0 = .inr (6, [.ref (ad 1), .ref (ad 14), .ref (ad 27), .ref (ad 54), .ref (ad 55), .ref (ad 58), .ref (ad 62), .long 0, .long 1, .int x61, .int y62, .int z63]) := (congrFun e64 _).trans (va_up_self _ _ _)
        exact e_i X h hr hlk dX8_caster_34 ⟨fun _ => by first | rfl | omega, fun _ => by first | rfl | omega, fun k hk => ((congrFun e64 k).trans (va_up_ne _ _ (by omega))).trans ((congrFun e14 k).trans ((congrFun e9 k).trans (congrFun e4 k)))⟩
    · refine lv_if_eq (tgt := 28) hx hb dX8_caster_16 (by decide) (fun _ => ?_) (fun hc => absurd (by decide) hc)
      refine lv_aload_n hx hb dX8_caster_28 rfl (lv_at hl 0 rfl) ?_
      refine lv_bipush (v := (-2)) hx hb dX8_caster_29 (by decide) ?_
      have f66 : w 0 = .inr (6, [.ref (ad 1), .ref (ad 14), .ref (ad 27), .ref (ad 54), .ref (ad 55), .ref (ad 58), .ref (ad 62), .long 0, .long 1, .int 0, .int 0, .int 0]) := F 0 (by decide)
      have f67 : w2 0 = .inr (6, [.ref (ad 1), .ref (ad 14), .ref (ad 27), .ref (ad 54), .ref (ad 55), .ref (ad 58), .ref (ad 62), .long 0, .long 1, .int 0, .int 0, .int 0]) := by rw [e4]; exact f66
      have f68 : w7 0 = .inr (6, [.ref (ad 1), .ref (ad 14), .ref (ad 27), .ref (ad 54), .ref (ad 55), .ref (ad 58), .ref (ad 62), .long 0, .long 1, .int 0, .int 0, .int 0]) := by rw [e9]; exact f67
      refine q_Vi (na := 1) (As := [.int (-2)]) (rest := []) X hD hN h rfl (c_refused l G cI cB cZ cO ad w7 _ _ _ _ _ _ _ _ _ _ _ _ (-2) f68) ⟨kw_11, kw_12, kw_13, kw_14, kw_15⟩ rfl ⟨by decide, by decide, by decide⟩ ⟨Nat.le_of_ble_eq_true rfl, Nat.le_of_ble_eq_true rfl⟩ ⟨Nat.zero_le _, Nat.zero_le _⟩ (by decide) f68 rfl rfl hl.1 rfl (Nat.le_of_ble_eq_true rfl) dX8_caster_31 (fun r69 w70 H locs hp71 h => ?_)
      obtain ⟨rfl, x72, y73, z74, e75⟩ := hp71
      have f76 : w70 0 = .inr (6, [.ref (ad 1), .ref (ad 14), .ref (ad 27), .ref (ad 54), .ref (ad 55), .ref (ad 58), .ref (ad 62), .long 0, .long 1, .int x72, .int y73, .int z74]) := (congrFun e75 _).trans (va_up_self _ _ _)
      exact e_i X h hr hlk dX8_caster_34 ⟨fun _ => by first | rfl | omega, fun _ => by first | rfl | omega, fun k hk => ((congrFun e75 k).trans (va_up_ne _ _ (by omega))).trans ((congrFun e9 k).trans (congrFun e4 k))⟩
  · refine lv_if_eq (tgt := 28) hx hb dX8_caster_6 (by decide) (fun _ => ?_) (fun hc => absurd (by decide) hc)
    refine lv_aload_n hx hb dX8_caster_28 rfl (lv_at hl 0 rfl) ?_
    refine lv_bipush (v := (-2)) hx hb dX8_caster_29 (by decide) ?_
    have f77 : w 0 = .inr (6, [.ref (ad 1), .ref (ad 14), .ref (ad 27), .ref (ad 54), .ref (ad 55), .ref (ad 58), .ref (ad 62), .long 0, .long 1, .int 0, .int 0, .int 0]) := F 0 (by decide)
    have f78 : w2 0 = .inr (6, [.ref (ad 1), .ref (ad 14), .ref (ad 27), .ref (ad 54), .ref (ad 55), .ref (ad 58), .ref (ad 62), .long 0, .long 1, .int 0, .int 0, .int 0]) := by rw [e4]; exact f77
    refine q_Vi (na := 1) (As := [.int (-2)]) (rest := []) X hD hN h rfl (c_refused l G cI cB cZ cO ad w2 _ _ _ _ _ _ _ _ _ _ _ _ (-2) f78) ⟨kw_11, kw_12, kw_13, kw_14, kw_15⟩ rfl ⟨by decide, by decide, by decide⟩ ⟨Nat.le_of_ble_eq_true rfl, Nat.le_of_ble_eq_true rfl⟩ ⟨Nat.zero_le _, Nat.zero_le _⟩ (by decide) f78 rfl rfl hl.1 rfl (Nat.le_of_ble_eq_true rfl) dX8_caster_31 (fun r79 w80 H locs hp81 h => ?_)
    obtain ⟨rfl, x82, y83, z84, e85⟩ := hp81
    have f86 : w80 0 = .inr (6, [.ref (ad 1), .ref (ad 14), .ref (ad 27), .ref (ad 54), .ref (ad 55), .ref (ad 58), .ref (ad 62), .long 0, .long 1, .int x82, .int y83, .int z84]) := (congrFun e85 _).trans (va_up_self _ _ _)
    exact e_i X h hr hlk dX8_caster_34 ⟨fun _ => by first | rfl | omega, fun _ => by first | rfl | omega, fun k hk => ((congrFun e85 k).trans (va_up_ne _ _ (by omega))).trans (congrFun e4 k)⟩

set_option maxHeartbeats 4000000 in
set_option maxRecDepth 100000 in
theorem c_X_jar (l : Launch) (G : va_G) (cI cB cZ cO : ClassId) (ad : Nat → Nat) (w : Nat → va_E) (F : ∀ k, k < 74 → w k = fr0 cI cB cZ cO ad k) (i : Int32) : MI l G (tyq cI cB cZ cO) yX8_jar cX8_jar 2 (some .int) 1 22 74 ad w [.ref (ad 0), .int i] (fun r w1 => (0 ≤ i.toInt ∧ i.toInt ≤ 5 → r = 0) ∧ (¬ (0 ≤ i.toInt ∧ i.toInt ≤ 5) → r = -2) ∧ ∀ k, 64 ≤ k → w1 k = w k) := by
  refine mk_i (own := "NoonShade") rfl (by decide) (Nat.le_of_ble_eq_true rfl) ?_
  intro p e s m below meth c ls X hD hN hr hlk h hl
  have hx := X.1.1
  have hb := X.1.2.1
  have hown := X.1.2.2.2.1
  have hts := X.1.2.2.2.2
  have hl : lv_has ls 2 [(0, .ref (ad 0)), (1, .int i)] := hl
  refine lv_iload_n hx hb dX8_jar_0 rfl (lv_at hl 1 rfl) ?_
  refine lv_iconst (v := 0) hx hb dX8_jar_1 (by decide) ?_
  refine lv_iconst (v := 5) hx hb dX8_jar_2 (by decide) ?_
  refine q_Si (na := 3) (As := [.int i, .int 0, .int 5]) (rest := []) X hD hN h (c_within l G cI cB cZ cO ad w i 0 5 ((i).toInt) 0 5 rfl rfl rfl) ⟨kw_38, kw_39, kw_14, kw_40⟩ ⟨by decide, by decide, by decide⟩ ⟨Nat.le_of_ble_eq_true rfl, Nat.le_of_ble_eq_true rfl⟩ ⟨Nat.zero_le _, Nat.zero_le _⟩ rfl hl.1 rfl (Nat.le_of_ble_eq_true rfl) dX8_jar_3 (fun r1 w2 H locs hp3 h => ?_)
  obtain ⟨e4, hp3⟩ := hp3
  rcases hp3 with ⟨hq5a, hq5b, rfl⟩ | ⟨hq5, rfl⟩
  · refine lv_if_ne (tgt := 16) hx hb dX8_jar_6 (by decide) (fun _ => ?_) (fun hc => absurd hc (by decide))
    refine lv_aload_n hx hb dX8_jar_16 rfl (lv_at hl 0 rfl) ?_
    have f6 : w 0 = .inr (6, [.ref (ad 1), .ref (ad 14), .ref (ad 27), .ref (ad 54), .ref (ad 55), .ref (ad 58), .ref (ad 62), .long 0, .long 1, .int 0, .int 0, .int 0]) := F 0 (by decide)
    have f7 : w2 0 = .inr (6, [.ref (ad 1), .ref (ad 14), .ref (ad 27), .ref (ad 54), .ref (ad 55), .ref (ad 58), .ref (ad 62), .long 0, .long 1, .int 0, .int 0, .int 0]) := by rw [e4]; exact f6
    refine r_get kc8 X h 0 0 (by decide) rfl f7 (by decide) kw_5 rfl dX8_jar_17 ?_
    have f8 : w 1 = .inr (1, [.int 0, .int 0, .int 0, .int 0, .int 0, .ref (ad 2), .ref (ad 3), .ref (ad 4), .ref (ad 5), .ref (ad 6), .ref (ad 7), .ref (ad 8), .ref (ad 10), .ref (ad 12)]) := F 1 (by decide)
    have f9 : w2 1 = .inr (1, [.int 0, .int 0, .int 0, .int 0, .int 0, .ref (ad 2), .ref (ad 3), .ref (ad 4), .ref (ad 5), .ref (ad 6), .ref (ad 7), .ref (ad 8), .ref (ad 10), .ref (ad 12)]) := by rw [e4]; exact f8
    refine r_get kc2 X h 1 4 (by decide) rfl f9 (by decide) kw_58 rfl dX8_jar_20 ?_
    refine lv_iconst (v := 4) hx hb dX8_jar_23 (by decide) ?_
    refine lv_icmp_lt (tgt := 34) hx hb dX8_jar_24 (by decide) (fun _ => ?_) (fun hc => absurd (by decide) hc)
    refine lv_aload_n hx hb dX8_jar_34 rfl (lv_at hl 0 rfl) ?_
    refine r_get kc8 X h 0 0 (by decide) rfl f7 (by decide) kw_5 rfl dX8_jar_35 ?_
    refine r_get kc2 X h 1 13 (by decide) rfl f9 (by decide) kw_52 rfl dX8_jar_38 ?_
    have f10 : w 12 = .inr (2, [.ref (ad 13), .int 0]) := F 12 (by decide)
    have f11 : w2 12 = .inr (2, [.ref (ad 13), .int 0]) := by rw [e4]; exact f10
    refine q_Vv (na := 0) (As := []) (rest := []) X hD hN h rfl (c_P_empty l G cI cB cZ cO ad w2 12 _ _ (by decide) f11) ⟨kw_53, kw_34, kw_35, kw_36, kw_37⟩ rfl ⟨by decide, by decide, by decide⟩ ⟨Nat.le_of_ble_eq_true rfl, Nat.le_of_ble_eq_true rfl⟩ ⟨Nat.zero_le _, Nat.zero_le _⟩ (by decide) f11 rfl rfl hl.1 rfl (Nat.le_of_ble_eq_true rfl) dX8_jar_41 (fun w13 H locs hp14 h => ?_)
    have e15 := hp14
    have f16 : w13 12 = .inr (2, [.ref (ad 13), .int 0]) := (congrFun e15 _).trans (va_up_self _ _ _)
    refine lv_aload_n hx hb dX8_jar_44 rfl (lv_at hl 0 rfl) ?_
    have f17 : w13 0 = .inr (6, [.ref (ad 1), .ref (ad 14), .ref (ad 27), .ref (ad 54), .ref (ad 55), .ref (ad 58), .ref (ad 62), .long 0, .long 1, .int 0, .int 0, .int 0]) := by rw [e15, va_up_ne _ _ (by decide)]; exact f7
    refine r_get kc8 X h 0 0 (by decide) rfl f17 (by decide) kw_5 rfl dX8_jar_45 ?_
    refine lv_iload_n hx hb dX8_jar_48 rfl (lv_at hl 1 rfl) ?_
    have f18 : w13 1 = .inr (1, [.int 0, .int 0, .int 0, .int 0, .int 0, .ref (ad 2), .ref (ad 3), .ref (ad 4), .ref (ad 5), .ref (ad 6), .ref (ad 7), .ref (ad 8), .ref (ad 10), .ref (ad 12)]) := by rw [e15, va_up_ne _ _ (by decide)]; exact f9
    have f19 : w 5 = .inl (cI, 4, .inl (fun _ => 0)) := F 5 (by decide)
    have f20 : w2 5 = .inl (cI, 4, .inl (fun _ => 0)) := by rw [e4]; exact f19
    have f21 : w13 5 = .inl (cI, 4, .inl (fun _ => 0)) := by rw [e15, va_up_ne _ _ (by decide)]; exact f20
    have f22 : w 6 = .inl (cI, 4, .inl (fun _ => 0)) := F 6 (by decide)
    have f23 : w2 6 = .inl (cI, 4, .inl (fun _ => 0)) := by rw [e4]; exact f22
    have f24 : w13 6 = .inl (cI, 4, .inl (fun _ => 0)) := by rw [e15, va_up_ne _ _ (by decide)]; exact f23
    have f25 : w 7 = .inl (cI, 4, .inl (fun _ => 0)) := F 7 (by decide)
    have f26 : w2 7 = .inl (cI, 4, .inl (fun _ => 0)) := by rw [e4]; exact f25
    have f27 : w13 7 = .inl (cI, 4, .inl (fun _ => 0)) := by rw [e15, va_up_ne _ _ (by decide)]; exact f26
    refine q_Vi (na := 1) (As := [.int i]) (rest := []) X hD hN h rfl (c_addJar l G cI cB cZ cO ad w13 i f18 f21 f24 f27) ⟨kw_59, kw_60, kw_61, kw_9, kw_62⟩ rfl ⟨by decide, by decide, by decide⟩ ⟨Nat.le_of_ble_eq_true rfl, Nat.le_of_ble_eq_true rfl⟩ ⟨Nat.zero_le _, Nat.zero_le _⟩ (by decide) f18 rfl rfl hl.1 rfl (Nat.le_of_ble_eq_true rfl) dX8_jar_49 (fun r28 w29 H locs hp30 h => ?_)
    obtain ⟨rfl, hk31⟩ := hp30
    exact e_i X h hr hlk dX8_jar_52 ⟨fun _ => by first | rfl | omega, fun _ => by first | rfl | omega, fun k hk => (hk31 k (by omega)).trans (((congrFun e15 k).trans (va_up_ne _ _ (by omega))).trans (congrFun e4 k))⟩
  · refine lv_if_ne (tgt := 16) hx hb dX8_jar_6 (by decide) (fun hc => absurd (by decide) hc) (fun _ => ?_)
    refine lv_aload_n hx hb dX8_jar_9 rfl (lv_at hl 0 rfl) ?_
    refine lv_bipush (v := (-2)) hx hb dX8_jar_10 (by decide) ?_
    have f32 : w 0 = .inr (6, [.ref (ad 1), .ref (ad 14), .ref (ad 27), .ref (ad 54), .ref (ad 55), .ref (ad 58), .ref (ad 62), .long 0, .long 1, .int 0, .int 0, .int 0]) := F 0 (by decide)
    have f33 : w2 0 = .inr (6, [.ref (ad 1), .ref (ad 14), .ref (ad 27), .ref (ad 54), .ref (ad 55), .ref (ad 58), .ref (ad 62), .long 0, .long 1, .int 0, .int 0, .int 0]) := by rw [e4]; exact f32
    refine q_Vi (na := 1) (As := [.int (-2)]) (rest := []) X hD hN h rfl (c_refused l G cI cB cZ cO ad w2 _ _ _ _ _ _ _ _ _ _ _ _ (-2) f33) ⟨kw_11, kw_12, kw_13, kw_14, kw_15⟩ rfl ⟨by decide, by decide, by decide⟩ ⟨Nat.le_of_ble_eq_true rfl, Nat.le_of_ble_eq_true rfl⟩ ⟨Nat.zero_le _, Nat.zero_le _⟩ (by decide) f33 rfl rfl hl.1 rfl (Nat.le_of_ble_eq_true rfl) dX8_jar_12 (fun r34 w35 H locs hp36 h => ?_)
    obtain ⟨rfl, x37, y38, z39, e40⟩ := hp36
    have f41 : w35 0 = .inr (6, [.ref (ad 1), .ref (ad 14), .ref (ad 27), .ref (ad 54), .ref (ad 55), .ref (ad 58), .ref (ad 62), .long 0, .long 1, .int x37, .int y38, .int z39]) := (congrFun e40 _).trans (va_up_self _ _ _)
    exact e_i X h hr hlk dX8_jar_15 ⟨fun _ => by first | rfl | omega, fun _ => by first | rfl | omega, fun k hk => ((congrFun e40 k).trans (va_up_ne _ _ (by omega))).trans (congrFun e4 k)⟩

set_option maxHeartbeats 4000000 in
set_option maxRecDepth 100000 in
theorem c_X_type (l : Launch) (G : va_G) (cI cB cZ cO : ClassId) (ad : Nat → Nat) (w : Nat → va_E) (F : ∀ k, k < 74 → w k = fr0 cI cB cZ cO ad k) (i : Int32) : MI l G (tyq cI cB cZ cO) yX8_type cX8_type 2 (some .int) 2 41 74 ad w [.ref (ad 0), .int i] (fun r w1 => (0 ≤ i.toInt ∧ i.toInt ≤ 127 → r = 1) ∧ (¬ (0 ≤ i.toInt ∧ i.toInt ≤ 127) → r = -2) ∧ ∀ k, 64 ≤ k → w1 k = w k) := by
  refine mk_i (own := "NoonShade") rfl (by decide) (Nat.le_of_ble_eq_true rfl) ?_
  intro p e s m below meth c ls X hD hN hr hlk h hl
  have hx := X.1.1
  have hb := X.1.2.1
  have hown := X.1.2.2.2.1
  have hts := X.1.2.2.2.2
  have hl : lv_has ls 2 [(0, .ref (ad 0)), (1, .int i)] := hl
  refine lv_iload_n hx hb dX8_type_0 rfl (lv_at hl 1 rfl) ?_
  refine lv_iconst (v := 0) hx hb dX8_type_1 (by decide) ?_
  refine lv_bipush (v := 127) hx hb dX8_type_2 (by decide) ?_
  refine q_Si (na := 3) (As := [.int i, .int 0, .int 127]) (rest := []) X hD hN h (c_within l G cI cB cZ cO ad w i 0 127 ((i).toInt) 0 127 rfl rfl rfl) ⟨kw_38, kw_39, kw_14, kw_40⟩ ⟨by decide, by decide, by decide⟩ ⟨Nat.le_of_ble_eq_true rfl, Nat.le_of_ble_eq_true rfl⟩ ⟨Nat.zero_le _, Nat.zero_le _⟩ rfl hl.1 rfl (Nat.le_of_ble_eq_true rfl) dX8_type_4 (fun r1 w2 H locs hp3 h => ?_)
  obtain ⟨e4, hp3⟩ := hp3
  rcases hp3 with ⟨hq5a, hq5b, rfl⟩ | ⟨hq5, rfl⟩
  · refine lv_if_ne (tgt := 17) hx hb dX8_type_7 (by decide) (fun _ => ?_) (fun hc => absurd hc (by decide))
    refine lv_aload_n hx hb dX8_type_17 rfl (lv_at hl 0 rfl) ?_
    have f6 : w 0 = .inr (6, [.ref (ad 1), .ref (ad 14), .ref (ad 27), .ref (ad 54), .ref (ad 55), .ref (ad 58), .ref (ad 62), .long 0, .long 1, .int 0, .int 0, .int 0]) := F 0 (by decide)
    have f7 : w2 0 = .inr (6, [.ref (ad 1), .ref (ad 14), .ref (ad 27), .ref (ad 54), .ref (ad 55), .ref (ad 58), .ref (ad 62), .long 0, .long 1, .int 0, .int 0, .int 0]) := by rw [e4]; exact f6
    refine r_get kc8 X h 0 4 (by decide) rfl f7 (by decide) kw_70 rfl dX8_type_18 ?_
    have f8 : w 55 = .inr (5, [.ref (ad 56), .ref (ad 57), .int 0, .int 0, .int 0, .int 0, .int 0]) := F 55 (by decide)
    have f9 : w2 55 = .inr (5, [.ref (ad 56), .ref (ad 57), .int 0, .int 0, .int 0, .int 0, .int 0]) := by rw [e4]; exact f8
    refine q_Vi (na := 0) (As := []) (rest := []) X hD hN h rfl (c_T_isFull l G cI cB cZ cO ad w2  f9) ⟨kw_71, kw_65, kw_66, kw_67, kw_68⟩ rfl ⟨by decide, by decide, by decide⟩ ⟨Nat.le_of_ble_eq_true rfl, Nat.le_of_ble_eq_true rfl⟩ ⟨Nat.zero_le _, Nat.zero_le _⟩ (by decide) f9 rfl rfl hl.1 rfl (Nat.le_of_ble_eq_true rfl) dX8_type_21 (fun r10 w11 H locs hp12 h => ?_)
    obtain ⟨e13, rfl⟩ := hp12
    refine lv_if_eq (tgt := 34) hx hb dX8_type_24 (by decide) (fun _ => ?_) (fun hc => absurd (by decide) hc)
    refine lv_aload_n hx hb dX8_type_34 rfl (lv_at hl 0 rfl) ?_
    have f14 : w11 0 = .inr (6, [.ref (ad 1), .ref (ad 14), .ref (ad 27), .ref (ad 54), .ref (ad 55), .ref (ad 58), .ref (ad 62), .long 0, .long 1, .int 0, .int 0, .int 0]) := by rw [e13]; exact f7
    refine r_get kc8 X h 0 4 (by decide) rfl f14 (by decide) kw_70 rfl dX8_type_35 ?_
    refine lv_iload_n hx hb dX8_type_38 rfl (lv_at hl 1 rfl) ?_
    have f15 : w11 55 = .inr (5, [.ref (ad 56), .ref (ad 57), .int 0, .int 0, .int 0, .int 0, .int 0]) := by rw [e13]; exact f9
    have f16 : w 56 = .inl (cB, 150, .inl (fun _ => 0)) := F 56 (by decide)
    have f17 : w2 56 = .inl (cB, 150, .inl (fun _ => 0)) := by rw [e4]; exact f16
    have f18 : w11 56 = .inl (cB, 150, .inl (fun _ => 0)) := by rw [e13]; exact f17
    refine q_Vi (na := 1) (As := [.int i]) (rest := []) X hD hN h rfl (c_T_add l G cI cB cZ cO ad w11 i f15 f18) ⟨kw_72, kw_73, kw_74, kw_67, kw_75⟩ rfl ⟨by decide, by decide, by decide⟩ ⟨Nat.le_of_ble_eq_true rfl, Nat.le_of_ble_eq_true rfl⟩ ⟨Nat.zero_le _, Nat.zero_le _⟩ (by decide) f15 rfl rfl hl.1 rfl (Nat.le_of_ble_eq_true rfl) dX8_type_39 (fun r19 w20 H locs hp21 h => ?_)
    obtain ⟨rfl, hk22⟩ := hp21
    exact e_i X h hr hlk dX8_type_42 ⟨fun _ => by first | rfl | omega, fun _ => by first | rfl | omega, fun k hk => (hk22 k (by omega)).trans ((congrFun e13 k).trans (congrFun e4 k))⟩
  · refine lv_if_ne (tgt := 17) hx hb dX8_type_7 (by decide) (fun hc => absurd (by decide) hc) (fun _ => ?_)
    refine lv_aload_n hx hb dX8_type_10 rfl (lv_at hl 0 rfl) ?_
    refine lv_bipush (v := (-2)) hx hb dX8_type_11 (by decide) ?_
    have f23 : w 0 = .inr (6, [.ref (ad 1), .ref (ad 14), .ref (ad 27), .ref (ad 54), .ref (ad 55), .ref (ad 58), .ref (ad 62), .long 0, .long 1, .int 0, .int 0, .int 0]) := F 0 (by decide)
    have f24 : w2 0 = .inr (6, [.ref (ad 1), .ref (ad 14), .ref (ad 27), .ref (ad 54), .ref (ad 55), .ref (ad 58), .ref (ad 62), .long 0, .long 1, .int 0, .int 0, .int 0]) := by rw [e4]; exact f23
    refine q_Vi (na := 1) (As := [.int (-2)]) (rest := []) X hD hN h rfl (c_refused l G cI cB cZ cO ad w2 _ _ _ _ _ _ _ _ _ _ _ _ (-2) f24) ⟨kw_11, kw_12, kw_13, kw_14, kw_15⟩ rfl ⟨by decide, by decide, by decide⟩ ⟨Nat.le_of_ble_eq_true rfl, Nat.le_of_ble_eq_true rfl⟩ ⟨Nat.zero_le _, Nat.zero_le _⟩ (by decide) f24 rfl rfl hl.1 rfl (Nat.le_of_ble_eq_true rfl) dX8_type_13 (fun r25 w26 H locs hp27 h => ?_)
    obtain ⟨rfl, x28, y29, z30, e31⟩ := hp27
    have f32 : w26 0 = .inr (6, [.ref (ad 1), .ref (ad 14), .ref (ad 27), .ref (ad 54), .ref (ad 55), .ref (ad 58), .ref (ad 62), .long 0, .long 1, .int x28, .int y29, .int z30]) := (congrFun e31 _).trans (va_up_self _ _ _)
    exact e_i X h hr hlk dX8_type_16 ⟨fun _ => by first | rfl | omega, fun _ => by first | rfl | omega, fun k hk => ((congrFun e31 k).trans (va_up_ne _ _ (by omega))).trans (congrFun e4 k)⟩

set_option maxHeartbeats 4000000 in
set_option maxRecDepth 100000 in
theorem c_X_clear (l : Launch) (G : va_G) (cI cB cZ cO : ClassId) (ad : Nat → Nat) (w : Nat → va_E) (F : ∀ k, k < 74 → w k = fr0 cI cB cZ cO ad k)  : MI l G (tyq cI cB cZ cO) yX8_clear cX8_clear 1 (some .int) 1 21 74 ad w [.ref (ad 0)] (fun r w1 => r = 0 ∧ ∀ k, 64 ≤ k → w1 k = w k) := by
  refine mk_i (own := "NoonShade") rfl (by decide) (Nat.le_of_ble_eq_true rfl) ?_
  intro p e s m below meth c ls X hD hN hr hlk h hl
  have hx := X.1.1
  have hb := X.1.2.1
  have hown := X.1.2.2.2.1
  have hts := X.1.2.2.2.2
  have hl : lv_has ls 1 [(0, .ref (ad 0))] := hl
  refine lv_aload_n hx hb dX8_clear_0 rfl (lv_at hl 0 rfl) ?_
  have f1 : w 0 = .inr (6, [.ref (ad 1), .ref (ad 14), .ref (ad 27), .ref (ad 54), .ref (ad 55), .ref (ad 58), .ref (ad 62), .long 0, .long 1, .int 0, .int 0, .int 0]) := F 0 (by decide)
  refine r_get kc8 X h 0 4 (by decide) rfl f1 (by decide) kw_70 rfl dX8_clear_1 ?_
  have f2 : w 55 = .inr (5, [.ref (ad 56), .ref (ad 57), .int 0, .int 0, .int 0, .int 0, .int 0]) := F 55 (by decide)
  refine q_Vi (na := 0) (As := []) (rest := []) X hD hN h rfl (c_T_empty l G cI cB cZ cO ad w  f2) ⟨kw_76, kw_77, kw_78, kw_67, kw_79⟩ rfl ⟨by decide, by decide, by decide⟩ ⟨Nat.le_of_ble_eq_true rfl, Nat.le_of_ble_eq_true rfl⟩ ⟨Nat.zero_le _, Nat.zero_le _⟩ (by decide) f2 rfl rfl hl.1 rfl (Nat.le_of_ble_eq_true rfl) dX8_clear_4 (fun r3 w4 H locs hp5 h => ?_)
  obtain ⟨rfl, hk6⟩ := hp5
  exact e_i X h hr hlk dX8_clear_7 ⟨rfl, fun k hk => hk6 k (by omega)⟩

set_option maxHeartbeats 4000000 in
set_option maxRecDepth 100000 in
theorem c_X_read (l : Launch) (G : va_G) (cI cB cZ cO : ClassId) (ad : Nat → Nat) (w : Nat → va_E) (F : ∀ k, k < 74 → w k = fr0 cI cB cZ cO ad k)  : MI l G (tyq cI cB cZ cO) yX8_read cX8_read 2 (some .int) 3 65 74 ad w [.ref (ad 0)] (fun r w1 => r = (-10) ∧ ∀ k, 64 ≤ k → w1 k = w k) := by
  refine mk_i (own := "NoonShade") rfl (by decide) (Nat.le_of_ble_eq_true rfl) ?_
  intro p e s m below meth c ls X hD hN hr hlk h hl
  have hx := X.1.1
  have hb := X.1.2.1
  have hown := X.1.2.2.2.1
  have hts := X.1.2.2.2.2
  have hl : lv_has ls 2 [(0, .ref (ad 0))] := hl
  refine lv_aload_n hx hb dX8_read_0 rfl (lv_at hl 0 rfl) ?_
  have f1 : w 0 = .inr (6, [.ref (ad 1), .ref (ad 14), .ref (ad 27), .ref (ad 54), .ref (ad 55), .ref (ad 58), .ref (ad 62), .long 0, .long 1, .int 0, .int 0, .int 0]) := F 0 (by decide)
  refine r_get kc8 X h 0 4 (by decide) rfl f1 (by decide) kw_70 rfl dX8_read_1 ?_
  refine lv_aload_n hx hb dX8_read_4 rfl (lv_at hl 0 rfl) ?_
  refine r_get kc8 X h 0 1 (by decide) rfl f1 (by decide) kw_91 rfl dX8_read_5 ?_
  have f2 : w 55 = .inr (5, [.ref (ad 56), .ref (ad 57), .int 0, .int 0, .int 0, .int 0, .int 0]) := F 55 (by decide)
  have f3 : w 14 = .inr (1, [.int 0, .int 0, .int 0, .int 0, .int 0, .ref (ad 15), .ref (ad 16), .ref (ad 17), .ref (ad 18), .ref (ad 19), .ref (ad 20), .ref (ad 21), .ref (ad 23), .ref (ad 25)]) := F 14 (by decide)
  have f4 : w 21 = .inr (4, [.ref (ad 22), .int 0]) := F 21 (by decide)
  have f5 : w 23 = .inr (4, [.ref (ad 24), .int 0]) := F 23 (by decide)
  have f6 : w 25 = .inr (2, [.ref (ad 26), .int 0]) := F 25 (by decide)
  refine q_Vi (na := 1) (As := [.ref (ad 14)]) (rest := []) X hD hN h rfl (c_T_tell l G cI cB cZ cO ad w  f2 f3 f4 f5 f6) ⟨kw_92, kw_93, kw_94, kw_67, kw_95⟩ rfl ⟨by decide, by decide, by decide⟩ ⟨Nat.le_of_ble_eq_true rfl, Nat.le_of_ble_eq_true rfl⟩ ⟨Nat.zero_le _, Nat.zero_le _⟩ (by decide) f2 rfl rfl hl.1 rfl (Nat.le_of_ble_eq_true rfl) dX8_read_8 (fun r7 w8 H locs hp9 h => ?_)
  obtain ⟨rfl, hk10⟩ := hp9
  refine lv_istore_n (lv' := [(1, .int (-10)), (0, .ref (ad 0))]) hx hb dX8_read_11 rfl hl (by decide) rfl (fun ls hl => ?_)
  refine lv_iload_n hx hb dX8_read_12 rfl (lv_at hl 0 rfl) ?_
  refine lv_if_le (tgt := 27) hx hb dX8_read_13 (by decide) (fun _ => ?_) (fun hc => absurd (by decide) hc)
  refine lv_iload_n hx hb dX8_read_27 rfl (lv_at hl 0 rfl) ?_
  exact e_i X h hr hlk dX8_read_28 ⟨rfl, fun k hk => hk10 k (by omega)⟩

set_option maxHeartbeats 4000000 in
set_option maxRecDepth 100000 in
theorem c_X_undo (l : Launch) (G : va_G) (cI cB cZ cO : ClassId) (ad : Nat → Nat) (w : Nat → va_E) (F : ∀ k, k < 74 → w k = fr0 cI cB cZ cO ad k)  : MI l G (tyq cI cB cZ cO) yX8_undo cX8_undo 1 (some .int) 1 22 74 ad w [.ref (ad 0)] (fun r w1 => r = (-3) ∧ ∀ k, 64 ≤ k → w1 k = w k) := by
  refine mk_i (own := "NoonShade") rfl (by decide) (Nat.le_of_ble_eq_true rfl) ?_
  intro p e s m below meth c ls X hD hN hr hlk h hl
  have hx := X.1.1
  have hb := X.1.2.1
  have hown := X.1.2.2.2.1
  have hts := X.1.2.2.2.2
  have hl : lv_has ls 1 [(0, .ref (ad 0))] := hl
  refine lv_aload_n hx hb dX8_undo_0 rfl (lv_at hl 0 rfl) ?_
  have f1 : w 0 = .inr (6, [.ref (ad 1), .ref (ad 14), .ref (ad 27), .ref (ad 54), .ref (ad 55), .ref (ad 58), .ref (ad 62), .long 0, .long 1, .int 0, .int 0, .int 0]) := F 0 (by decide)
  refine r_get kc8 X h 0 0 (by decide) rfl f1 (by decide) kw_5 rfl dX8_undo_1 ?_
  have f2 : w 1 = .inr (1, [.int 0, .int 0, .int 0, .int 0, .int 0, .ref (ad 2), .ref (ad 3), .ref (ad 4), .ref (ad 5), .ref (ad 6), .ref (ad 7), .ref (ad 8), .ref (ad 10), .ref (ad 12)]) := F 1 (by decide)
  refine r_get kc2 X h 1 13 (by decide) rfl f2 (by decide) kw_52 rfl dX8_undo_4 ?_
  refine lv_aload_n hx hb dX8_undo_7 rfl (lv_at hl 0 rfl) ?_
  refine r_get kc8 X h 0 0 (by decide) rfl f1 (by decide) kw_5 rfl dX8_undo_8 ?_
  have f3 : w 12 = .inr (2, [.ref (ad 13), .int 0]) := F 12 (by decide)
  refine q_Vi (na := 1) (As := [.ref (ad 1)]) (rest := []) X hD hN h rfl (c_bringBack l G cI cB cZ cO ad w  f3) ⟨kw_96, kw_97, kw_98, kw_36, kw_99⟩ rfl ⟨by decide, by decide, by decide⟩ ⟨Nat.le_of_ble_eq_true rfl, Nat.le_of_ble_eq_true rfl⟩ ⟨Nat.zero_le _, Nat.zero_le _⟩ (by decide) f3 rfl rfl hl.1 rfl (Nat.le_of_ble_eq_true rfl) dX8_undo_11 (fun r4 w5 H locs hp6 h => ?_)
  obtain ⟨e7, rfl⟩ := hp6
  refine lv_if_ne (tgt := 24) hx hb dX8_undo_14 (by decide) (fun hc => absurd (by decide) hc) (fun _ => ?_)
  refine lv_aload_n hx hb dX8_undo_17 rfl (lv_at hl 0 rfl) ?_
  refine lv_bipush (v := (-3)) hx hb dX8_undo_18 (by decide) ?_
  have f8 : w5 0 = .inr (6, [.ref (ad 1), .ref (ad 14), .ref (ad 27), .ref (ad 54), .ref (ad 55), .ref (ad 58), .ref (ad 62), .long 0, .long 1, .int 0, .int 0, .int 0]) := by rw [e7]; exact f1
  refine q_Vi (na := 1) (As := [.int (-3)]) (rest := []) X hD hN h rfl (c_refused l G cI cB cZ cO ad w5 _ _ _ _ _ _ _ _ _ _ _ _ (-3) f8) ⟨kw_11, kw_12, kw_13, kw_14, kw_15⟩ rfl ⟨by decide, by decide, by decide⟩ ⟨Nat.le_of_ble_eq_true rfl, Nat.le_of_ble_eq_true rfl⟩ ⟨Nat.zero_le _, Nat.zero_le _⟩ (by decide) f8 rfl rfl hl.1 rfl (Nat.le_of_ble_eq_true rfl) dX8_undo_20 (fun r9 w10 H locs hp11 h => ?_)
  obtain ⟨rfl, x12, y13, z14, e15⟩ := hp11
  have f16 : w10 0 = .inr (6, [.ref (ad 1), .ref (ad 14), .ref (ad 27), .ref (ad 54), .ref (ad 55), .ref (ad 58), .ref (ad 62), .long 0, .long 1, .int x12, .int y13, .int z14]) := (congrFun e15 _).trans (va_up_self _ _ _)
  exact e_i X h hr hlk dX8_undo_23 ⟨rfl, fun k hk => ((congrFun e15 k).trans (va_up_ne _ _ (by omega))).trans (congrFun e7 k)⟩

set_option maxHeartbeats 4000000 in
set_option maxRecDepth 100000 in
theorem c_X_forget (l : Launch) (G : va_G) (cI cB cZ cO : ClassId) (ad : Nat → Nat) (w : Nat → va_E) (F : ∀ k, k < 74 → w k = fr0 cI cB cZ cO ad k) (u : Int32) : MI l G (tyq cI cB cZ cO) yX8_forget cX8_forget 2 (some .int) 1 21 74 ad w [.ref (ad 0), .int u] (fun r w1 => (u.toInt = 0 ∨ u.toInt = 1 → r = 0) ∧ (¬ (u.toInt = 0 ∨ u.toInt = 1) → r = -2) ∧ ∀ k, 64 ≤ k → w1 k = w k) := by
  refine mk_i (own := "NoonShade") rfl (by decide) (Nat.le_of_ble_eq_true rfl) ?_
  intro p e s m below meth c ls X hD hN hr hlk h hl
  have hx := X.1.1
  have hb := X.1.2.1
  have hown := X.1.2.2.2.1
  have hts := X.1.2.2.2.2
  have hl : lv_has ls 2 [(0, .ref (ad 0)), (1, .int u)] := hl
  refine lv_iload_n hx hb dX8_forget_0 rfl (lv_at hl 1 rfl) ?_
  by_cases hq1 : (u).toInt = 0
  · refine lv_lookup (tgt := 28) (off := 27) hx hb dX8_forget_1 (by decide) (by rw [hq1]; rfl) (by decide) ?_
    refine lv_aload_n hx hb dX8_forget_28 rfl (lv_at hl 0 rfl) ?_
    have f2 : w 0 = .inr (6, [.ref (ad 1), .ref (ad 14), .ref (ad 27), .ref (ad 54), .ref (ad 55), .ref (ad 58), .ref (ad 62), .long 0, .long 1, .int 0, .int 0, .int 0]) := F 0 (by decide)
    refine r_get kc8 X h 0 0 (by decide) rfl f2 (by decide) kw_5 rfl dX8_forget_29 ?_
    have f3 : w 1 = .inr (1, [.int 0, .int 0, .int 0, .int 0, .int 0, .ref (ad 2), .ref (ad 3), .ref (ad 4), .ref (ad 5), .ref (ad 6), .ref (ad 7), .ref (ad 8), .ref (ad 10), .ref (ad 12)]) := F 1 (by decide)
    refine r_get kc2 X h 1 11 (by decide) rfl f3 (by decide) kw_100 rfl dX8_forget_32 ?_
    have f4 : w 8 = .inr (4, [.ref (ad 9), .int 0]) := F 8 (by decide)
    refine q_Vi (na := 0) (As := []) (rest := []) X hD hN h rfl (c_R_empty l G cI cB cZ cO ad w 8 _ _ (by decide) f4) ⟨kw_101, kw_27, kw_28, kw_29, kw_30⟩ rfl ⟨by decide, by decide, by decide⟩ ⟨Nat.le_of_ble_eq_true rfl, Nat.le_of_ble_eq_true rfl⟩ ⟨Nat.zero_le _, Nat.zero_le _⟩ (by decide) f4 rfl rfl hl.1 rfl (Nat.le_of_ble_eq_true rfl) dX8_forget_35 (fun r5 w6 H locs hp7 h => ?_)
    obtain ⟨hr10, e8⟩ := hp7
    subst hr10
    have f9 : w6 8 = .inr (4, [.ref (ad 9), .int 0]) := (congrFun e8 _).trans (va_up_self _ _ _)
    exact e_i X h hr hlk dX8_forget_38 ⟨fun _ => by first | rfl | omega, fun _ => by first | rfl | omega, fun k hk => (congrFun e8 k).trans (va_up_ne _ _ (by omega))⟩
  by_cases hq11 : (u).toInt = 1
  · refine lv_lookup (tgt := 39) (off := 38) hx hb dX8_forget_1 (by decide) (by rw [hq11]; rfl) (by decide) ?_
    refine lv_aload_n hx hb dX8_forget_39 rfl (lv_at hl 0 rfl) ?_
    have f12 : w 0 = .inr (6, [.ref (ad 1), .ref (ad 14), .ref (ad 27), .ref (ad 54), .ref (ad 55), .ref (ad 58), .ref (ad 62), .long 0, .long 1, .int 0, .int 0, .int 0]) := F 0 (by decide)
    refine r_get kc8 X h 0 0 (by decide) rfl f12 (by decide) kw_5 rfl dX8_forget_40 ?_
    have f13 : w 1 = .inr (1, [.int 0, .int 0, .int 0, .int 0, .int 0, .ref (ad 2), .ref (ad 3), .ref (ad 4), .ref (ad 5), .ref (ad 6), .ref (ad 7), .ref (ad 8), .ref (ad 10), .ref (ad 12)]) := F 1 (by decide)
    refine r_get kc2 X h 1 12 (by decide) rfl f13 (by decide) kw_102 rfl dX8_forget_43 ?_
    have f14 : w 10 = .inr (4, [.ref (ad 11), .int 0]) := F 10 (by decide)
    refine q_Vi (na := 0) (As := []) (rest := []) X hD hN h rfl (c_R_empty l G cI cB cZ cO ad w 10 _ _ (by decide) f14) ⟨kw_101, kw_27, kw_28, kw_29, kw_30⟩ rfl ⟨by decide, by decide, by decide⟩ ⟨Nat.le_of_ble_eq_true rfl, Nat.le_of_ble_eq_true rfl⟩ ⟨Nat.zero_le _, Nat.zero_le _⟩ (by decide) f14 rfl rfl hl.1 rfl (Nat.le_of_ble_eq_true rfl) dX8_forget_46 (fun r15 w16 H locs hp17 h => ?_)
    obtain ⟨hr20, e18⟩ := hp17
    subst hr20
    have f19 : w16 10 = .inr (4, [.ref (ad 11), .int 0]) := (congrFun e18 _).trans (va_up_self _ _ _)
    exact e_i X h hr hlk dX8_forget_49 ⟨fun _ => by first | rfl | omega, fun _ => by first | rfl | omega, fun k hk => (congrFun e18 k).trans (va_up_ne _ _ (by omega))⟩
  refine lv_lookup (tgt := 50) (off := 49) hx hb dX8_forget_1 (by decide) (by show (if (0 : Int) = _ then _ else if (1 : Int) = _ then _ else _) = _; rw [if_neg (by omega), if_neg (by omega)]; rfl) (by decide) ?_
  refine lv_aload_n hx hb dX8_forget_50 rfl (lv_at hl 0 rfl) ?_
  refine lv_bipush (v := (-2)) hx hb dX8_forget_51 (by decide) ?_
  have f21 : w 0 = .inr (6, [.ref (ad 1), .ref (ad 14), .ref (ad 27), .ref (ad 54), .ref (ad 55), .ref (ad 58), .ref (ad 62), .long 0, .long 1, .int 0, .int 0, .int 0]) := F 0 (by decide)
  refine q_Vi (na := 1) (As := [.int (-2)]) (rest := []) X hD hN h rfl (c_refused l G cI cB cZ cO ad w _ _ _ _ _ _ _ _ _ _ _ _ (-2) f21) ⟨kw_11, kw_12, kw_13, kw_14, kw_15⟩ rfl ⟨by decide, by decide, by decide⟩ ⟨Nat.le_of_ble_eq_true rfl, Nat.le_of_ble_eq_true rfl⟩ ⟨Nat.zero_le _, Nat.zero_le _⟩ (by decide) f21 rfl rfl hl.1 rfl (Nat.le_of_ble_eq_true rfl) dX8_forget_53 (fun r22 w23 H locs hp24 h => ?_)
  obtain ⟨rfl, x25, y26, z27, e28⟩ := hp24
  have f29 : w23 0 = .inr (6, [.ref (ad 1), .ref (ad 14), .ref (ad 27), .ref (ad 54), .ref (ad 55), .ref (ad 58), .ref (ad 62), .long 0, .long 1, .int x25, .int y26, .int z27]) := (congrFun e28 _).trans (va_up_self _ _ _)
  exact e_i X h hr hlk dX8_forget_56 ⟨fun _ => by first | rfl | omega, fun _ => by first | rfl | omega, fun k hk => (congrFun e28 k).trans (va_up_ne _ _ (by omega))⟩

set_option maxHeartbeats 4000000 in
set_option maxRecDepth 100000 in
theorem c_X_two (l : Launch) (G : va_G) (cI cB cZ cO : ClassId) (ad : Nat → Nat) (w : Nat → va_E) (F : ∀ k, k < 74 → w k = fr0 cI cB cZ cO ad k) (k : Int32) : MI l G (tyq cI cB cZ cO) yX8_two cX8_two 5 (some .int) 1 21 74 ad w [.ref (ad 0), .int k] (fun r w1 => (k.toInt < -1 → r = -10) ∧ (k.toInt = -1 → r = 0) ∧ (-1 < k.toInt → r = -5) ∧ ∀ k, 64 ≤ k → w1 k = w k) := by
  refine mk_i (own := "NoonShade") rfl (by decide) (Nat.le_of_ble_eq_true rfl) ?_
  intro p e s m below meth c ls X hD hN hr hlk h hl
  have hx := X.1.1
  have hb := X.1.2.1
  have hown := X.1.2.2.2.1
  have hts := X.1.2.2.2.2
  have hl : lv_has ls 5 [(0, .ref (ad 0)), (1, .int k)] := hl
  refine lv_iload_n hx hb dX8_two_0 rfl (lv_at hl 1 rfl) ?_
  refine lv_iconst (v := (-1)) hx hb dX8_two_1 (by decide) ?_
  refine lv_icmp_ge (tgt := 15) hx hb dX8_two_2 (by decide) (fun hc1 => ?_) (fun hc1 => ?_)
  · have hc1 : (-1) ≤ (k).toInt := i_le hc1 rfl rfl
    refine lv_iconst (v := 0) hx hb dX8_two_15 (by decide) ?_
    refine lv_istore_n (lv' := [(2, .int 0), (0, .ref (ad 0)), (1, .int k)]) hx hb dX8_two_16 rfl hl (by decide) rfl (fun ls hl => ?_)
    refine lv_iconst (v := 0) hx hb dX8_two_17 (by decide) ?_
    refine lv_istore_n (lv' := [(3, .int 0), (2, .int 0), (0, .ref (ad 0)), (1, .int k)]) hx hb dX8_two_18 rfl hl (by decide) rfl (fun ls hl => ?_)
    refine lv_iload_n hx hb dX8_two_19 rfl (lv_at hl 0 rfl) ?_
    refine lv_aload_n hx hb dX8_two_20 rfl (lv_at hl 2 rfl) ?_
    have f2 : w 0 = .inr (6, [.ref (ad 1), .ref (ad 14), .ref (ad 27), .ref (ad 54), .ref (ad 55), .ref (ad 58), .ref (ad 62), .long 0, .long 1, .int 0, .int 0, .int 0]) := F 0 (by decide)
    refine r_get kc8 X h 0 0 (by decide) rfl f2 (by decide) kw_5 rfl dX8_two_21 ?_
    have f3 : w 1 = .inr (1, [.int 0, .int 0, .int 0, .int 0, .int 0, .ref (ad 2), .ref (ad 3), .ref (ad 4), .ref (ad 5), .ref (ad 6), .ref (ad 7), .ref (ad 8), .ref (ad 10), .ref (ad 12)]) := F 1 (by decide)
    refine r_get kc2 X h 1 3 (by decide) rfl f3 (by decide) kw_41 rfl dX8_two_24 ?_
    refine lv_icmp_ge (tgt := 83) hx hb dX8_two_27 (by decide) (fun _ => ?_) (fun hc => absurd (by decide) hc)
    refine lv_iload_n hx hb dX8_two_83 rfl (lv_at hl 3 rfl) ?_
    refine lv_iconst (v := (-1)) hx hb dX8_two_84 (by decide) ?_
    refine lv_icmp_ne (tgt := 92) hx hb dX8_two_85 (by decide) (fun hc4 => ?_) (fun hc4 => ?_)
    · have hc4 : ¬ (k).toInt = (-1) := i_ne hc4 rfl rfl
      refine lv_bipush (v := (-5)) hx hb dX8_two_92 (by decide) ?_
      exact e_i X h hr hlk dX8_two_94 ⟨fun _ => by first | rfl | omega, fun _ => by first | rfl | omega, fun _ => by first | rfl | omega, fun k hk => rfl⟩
    · have hc4 : (k).toInt = (-1) := i_eq hc4 rfl rfl
      refine lv_iload_n hx hb dX8_two_88 rfl (lv_at hl 1 rfl) ?_
      refine lv_goto (tgt := 94) hx hb dX8_two_89 (by decide) ?_
      exact e_i X h hr hlk dX8_two_94 ⟨fun _ => by first | rfl | omega, fun _ => by first | rfl | omega, fun _ => by first | rfl | omega, fun k hk => rfl⟩
  · have hc1 : ¬ (-1) ≤ (k).toInt := i_nle hc1 rfl rfl
    refine lv_aload_n hx hb dX8_two_5 rfl (lv_at hl 0 rfl) ?_
    refine lv_bipush (v := (-2)) hx hb dX8_two_6 (by decide) ?_
    have f5 : w 0 = .inr (6, [.ref (ad 1), .ref (ad 14), .ref (ad 27), .ref (ad 54), .ref (ad 55), .ref (ad 58), .ref (ad 62), .long 0, .long 1, .int 0, .int 0, .int 0]) := F 0 (by decide)
    refine q_Vi (na := 1) (As := [.int (-2)]) (rest := []) X hD hN h rfl (c_refused l G cI cB cZ cO ad w _ _ _ _ _ _ _ _ _ _ _ _ (-2) f5) ⟨kw_11, kw_12, kw_13, kw_14, kw_15⟩ rfl ⟨by decide, by decide, by decide⟩ ⟨Nat.le_of_ble_eq_true rfl, Nat.le_of_ble_eq_true rfl⟩ ⟨Nat.zero_le _, Nat.zero_le _⟩ (by decide) f5 rfl rfl hl.1 rfl (Nat.le_of_ble_eq_true rfl) dX8_two_8 (fun r6 w7 H locs hp8 h => ?_)
    obtain ⟨rfl, x9, y10, z11, e12⟩ := hp8
    have f13 : w7 0 = .inr (6, [.ref (ad 1), .ref (ad 14), .ref (ad 27), .ref (ad 54), .ref (ad 55), .ref (ad 58), .ref (ad 62), .long 0, .long 1, .int x9, .int y10, .int z11]) := (congrFun e12 _).trans (va_up_self _ _ _)
    refine lv_pop hx hb dX8_two_11 rfl ?_
    refine lv_bipush (v := (-10)) hx hb dX8_two_12 (by decide) ?_
    exact e_i X h hr hlk dX8_two_14 ⟨fun _ => by first | rfl | omega, fun _ => by first | rfl | omega, fun _ => by first | rfl | omega, fun k hk => (congrFun e12 k).trans (va_up_ne _ _ (by omega))⟩

set_option maxHeartbeats 4000000 in
set_option maxRecDepth 100000 in
theorem c_X_part (l : Launch) (G : va_G) (cI cB cZ cO : ClassId) (ad : Nat → Nat) (w : Nat → va_E) (F : ∀ k, k < 74 → w k = fr0 cI cB cZ cO ad k) (u : Int32) : ML l G (tyq cI cB cZ cO) yX8_part cX8_part 2 (some .long) 1 21 74 ad w [.ref (ad 0), .int u] (fun r w1 => (u.toInt = 0 → r = 0) ∧ (u.toInt = 1 → r = 1) ∧ (¬ u.toInt = 0 ∧ ¬ u.toInt = 1 → r = -2) ∧ ∀ k, 64 ≤ k → w1 k = w k) := by
  refine mk_l (own := "NoonShade") rfl (by decide) (Nat.le_of_ble_eq_true rfl) ?_
  intro p e s m below meth c ls X hD hN hr hlk h hl
  have hx := X.1.1
  have hb := X.1.2.1
  have hown := X.1.2.2.2.1
  have hts := X.1.2.2.2.2
  have hl : lv_has ls 2 [(0, .ref (ad 0)), (1, .int u)] := hl
  refine lv_iload_n hx hb dX8_part_0 rfl (lv_at hl 1 rfl) ?_
  by_cases hq1 : (u).toInt = 0
  · refine lv_lookup (tgt := 28) (off := 27) hx hb dX8_part_1 (by decide) (by rw [hq1]; rfl) (by decide) ?_
    refine lv_aload_n hx hb dX8_part_28 rfl (lv_at hl 0 rfl) ?_
    have f2 : w 0 = .inr (6, [.ref (ad 1), .ref (ad 14), .ref (ad 27), .ref (ad 54), .ref (ad 55), .ref (ad 58), .ref (ad 62), .long 0, .long 1, .int 0, .int 0, .int 0]) := F 0 (by decide)
    refine r_get kc8 X h 0 7 (by decide) rfl f2 (by decide) kw_103 rfl dX8_part_29 ?_
    exact e_l X h hr hlk dX8_part_32 ⟨fun _ => by first | rfl | omega, fun _ => by first | rfl | omega, fun _ => by first | rfl | omega, fun k hk => rfl⟩
  by_cases hq3 : (u).toInt = 1
  · refine lv_lookup (tgt := 33) (off := 32) hx hb dX8_part_1 (by decide) (by rw [hq3]; rfl) (by decide) ?_
    refine lv_aload_n hx hb dX8_part_33 rfl (lv_at hl 0 rfl) ?_
    have f4 : w 0 = .inr (6, [.ref (ad 1), .ref (ad 14), .ref (ad 27), .ref (ad 54), .ref (ad 55), .ref (ad 58), .ref (ad 62), .long 0, .long 1, .int 0, .int 0, .int 0]) := F 0 (by decide)
    refine r_get kc8 X h 0 8 (by decide) rfl f4 (by decide) kw_104 rfl dX8_part_34 ?_
    exact e_l X h hr hlk dX8_part_37 ⟨fun _ => by first | rfl | omega, fun _ => by first | rfl | omega, fun _ => by first | rfl | omega, fun k hk => rfl⟩
  refine lv_lookup (tgt := 38) (off := 37) hx hb dX8_part_1 (by decide) (by show (if (0 : Int) = _ then _ else if (1 : Int) = _ then _ else _) = _; rw [if_neg (by omega), if_neg (by omega)]; rfl) (by decide) ?_
  refine lv_aload_n hx hb dX8_part_38 rfl (lv_at hl 0 rfl) ?_
  refine lv_bipush (v := (-2)) hx hb dX8_part_39 (by decide) ?_
  have f5 : w 0 = .inr (6, [.ref (ad 1), .ref (ad 14), .ref (ad 27), .ref (ad 54), .ref (ad 55), .ref (ad 58), .ref (ad 62), .long 0, .long 1, .int 0, .int 0, .int 0]) := F 0 (by decide)
  refine q_Vi (na := 1) (As := [.int (-2)]) (rest := []) X hD hN h rfl (c_refused l G cI cB cZ cO ad w _ _ _ _ _ _ _ _ _ _ _ _ (-2) f5) ⟨kw_11, kw_12, kw_13, kw_14, kw_15⟩ rfl ⟨by decide, by decide, by decide⟩ ⟨Nat.le_of_ble_eq_true rfl, Nat.le_of_ble_eq_true rfl⟩ ⟨Nat.zero_le _, Nat.zero_le _⟩ (by decide) f5 rfl rfl hl.1 rfl (Nat.le_of_ble_eq_true rfl) dX8_part_41 (fun r6 w7 H locs hp8 h => ?_)
  obtain ⟨rfl, x9, y10, z11, e12⟩ := hp8
  have f13 : w7 0 = .inr (6, [.ref (ad 1), .ref (ad 14), .ref (ad 27), .ref (ad 54), .ref (ad 55), .ref (ad 58), .ref (ad 62), .long 0, .long 1, .int x9, .int y10, .int z11]) := (congrFun e12 _).trans (va_up_self _ _ _)
  refine lv_i2l (v := (-2)) hx hb dX8_part_44 rfl ?_
  exact e_l X h hr hlk dX8_part_45 ⟨fun _ => by first | rfl | omega, fun _ => by first | rfl | omega, fun _ => by first | rfl | omega, fun k hk => (congrFun e12 k).trans (va_up_ne _ _ (by omega))⟩

set_option maxHeartbeats 4000000 in
set_option maxRecDepth 100000 in
theorem c_X_status (l : Launch) (G : va_G) (cI cB cZ cO : ClassId) (ad : Nat → Nat) (w : Nat → va_E) (F : ∀ k, k < 74 → w k = fr0 cI cB cZ cO ad k) (u : Int32) : MI l G (tyq cI cB cZ cO) yX8_status cX8_status 2 (some .int) 1 21 74 ad w [.ref (ad 0), .int u] (fun r w1 => (0 ≤ u.toInt ∧ u.toInt ≤ 2 → r = 0) ∧ (¬ (0 ≤ u.toInt ∧ u.toInt ≤ 2) → r = -1) ∧ ∀ k, 64 ≤ k → w1 k = w k) := by
  refine mk_i (own := "NoonShade") rfl (by decide) (Nat.le_of_ble_eq_true rfl) ?_
  intro p e s m below meth c ls X hD hN hr hlk h hl
  have hx := X.1.1
  have hb := X.1.2.1
  have hown := X.1.2.2.2.1
  have hts := X.1.2.2.2.2
  have hl : lv_has ls 2 [(0, .ref (ad 0)), (1, .int u)] := hl
  refine lv_iload_n hx hb dX8_status_0 rfl (lv_at hl 1 rfl) ?_
  by_cases hs1 : 0 ≤ (u).toInt ∧ (u).toInt ≤ 2
  · have ha2 : u = 0 ∨ u = 1 ∨ u = 2 := by simp only [fa_eq]; have := hs1; simp only [show ((0 : Int32).toInt = 0) from rfl, show ((1 : Int32).toInt = 1) from rfl, show ((2 : Int32).toInt = 2) from rfl]; omega
    rcases ha2 with hq | hq | hq
    · refine lv_tableIn (tgt := 28) (off := 27) hx hb dX8_status_1 (by rw [hq]; decide) (by rw [hq]; decide) (by rw [hq]; decide) (by decide) ?_
      refine lv_aload_n hx hb dX8_status_28 rfl (lv_at hl 0 rfl) ?_
      have f3 : w 0 = .inr (6, [.ref (ad 1), .ref (ad 14), .ref (ad 27), .ref (ad 54), .ref (ad 55), .ref (ad 58), .ref (ad 62), .long 0, .long 1, .int 0, .int 0, .int 0]) := F 0 (by decide)
      refine r_get kc8 X h 0 9 (by decide) rfl f3 (by decide) kw_4 rfl dX8_status_29 ?_
      exact e_i X h hr hlk dX8_status_32 ⟨fun _ => by first | rfl | omega, fun _ => by first | rfl | omega, fun k hk => rfl⟩
    · refine lv_tableIn (tgt := 33) (off := 32) hx hb dX8_status_1 (by rw [hq]; decide) (by rw [hq]; decide) (by rw [hq]; decide) (by decide) ?_
      refine lv_aload_n hx hb dX8_status_33 rfl (lv_at hl 0 rfl) ?_
      have f4 : w 0 = .inr (6, [.ref (ad 1), .ref (ad 14), .ref (ad 27), .ref (ad 54), .ref (ad 55), .ref (ad 58), .ref (ad 62), .long 0, .long 1, .int 0, .int 0, .int 0]) := F 0 (by decide)
      refine r_get kc8 X h 0 10 (by decide) rfl f4 (by decide) kw_3 rfl dX8_status_34 ?_
      exact e_i X h hr hlk dX8_status_37 ⟨fun _ => by first | rfl | omega, fun _ => by first | rfl | omega, fun k hk => rfl⟩
    · refine lv_tableIn (tgt := 38) (off := 37) hx hb dX8_status_1 (by rw [hq]; decide) (by rw [hq]; decide) (by rw [hq]; decide) (by decide) ?_
      refine lv_aload_n hx hb dX8_status_38 rfl (lv_at hl 0 rfl) ?_
      have f5 : w 0 = .inr (6, [.ref (ad 1), .ref (ad 14), .ref (ad 27), .ref (ad 54), .ref (ad 55), .ref (ad 58), .ref (ad 62), .long 0, .long 1, .int 0, .int 0, .int 0]) := F 0 (by decide)
      refine r_get kc8 X h 0 11 (by decide) rfl f5 (by decide) kw_2 rfl dX8_status_39 ?_
      exact e_i X h hr hlk dX8_status_42 ⟨fun _ => by first | rfl | omega, fun _ => by first | rfl | omega, fun k hk => rfl⟩
  · refine lv_tableOut (tgt := 43) hx hb dX8_status_1 (by omega) (by decide) ?_
    refine lv_aload_n hx hb dX8_status_43 rfl (lv_at hl 0 rfl) ?_
    refine lv_bipush (v := (-2)) hx hb dX8_status_44 (by decide) ?_
    have f6 : w 0 = .inr (6, [.ref (ad 1), .ref (ad 14), .ref (ad 27), .ref (ad 54), .ref (ad 55), .ref (ad 58), .ref (ad 62), .long 0, .long 1, .int 0, .int 0, .int 0]) := F 0 (by decide)
    refine q_Vi (na := 1) (As := [.int (-2)]) (rest := []) X hD hN h rfl (c_refused l G cI cB cZ cO ad w _ _ _ _ _ _ _ _ _ _ _ _ (-2) f6) ⟨kw_11, kw_12, kw_13, kw_14, kw_15⟩ rfl ⟨by decide, by decide, by decide⟩ ⟨Nat.le_of_ble_eq_true rfl, Nat.le_of_ble_eq_true rfl⟩ ⟨Nat.zero_le _, Nat.zero_le _⟩ (by decide) f6 rfl rfl hl.1 rfl (Nat.le_of_ble_eq_true rfl) dX8_status_46 (fun r7 w8 H locs hp9 h => ?_)
    obtain ⟨rfl, x10, y11, z12, e13⟩ := hp9
    have f14 : w8 0 = .inr (6, [.ref (ad 1), .ref (ad 14), .ref (ad 27), .ref (ad 54), .ref (ad 55), .ref (ad 58), .ref (ad 62), .long 0, .long 1, .int x10, .int y11, .int z12]) := (congrFun e13 _).trans (va_up_self _ _ _)
    refine lv_pop hx hb dX8_status_49 rfl ?_
    refine lv_iconst (v := (-1)) hx hb dX8_status_50 (by decide) ?_
    exact e_i X h hr hlk dX8_status_51 ⟨fun _ => by first | rfl | omega, fun _ => by first | rfl | omega, fun k hk => (congrFun e13 k).trans (va_up_ne _ _ (by omega))⟩

set_option maxHeartbeats 4000000 in
set_option maxRecDepth 100000 in
theorem c_X_from (l : Launch) (G : va_G) (cI cB cZ cO : ClassId) (ad : Nat → Nat) (w : Nat → va_E) (F : ∀ k, k < 74 → w k = fr0 cI cB cZ cO ad k) (i : Int32) : MI l G (tyq cI cB cZ cO) yX8_from cX8_from 2 (some .int) 1 22 74 ad w [.ref (ad 0), .int i] (fun r w1 => (0 ≤ i.toInt ∧ i.toInt ≤ 1 → r = -3) ∧ (¬ (0 ≤ i.toInt ∧ i.toInt ≤ 1) → r = -2) ∧ ∀ k, 64 ≤ k → w1 k = w k) := by
  refine mk_i (own := "NoonShade") rfl (by decide) (Nat.le_of_ble_eq_true rfl) ?_
  intro p e s m below meth c ls X hD hN hr hlk h hl
  have hx := X.1.1
  have hb := X.1.2.1
  have hown := X.1.2.2.2.1
  have hts := X.1.2.2.2.2
  have hl : lv_has ls 2 [(0, .ref (ad 0)), (1, .int i)] := hl
  refine lv_iload_n hx hb dX8_from_0 rfl (lv_at hl 1 rfl) ?_
  refine lv_iconst (v := 0) hx hb dX8_from_1 (by decide) ?_
  refine lv_iconst (v := 1) hx hb dX8_from_2 (by decide) ?_
  refine q_Si (na := 3) (As := [.int i, .int 0, .int 1]) (rest := []) X hD hN h (c_within l G cI cB cZ cO ad w i 0 1 ((i).toInt) 0 1 rfl rfl rfl) ⟨kw_38, kw_39, kw_14, kw_40⟩ ⟨by decide, by decide, by decide⟩ ⟨Nat.le_of_ble_eq_true rfl, Nat.le_of_ble_eq_true rfl⟩ ⟨Nat.zero_le _, Nat.zero_le _⟩ rfl hl.1 rfl (Nat.le_of_ble_eq_true rfl) dX8_from_3 (fun r1 w2 H locs hp3 h => ?_)
  obtain ⟨e4, hp3⟩ := hp3
  rcases hp3 with ⟨hq5a, hq5b, rfl⟩ | ⟨hq5, rfl⟩
  · refine lv_if_ne (tgt := 16) hx hb dX8_from_6 (by decide) (fun _ => ?_) (fun hc => absurd hc (by decide))
    refine lv_aload_n hx hb dX8_from_16 rfl (lv_at hl 0 rfl) ?_
    have f6 : w 0 = .inr (6, [.ref (ad 1), .ref (ad 14), .ref (ad 27), .ref (ad 54), .ref (ad 55), .ref (ad 58), .ref (ad 62), .long 0, .long 1, .int 0, .int 0, .int 0]) := F 0 (by decide)
    have f7 : w2 0 = .inr (6, [.ref (ad 1), .ref (ad 14), .ref (ad 27), .ref (ad 54), .ref (ad 55), .ref (ad 58), .ref (ad 62), .long 0, .long 1, .int 0, .int 0, .int 0]) := by rw [e4]; exact f6
    refine r_get kc8 X h 0 3 (by decide) rfl f7 (by decide) kw_105 rfl dX8_from_17 ?_
    refine lv_iload_n hx hb dX8_from_20 rfl (lv_at hl 1 rfl) ?_
    have f8 : w 54 = .inl (cZ, 2, .inl (fun _ => 0)) := F 54 (by decide)
    have f9 : w2 54 = .inl (cZ, 2, .inl (fun _ => 0)) := by rw [e4]; exact f8
    refine o_zald (v := 0) X h 54 2 (by decide) rfl f9 rfl (in_of (by omega) (by omega)) rfl dX8_from_21 ?_
    refine lv_if_ne (tgt := 32) hx hb dX8_from_22 (by decide) (fun hc => absurd (by decide) hc) (fun _ => ?_)
    refine lv_aload_n hx hb dX8_from_25 rfl (lv_at hl 0 rfl) ?_
    refine lv_bipush (v := (-3)) hx hb dX8_from_26 (by decide) ?_
    refine q_Vi (na := 1) (As := [.int (-3)]) (rest := []) X hD hN h rfl (c_refused l G cI cB cZ cO ad w2 _ _ _ _ _ _ _ _ _ _ _ _ (-3) f7) ⟨kw_11, kw_12, kw_13, kw_14, kw_15⟩ rfl ⟨by decide, by decide, by decide⟩ ⟨Nat.le_of_ble_eq_true rfl, Nat.le_of_ble_eq_true rfl⟩ ⟨Nat.zero_le _, Nat.zero_le _⟩ (by decide) f7 rfl rfl hl.1 rfl (Nat.le_of_ble_eq_true rfl) dX8_from_28 (fun r10 w11 H locs hp12 h => ?_)
    obtain ⟨rfl, x13, y14, z15, e16⟩ := hp12
    have f17 : w11 0 = .inr (6, [.ref (ad 1), .ref (ad 14), .ref (ad 27), .ref (ad 54), .ref (ad 55), .ref (ad 58), .ref (ad 62), .long 0, .long 1, .int x13, .int y14, .int z15]) := (congrFun e16 _).trans (va_up_self _ _ _)
    exact e_i X h hr hlk dX8_from_31 ⟨fun _ => by first | rfl | omega, fun _ => by first | rfl | omega, fun k hk => ((congrFun e16 k).trans (va_up_ne _ _ (by omega))).trans (congrFun e4 k)⟩
  · refine lv_if_ne (tgt := 16) hx hb dX8_from_6 (by decide) (fun hc => absurd (by decide) hc) (fun _ => ?_)
    refine lv_aload_n hx hb dX8_from_9 rfl (lv_at hl 0 rfl) ?_
    refine lv_bipush (v := (-2)) hx hb dX8_from_10 (by decide) ?_
    have f18 : w 0 = .inr (6, [.ref (ad 1), .ref (ad 14), .ref (ad 27), .ref (ad 54), .ref (ad 55), .ref (ad 58), .ref (ad 62), .long 0, .long 1, .int 0, .int 0, .int 0]) := F 0 (by decide)
    have f19 : w2 0 = .inr (6, [.ref (ad 1), .ref (ad 14), .ref (ad 27), .ref (ad 54), .ref (ad 55), .ref (ad 58), .ref (ad 62), .long 0, .long 1, .int 0, .int 0, .int 0]) := by rw [e4]; exact f18
    refine q_Vi (na := 1) (As := [.int (-2)]) (rest := []) X hD hN h rfl (c_refused l G cI cB cZ cO ad w2 _ _ _ _ _ _ _ _ _ _ _ _ (-2) f19) ⟨kw_11, kw_12, kw_13, kw_14, kw_15⟩ rfl ⟨by decide, by decide, by decide⟩ ⟨Nat.le_of_ble_eq_true rfl, Nat.le_of_ble_eq_true rfl⟩ ⟨Nat.zero_le _, Nat.zero_le _⟩ (by decide) f19 rfl rfl hl.1 rfl (Nat.le_of_ble_eq_true rfl) dX8_from_12 (fun r20 w21 H locs hp22 h => ?_)
    obtain ⟨rfl, x23, y24, z25, e26⟩ := hp22
    have f27 : w21 0 = .inr (6, [.ref (ad 1), .ref (ad 14), .ref (ad 27), .ref (ad 54), .ref (ad 55), .ref (ad 58), .ref (ad 62), .long 0, .long 1, .int x23, .int y24, .int z25]) := (congrFun e26 _).trans (va_up_self _ _ _)
    exact e_i X h hr hlk dX8_from_15 ⟨fun _ => by first | rfl | omega, fun _ => by first | rfl | omega, fun k hk => ((congrFun e26 k).trans (va_up_ne _ _ (by omega))).trans (congrFun e4 k)⟩

set_option maxHeartbeats 4000000 in
set_option maxRecDepth 100000 in
theorem c_X_counted (l : Launch) (G : va_G) (cI cB cZ cO : ClassId) (ad : Nat → Nat) (w : Nat → va_E) (u : Int32) (pf0 : w 0 = .inr (6, [.ref (ad 1), .ref (ad 14), .ref (ad 27), .ref (ad 54), .ref (ad 55), .ref (ad 58), .ref (ad 62), .long 0, .long 1, .int 0, .int 0, .int 0])) (pf1 : w 1 = .inr (1, [.int 0, .int 0, .int 0, .int 0, .int 0, .ref (ad 2), .ref (ad 3), .ref (ad 4), .ref (ad 5), .ref (ad 6), .ref (ad 7), .ref (ad 8), .ref (ad 10), .ref (ad 12)])) (pf8 : w 8 = .inr (4, [.ref (ad 9), .int 0])) (pf10 : w 10 = .inr (4, [.ref (ad 11), .int 0])) (pf12 : w 12 = .inr (2, [.ref (ad 13), .int 0])) (pf55 : w 55 = .inr (5, [.ref (ad 56), .ref (ad 57), .int 0, .int 0, .int 0, .int 0, .int 0])) : MI l G (tyq cI cB cZ cO) yX8_counted cX8_counted 2 (some .int) 1 22 74 ad w [.ref (ad 0), .int u] (fun r w1 => w1 = w ∧ r = 0) := by
  refine mk_i (own := "NoonShade") rfl (by decide) (Nat.le_of_ble_eq_true rfl) ?_
  intro p e s m below meth c ls X hD hN hr hlk h hl
  have hx := X.1.1
  have hb := X.1.2.1
  have hown := X.1.2.2.2.1
  have hts := X.1.2.2.2.2
  have hl : lv_has ls 2 [(0, .ref (ad 0)), (1, .int u)] := hl
  refine lv_iload_n hx hb dX8_counted_0 rfl (lv_at hl 1 rfl) ?_
  by_cases hs1 : 0 ≤ (u).toInt ∧ (u).toInt ≤ 8
  · have ha2 : u = 0 ∨ u = 1 ∨ u = 2 ∨ u = 3 ∨ u = 4 ∨ u = 5 ∨ u = 6 ∨ u = 7 ∨ u = 8 := by simp only [fa_eq]; have := hs1; simp only [show ((0 : Int32).toInt = 0) from rfl, show ((1 : Int32).toInt = 1) from rfl, show ((2 : Int32).toInt = 2) from rfl, show ((3 : Int32).toInt = 3) from rfl, show ((4 : Int32).toInt = 4) from rfl, show ((5 : Int32).toInt = 5) from rfl, show ((6 : Int32).toInt = 6) from rfl, show ((7 : Int32).toInt = 7) from rfl, show ((8 : Int32).toInt = 8) from rfl]; omega
    rcases ha2 with hq | hq | hq | hq | hq | hq | hq | hq | hq
    · refine lv_tableIn (tgt := 52) (off := 51) hx hb dX8_counted_1 (by rw [hq]; decide) (by rw [hq]; decide) (by rw [hq]; decide) (by decide) ?_
      refine lv_aload_n hx hb dX8_counted_52 rfl (lv_at hl 0 rfl) ?_
      refine r_get kc8 X h 0 0 (by decide) rfl pf0 (by decide) kw_5 rfl dX8_counted_53 ?_
      refine r_get kc2 X h 1 3 (by decide) rfl pf1 (by decide) kw_41 rfl dX8_counted_56 ?_
      exact e_i X h hr hlk dX8_counted_59 ⟨rfl, rfl⟩
    · refine lv_tableIn (tgt := 60) (off := 59) hx hb dX8_counted_1 (by rw [hq]; decide) (by rw [hq]; decide) (by rw [hq]; decide) (by decide) ?_
      refine lv_aload_n hx hb dX8_counted_60 rfl (lv_at hl 0 rfl) ?_
      refine r_get kc8 X h 0 0 (by decide) rfl pf0 (by decide) kw_5 rfl dX8_counted_61 ?_
      refine r_get kc2 X h 1 4 (by decide) rfl pf1 (by decide) kw_58 rfl dX8_counted_64 ?_
      exact e_i X h hr hlk dX8_counted_67 ⟨rfl, rfl⟩
    · refine lv_tableIn (tgt := 68) (off := 67) hx hb dX8_counted_1 (by rw [hq]; decide) (by rw [hq]; decide) (by rw [hq]; decide) (by decide) ?_
      refine lv_aload_n hx hb dX8_counted_68 rfl (lv_at hl 0 rfl) ?_
      refine r_get kc8 X h 0 0 (by decide) rfl pf0 (by decide) kw_5 rfl dX8_counted_69 ?_
      refine q_Vi (na := 0) (As := []) (rest := []) X hD hN h rfl (c_coolInAll l G cI cB cZ cO ad w pf1) ⟨kw_109, kw_110, kw_111, kw_9, kw_112⟩ rfl ⟨by decide, by decide, by decide⟩ ⟨Nat.le_of_ble_eq_true rfl, Nat.le_of_ble_eq_true rfl⟩ ⟨Nat.zero_le _, Nat.zero_le _⟩ (by decide) pf1 rfl rfl hl.1 rfl (Nat.le_of_ble_eq_true rfl) dX8_counted_72 (fun r3 w4 H locs hp5 h => ?_)
      obtain ⟨e6, rfl⟩ := hp5
      exact e_i X h hr hlk dX8_counted_75 ⟨funext fun k => congrFun e6 k, rfl⟩
    · refine lv_tableIn (tgt := 76) (off := 75) hx hb dX8_counted_1 (by rw [hq]; decide) (by rw [hq]; decide) (by rw [hq]; decide) (by decide) ?_
      refine lv_aload_n hx hb dX8_counted_76 rfl (lv_at hl 0 rfl) ?_
      refine r_get kc8 X h 0 0 (by decide) rfl pf0 (by decide) kw_5 rfl dX8_counted_77 ?_
      refine r_get kc2 X h 1 0 (by decide) rfl pf1 (by decide) kw_113 rfl dX8_counted_80 ?_
      exact e_i X h hr hlk dX8_counted_83 ⟨rfl, rfl⟩
    · refine lv_tableIn (tgt := 84) (off := 83) hx hb dX8_counted_1 (by rw [hq]; decide) (by rw [hq]; decide) (by rw [hq]; decide) (by decide) ?_
      refine lv_aload_n hx hb dX8_counted_84 rfl (lv_at hl 0 rfl) ?_
      refine r_get kc8 X h 0 0 (by decide) rfl pf0 (by decide) kw_5 rfl dX8_counted_85 ?_
      refine r_get kc2 X h 1 2 (by decide) rfl pf1 (by decide) kw_114 rfl dX8_counted_88 ?_
      refine q_Si (na := 1) (As := [.int 0]) (rest := []) X hD hN h (c_bitCount l G cI cB cZ cO ad w) ⟨kw_115, kw_116, kw_117, kw_118⟩ ⟨by decide, by decide, by decide⟩ ⟨Nat.le_of_ble_eq_true rfl, Nat.le_of_ble_eq_true rfl⟩ ⟨Nat.zero_le _, Nat.zero_le _⟩ rfl hl.1 rfl (Nat.le_of_ble_eq_true rfl) dX8_counted_91 (fun r7 w8 H locs hp9 h => ?_)
      obtain ⟨e10, rfl⟩ := hp9
      exact e_i X h hr hlk dX8_counted_94 ⟨funext fun k => congrFun e10 k, rfl⟩
    · refine lv_tableIn (tgt := 95) (off := 94) hx hb dX8_counted_1 (by rw [hq]; decide) (by rw [hq]; decide) (by rw [hq]; decide) (by decide) ?_
      refine lv_aload_n hx hb dX8_counted_95 rfl (lv_at hl 0 rfl) ?_
      refine r_get kc8 X h 0 0 (by decide) rfl pf0 (by decide) kw_5 rfl dX8_counted_96 ?_
      refine r_get kc2 X h 1 1 (by decide) rfl pf1 (by decide) kw_119 rfl dX8_counted_99 ?_
      exact e_i X h hr hlk dX8_counted_102 ⟨rfl, rfl⟩
    · refine lv_tableIn (tgt := 103) (off := 102) hx hb dX8_counted_1 (by rw [hq]; decide) (by rw [hq]; decide) (by rw [hq]; decide) (by decide) ?_
      refine lv_aload_n hx hb dX8_counted_103 rfl (lv_at hl 0 rfl) ?_
      refine r_get kc8 X h 0 0 (by decide) rfl pf0 (by decide) kw_5 rfl dX8_counted_104 ?_
      refine r_get kc2 X h 1 11 (by decide) rfl pf1 (by decide) kw_100 rfl dX8_counted_107 ?_
      refine r_get kc6 X h 8 1 (by decide) rfl pf8 (by decide) kw_120 rfl dX8_counted_110 ?_
      exact e_i X h hr hlk dX8_counted_113 ⟨rfl, rfl⟩
    · refine lv_tableIn (tgt := 114) (off := 113) hx hb dX8_counted_1 (by rw [hq]; decide) (by rw [hq]; decide) (by rw [hq]; decide) (by decide) ?_
      refine lv_aload_n hx hb dX8_counted_114 rfl (lv_at hl 0 rfl) ?_
      refine r_get kc8 X h 0 0 (by decide) rfl pf0 (by decide) kw_5 rfl dX8_counted_115 ?_
      refine r_get kc2 X h 1 12 (by decide) rfl pf1 (by decide) kw_102 rfl dX8_counted_118 ?_
      refine r_get kc6 X h 10 1 (by decide) rfl pf10 (by decide) kw_120 rfl dX8_counted_121 ?_
      exact e_i X h hr hlk dX8_counted_124 ⟨rfl, rfl⟩
    · refine lv_tableIn (tgt := 125) (off := 124) hx hb dX8_counted_1 (by rw [hq]; decide) (by rw [hq]; decide) (by rw [hq]; decide) (by decide) ?_
      refine lv_aload_n hx hb dX8_counted_125 rfl (lv_at hl 0 rfl) ?_
      refine r_get kc8 X h 0 0 (by decide) rfl pf0 (by decide) kw_5 rfl dX8_counted_126 ?_
      refine r_get kc2 X h 1 13 (by decide) rfl pf1 (by decide) kw_52 rfl dX8_counted_129 ?_
      refine r_get kc4 X h 12 1 (by decide) rfl pf12 (by decide) kw_121 rfl dX8_counted_132 ?_
      exact e_i X h hr hlk dX8_counted_135 ⟨rfl, rfl⟩
  · refine lv_tableOut (tgt := 136) hx hb dX8_counted_1 (by omega) (by decide) ?_
    refine lv_aload_n hx hb dX8_counted_136 rfl (lv_at hl 0 rfl) ?_
    refine r_get kc8 X h 0 4 (by decide) rfl pf0 (by decide) kw_70 rfl dX8_counted_137 ?_
    refine r_get kc7 X h 55 2 (by decide) rfl pf55 (by decide) kw_122 rfl dX8_counted_140 ?_
    exact e_i X h hr hlk dX8_counted_143 ⟨rfl, rfl⟩

set_option maxHeartbeats 4000000 in
set_option maxRecDepth 100000 in
theorem c_X_count (l : Launch) (G : va_G) (cI cB cZ cO : ClassId) (ad : Nat → Nat) (w : Nat → va_E) (F : ∀ k, k < 74 → w k = fr0 cI cB cZ cO ad k) (u : Int32) : MI l G (tyq cI cB cZ cO) yX8_count cX8_count 2 (some .int) 2 43 74 ad w [.ref (ad 0), .int u] (fun r w1 => (0 ≤ u.toInt ∧ u.toInt ≤ 9 → r = 0) ∧ (¬ (0 ≤ u.toInt ∧ u.toInt ≤ 9) → r = -2) ∧ ∀ k, 64 ≤ k → w1 k = w k) := by
  refine mk_i (own := "NoonShade") rfl (by decide) (Nat.le_of_ble_eq_true rfl) ?_
  intro p e s m below meth c ls X hD hN hr hlk h hl
  have hx := X.1.1
  have hb := X.1.2.1
  have hown := X.1.2.2.2.1
  have hts := X.1.2.2.2.2
  have hl : lv_has ls 2 [(0, .ref (ad 0)), (1, .int u)] := hl
  refine lv_iload_n hx hb dX8_count_0 rfl (lv_at hl 1 rfl) ?_
  refine lv_iconst (v := 0) hx hb dX8_count_1 (by decide) ?_
  refine lv_bipush (v := 9) hx hb dX8_count_2 (by decide) ?_
  refine q_Si (na := 3) (As := [.int u, .int 0, .int 9]) (rest := []) X hD hN h (c_within l G cI cB cZ cO ad w u 0 9 ((u).toInt) 0 9 rfl rfl rfl) ⟨kw_38, kw_39, kw_14, kw_40⟩ ⟨by decide, by decide, by decide⟩ ⟨Nat.le_of_ble_eq_true rfl, Nat.le_of_ble_eq_true rfl⟩ ⟨Nat.zero_le _, Nat.zero_le _⟩ rfl hl.1 rfl (Nat.le_of_ble_eq_true rfl) dX8_count_4 (fun r1 w2 H locs hp3 h => ?_)
  obtain ⟨e4, hp3⟩ := hp3
  rcases hp3 with ⟨hq5a, hq5b, rfl⟩ | ⟨hq5, rfl⟩
  · refine lv_if_ne (tgt := 17) hx hb dX8_count_7 (by decide) (fun _ => ?_) (fun hc => absurd hc (by decide))
    refine lv_aload_n hx hb dX8_count_17 rfl (lv_at hl 0 rfl) ?_
    refine lv_iload_n hx hb dX8_count_18 rfl (lv_at hl 1 rfl) ?_
    have f6 : w 0 = .inr (6, [.ref (ad 1), .ref (ad 14), .ref (ad 27), .ref (ad 54), .ref (ad 55), .ref (ad 58), .ref (ad 62), .long 0, .long 1, .int 0, .int 0, .int 0]) := F 0 (by decide)
    have f7 : w2 0 = .inr (6, [.ref (ad 1), .ref (ad 14), .ref (ad 27), .ref (ad 54), .ref (ad 55), .ref (ad 58), .ref (ad 62), .long 0, .long 1, .int 0, .int 0, .int 0]) := by rw [e4]; exact f6
    have f8 : w 1 = .inr (1, [.int 0, .int 0, .int 0, .int 0, .int 0, .ref (ad 2), .ref (ad 3), .ref (ad 4), .ref (ad 5), .ref (ad 6), .ref (ad 7), .ref (ad 8), .ref (ad 10), .ref (ad 12)]) := F 1 (by decide)
    have f9 : w2 1 = .inr (1, [.int 0, .int 0, .int 0, .int 0, .int 0, .ref (ad 2), .ref (ad 3), .ref (ad 4), .ref (ad 5), .ref (ad 6), .ref (ad 7), .ref (ad 8), .ref (ad 10), .ref (ad 12)]) := by rw [e4]; exact f8
    have f10 : w 8 = .inr (4, [.ref (ad 9), .int 0]) := F 8 (by decide)
    have f11 : w2 8 = .inr (4, [.ref (ad 9), .int 0]) := by rw [e4]; exact f10
    have f12 : w 10 = .inr (4, [.ref (ad 11), .int 0]) := F 10 (by decide)
    have f13 : w2 10 = .inr (4, [.ref (ad 11), .int 0]) := by rw [e4]; exact f12
    have f14 : w 12 = .inr (2, [.ref (ad 13), .int 0]) := F 12 (by decide)
    have f15 : w2 12 = .inr (2, [.ref (ad 13), .int 0]) := by rw [e4]; exact f14
    have f16 : w 55 = .inr (5, [.ref (ad 56), .ref (ad 57), .int 0, .int 0, .int 0, .int 0, .int 0]) := F 55 (by decide)
    have f17 : w2 55 = .inr (5, [.ref (ad 56), .ref (ad 57), .int 0, .int 0, .int 0, .int 0, .int 0]) := by rw [e4]; exact f16
    refine q_Vi (na := 1) (As := [.int u]) (rest := []) X hD hN h rfl (c_X_counted l G cI cB cZ cO ad w2 u f7 f9 f11 f13 f15 f17) ⟨kw_123, kw_124, kw_125, kw_14, kw_126⟩ rfl ⟨by decide, by decide, by decide⟩ ⟨Nat.le_of_ble_eq_true rfl, Nat.le_of_ble_eq_true rfl⟩ ⟨Nat.zero_le _, Nat.zero_le _⟩ (by decide) f7 rfl rfl hl.1 rfl (Nat.le_of_ble_eq_true rfl) dX8_count_19 (fun r18 w19 H locs hp20 h => ?_)
    obtain ⟨e21, rfl⟩ := hp20
    exact e_i X h hr hlk dX8_count_22 ⟨fun _ => by first | rfl | omega, fun _ => by first | rfl | omega, fun k hk => (congrFun e21 k).trans (congrFun e4 k)⟩
  · refine lv_if_ne (tgt := 17) hx hb dX8_count_7 (by decide) (fun hc => absurd (by decide) hc) (fun _ => ?_)
    refine lv_aload_n hx hb dX8_count_10 rfl (lv_at hl 0 rfl) ?_
    refine lv_bipush (v := (-2)) hx hb dX8_count_11 (by decide) ?_
    have f22 : w 0 = .inr (6, [.ref (ad 1), .ref (ad 14), .ref (ad 27), .ref (ad 54), .ref (ad 55), .ref (ad 58), .ref (ad 62), .long 0, .long 1, .int 0, .int 0, .int 0]) := F 0 (by decide)
    have f23 : w2 0 = .inr (6, [.ref (ad 1), .ref (ad 14), .ref (ad 27), .ref (ad 54), .ref (ad 55), .ref (ad 58), .ref (ad 62), .long 0, .long 1, .int 0, .int 0, .int 0]) := by rw [e4]; exact f22
    refine q_Vi (na := 1) (As := [.int (-2)]) (rest := []) X hD hN h rfl (c_refused l G cI cB cZ cO ad w2 _ _ _ _ _ _ _ _ _ _ _ _ (-2) f23) ⟨kw_11, kw_12, kw_13, kw_14, kw_15⟩ rfl ⟨by decide, by decide, by decide⟩ ⟨Nat.le_of_ble_eq_true rfl, Nat.le_of_ble_eq_true rfl⟩ ⟨Nat.zero_le _, Nat.zero_le _⟩ (by decide) f23 rfl rfl hl.1 rfl (Nat.le_of_ble_eq_true rfl) dX8_count_13 (fun r24 w25 H locs hp26 h => ?_)
    obtain ⟨rfl, x27, y28, z29, e30⟩ := hp26
    have f31 : w25 0 = .inr (6, [.ref (ad 1), .ref (ad 14), .ref (ad 27), .ref (ad 54), .ref (ad 55), .ref (ad 58), .ref (ad 62), .long 0, .long 1, .int x27, .int y28, .int z29]) := (congrFun e30 _).trans (va_up_self _ _ _)
    exact e_i X h hr hlk dX8_count_16 ⟨fun _ => by first | rfl | omega, fun _ => by first | rfl | omega, fun k hk => ((congrFun e30 k).trans (va_up_ne _ _ (by omega))).trans (congrFun e4 k)⟩

set_option maxHeartbeats 4000000 in
set_option maxRecDepth 100000 in
theorem c_X_digest (l : Launch) (G : va_G) (cI cB cZ cO : ClassId) (ad : Nat → Nat) (w : Nat → va_E) (F : ∀ k, k < 74 → w k = fr0 cI cB cZ cO ad k)  : ML l G (tyq cI cB cZ cO) yX8_digest cX8_digest 4 (some .long) 2 50 74 ad w [.ref (ad 0)] (fun r w1 => r = 4278844841920871640 ∧ ∀ k, 64 ≤ k → w1 k = w k) := by
  refine mk_l (own := "NoonShade") rfl (by decide) (Nat.le_of_ble_eq_true rfl) ?_
  intro p e s m below meth c ls X hD hN hr hlk h hl
  have hx := X.1.1
  have hb := X.1.2.1
  have hown := X.1.2.2.2.1
  have hts := X.1.2.2.2.2
  have hl : lv_has ls 4 [(0, .ref (ad 0))] := hl
  refine lv_ldc2 (v := 1879) hx hb hown (hts _ kw_131) dX8_digest_0 ?_
  refine lv_lstore_n (lv' := [(1, .long 1879), (0, .ref (ad 0))]) hx hb dX8_digest_3 rfl hl (by decide) rfl (fun ls hl => ?_)
  refine lv_iconst (v := 0) hx hb dX8_digest_4 (by decide) ?_
  refine lv_istore_n (lv' := [(3, .int 0), (1, .long 1879), (0, .ref (ad 0))]) hx hb dX8_digest_5 rfl hl (by decide) rfl (fun ls hl => ?_)
  refine lv_iload_n hx hb dX8_digest_6 rfl (lv_at hl 0 rfl) ?_
  refine lv_bipush (v := 9) hx hb dX8_digest_7 (by decide) ?_
  refine lv_icmp_gt (tgt := 31) hx hb dX8_digest_9 (by decide) (fun hc => absurd hc (by decide)) (fun _ => ?_)
  refine lv_ldc2 (v := 31) hx hb hown (hts _ kw_132) dX8_digest_12 ?_
  refine lv_lload_n hx hb dX8_digest_15 rfl (lv_at hl 1 rfl) ?_
  refine o_lmul (z := 58249) hx hb dX8_digest_16 rfl ?_
  refine lv_aload_n hx hb dX8_digest_17 rfl (lv_at hl 2 rfl) ?_
  refine lv_iload_n hx hb dX8_digest_18 rfl (lv_at hl 0 rfl) ?_
  have f1 : w 0 = .inr (6, [.ref (ad 1), .ref (ad 14), .ref (ad 27), .ref (ad 54), .ref (ad 55), .ref (ad 58), .ref (ad 62), .long 0, .long 1, .int 0, .int 0, .int 0]) := F 0 (by decide)
  have f2 : w 1 = .inr (1, [.int 0, .int 0, .int 0, .int 0, .int 0, .ref (ad 2), .ref (ad 3), .ref (ad 4), .ref (ad 5), .ref (ad 6), .ref (ad 7), .ref (ad 8), .ref (ad 10), .ref (ad 12)]) := F 1 (by decide)
  have f3 : w 8 = .inr (4, [.ref (ad 9), .int 0]) := F 8 (by decide)
  have f4 : w 10 = .inr (4, [.ref (ad 11), .int 0]) := F 10 (by decide)
  have f5 : w 12 = .inr (2, [.ref (ad 13), .int 0]) := F 12 (by decide)
  have f6 : w 55 = .inr (5, [.ref (ad 56), .ref (ad 57), .int 0, .int 0, .int 0, .int 0, .int 0]) := F 55 (by decide)
  refine q_Vi (na := 1) (As := [.int 0]) (rest := [.long 58249]) X hD hN h rfl (c_X_counted l G cI cB cZ cO ad w 0 f1 f2 f3 f4 f5 f6) ⟨kw_123, kw_124, kw_125, kw_14, kw_126⟩ rfl ⟨by decide, by decide, by decide⟩ ⟨Nat.le_of_ble_eq_true rfl, Nat.le_of_ble_eq_true rfl⟩ ⟨Nat.zero_le _, Nat.zero_le _⟩ (by decide) f1 rfl rfl hl.1 rfl (Nat.le_of_ble_eq_true rfl) dX8_digest_19 (fun r7 w8 H locs hp9 h => ?_)
  obtain ⟨e10, rfl⟩ := hp9
  refine lv_i2l (v := 0) hx hb dX8_digest_22 rfl ?_
  refine o_ladd (z := 58249) hx hb dX8_digest_23 rfl ?_
  refine lv_lstore_n (lv' := [(1, .long 58249), (3, .int 0), (0, .ref (ad 0))]) hx hb dX8_digest_24 rfl hl (by decide) rfl (fun ls hl => ?_)
  refine lv_iinc (v := 1) (lv' := [(3, .int 1), (1, .long 58249), (0, .ref (ad 0))]) hx hb dX8_digest_25 hl (k := 1) rfl rfl (by decide) rfl (fun ls hl => ?_)
  refine lv_goto (tgt := 6) hx hb dX8_digest_28 (by decide) ?_
  refine lv_iload_n hx hb dX8_digest_6 rfl (lv_at hl 0 rfl) ?_
  refine lv_bipush (v := 9) hx hb dX8_digest_7 (by decide) ?_
  refine lv_icmp_gt (tgt := 31) hx hb dX8_digest_9 (by decide) (fun hc => absurd hc (by decide)) (fun _ => ?_)
  refine lv_ldc2 (v := 31) hx hb hown (hts _ kw_132) dX8_digest_12 ?_
  refine lv_lload_n hx hb dX8_digest_15 rfl (lv_at hl 1 rfl) ?_
  refine o_lmul (z := 1805719) hx hb dX8_digest_16 rfl ?_
  refine lv_aload_n hx hb dX8_digest_17 rfl (lv_at hl 2 rfl) ?_
  refine lv_iload_n hx hb dX8_digest_18 rfl (lv_at hl 0 rfl) ?_
  have f11 : w8 0 = .inr (6, [.ref (ad 1), .ref (ad 14), .ref (ad 27), .ref (ad 54), .ref (ad 55), .ref (ad 58), .ref (ad 62), .long 0, .long 1, .int 0, .int 0, .int 0]) := by rw [e10]; exact f1
  have f12 : w8 1 = .inr (1, [.int 0, .int 0, .int 0, .int 0, .int 0, .ref (ad 2), .ref (ad 3), .ref (ad 4), .ref (ad 5), .ref (ad 6), .ref (ad 7), .ref (ad 8), .ref (ad 10), .ref (ad 12)]) := by rw [e10]; exact f2
  have f13 : w8 8 = .inr (4, [.ref (ad 9), .int 0]) := by rw [e10]; exact f3
  have f14 : w8 10 = .inr (4, [.ref (ad 11), .int 0]) := by rw [e10]; exact f4
  have f15 : w8 12 = .inr (2, [.ref (ad 13), .int 0]) := by rw [e10]; exact f5
  have f16 : w8 55 = .inr (5, [.ref (ad 56), .ref (ad 57), .int 0, .int 0, .int 0, .int 0, .int 0]) := by rw [e10]; exact f6
  refine q_Vi (na := 1) (As := [.int 1]) (rest := [.long 1805719]) X hD hN h rfl (c_X_counted l G cI cB cZ cO ad w8 1 f11 f12 f13 f14 f15 f16) ⟨kw_123, kw_124, kw_125, kw_14, kw_126⟩ rfl ⟨by decide, by decide, by decide⟩ ⟨Nat.le_of_ble_eq_true rfl, Nat.le_of_ble_eq_true rfl⟩ ⟨Nat.zero_le _, Nat.zero_le _⟩ (by decide) f11 rfl rfl hl.1 rfl (Nat.le_of_ble_eq_true rfl) dX8_digest_19 (fun r17 w18 H locs hp19 h => ?_)
  obtain ⟨e20, rfl⟩ := hp19
  refine lv_i2l (v := 0) hx hb dX8_digest_22 rfl ?_
  refine o_ladd (z := 1805719) hx hb dX8_digest_23 rfl ?_
  refine lv_lstore_n (lv' := [(1, .long 1805719), (3, .int 1), (0, .ref (ad 0))]) hx hb dX8_digest_24 rfl hl (by decide) rfl (fun ls hl => ?_)
  refine lv_iinc (v := 2) (lv' := [(3, .int 2), (1, .long 1805719), (0, .ref (ad 0))]) hx hb dX8_digest_25 hl (k := 1) rfl rfl (by decide) rfl (fun ls hl => ?_)
  refine lv_goto (tgt := 6) hx hb dX8_digest_28 (by decide) ?_
  refine lv_iload_n hx hb dX8_digest_6 rfl (lv_at hl 0 rfl) ?_
  refine lv_bipush (v := 9) hx hb dX8_digest_7 (by decide) ?_
  refine lv_icmp_gt (tgt := 31) hx hb dX8_digest_9 (by decide) (fun hc => absurd hc (by decide)) (fun _ => ?_)
  refine lv_ldc2 (v := 31) hx hb hown (hts _ kw_132) dX8_digest_12 ?_
  refine lv_lload_n hx hb dX8_digest_15 rfl (lv_at hl 1 rfl) ?_
  refine o_lmul (z := 55977289) hx hb dX8_digest_16 rfl ?_
  refine lv_aload_n hx hb dX8_digest_17 rfl (lv_at hl 2 rfl) ?_
  refine lv_iload_n hx hb dX8_digest_18 rfl (lv_at hl 0 rfl) ?_
  have f21 : w18 0 = .inr (6, [.ref (ad 1), .ref (ad 14), .ref (ad 27), .ref (ad 54), .ref (ad 55), .ref (ad 58), .ref (ad 62), .long 0, .long 1, .int 0, .int 0, .int 0]) := by rw [e20]; exact f11
  have f22 : w18 1 = .inr (1, [.int 0, .int 0, .int 0, .int 0, .int 0, .ref (ad 2), .ref (ad 3), .ref (ad 4), .ref (ad 5), .ref (ad 6), .ref (ad 7), .ref (ad 8), .ref (ad 10), .ref (ad 12)]) := by rw [e20]; exact f12
  have f23 : w18 8 = .inr (4, [.ref (ad 9), .int 0]) := by rw [e20]; exact f13
  have f24 : w18 10 = .inr (4, [.ref (ad 11), .int 0]) := by rw [e20]; exact f14
  have f25 : w18 12 = .inr (2, [.ref (ad 13), .int 0]) := by rw [e20]; exact f15
  have f26 : w18 55 = .inr (5, [.ref (ad 56), .ref (ad 57), .int 0, .int 0, .int 0, .int 0, .int 0]) := by rw [e20]; exact f16
  refine q_Vi (na := 1) (As := [.int 2]) (rest := [.long 55977289]) X hD hN h rfl (c_X_counted l G cI cB cZ cO ad w18 2 f21 f22 f23 f24 f25 f26) ⟨kw_123, kw_124, kw_125, kw_14, kw_126⟩ rfl ⟨by decide, by decide, by decide⟩ ⟨Nat.le_of_ble_eq_true rfl, Nat.le_of_ble_eq_true rfl⟩ ⟨Nat.zero_le _, Nat.zero_le _⟩ (by decide) f21 rfl rfl hl.1 rfl (Nat.le_of_ble_eq_true rfl) dX8_digest_19 (fun r27 w28 H locs hp29 h => ?_)
  obtain ⟨e30, rfl⟩ := hp29
  refine lv_i2l (v := 0) hx hb dX8_digest_22 rfl ?_
  refine o_ladd (z := 55977289) hx hb dX8_digest_23 rfl ?_
  refine lv_lstore_n (lv' := [(1, .long 55977289), (3, .int 2), (0, .ref (ad 0))]) hx hb dX8_digest_24 rfl hl (by decide) rfl (fun ls hl => ?_)
  refine lv_iinc (v := 3) (lv' := [(3, .int 3), (1, .long 55977289), (0, .ref (ad 0))]) hx hb dX8_digest_25 hl (k := 1) rfl rfl (by decide) rfl (fun ls hl => ?_)
  refine lv_goto (tgt := 6) hx hb dX8_digest_28 (by decide) ?_
  refine lv_iload_n hx hb dX8_digest_6 rfl (lv_at hl 0 rfl) ?_
  refine lv_bipush (v := 9) hx hb dX8_digest_7 (by decide) ?_
  refine lv_icmp_gt (tgt := 31) hx hb dX8_digest_9 (by decide) (fun hc => absurd hc (by decide)) (fun _ => ?_)
  refine lv_ldc2 (v := 31) hx hb hown (hts _ kw_132) dX8_digest_12 ?_
  refine lv_lload_n hx hb dX8_digest_15 rfl (lv_at hl 1 rfl) ?_
  refine o_lmul (z := 1735295959) hx hb dX8_digest_16 rfl ?_
  refine lv_aload_n hx hb dX8_digest_17 rfl (lv_at hl 2 rfl) ?_
  refine lv_iload_n hx hb dX8_digest_18 rfl (lv_at hl 0 rfl) ?_
  have f31 : w28 0 = .inr (6, [.ref (ad 1), .ref (ad 14), .ref (ad 27), .ref (ad 54), .ref (ad 55), .ref (ad 58), .ref (ad 62), .long 0, .long 1, .int 0, .int 0, .int 0]) := by rw [e30]; exact f21
  have f32 : w28 1 = .inr (1, [.int 0, .int 0, .int 0, .int 0, .int 0, .ref (ad 2), .ref (ad 3), .ref (ad 4), .ref (ad 5), .ref (ad 6), .ref (ad 7), .ref (ad 8), .ref (ad 10), .ref (ad 12)]) := by rw [e30]; exact f22
  have f33 : w28 8 = .inr (4, [.ref (ad 9), .int 0]) := by rw [e30]; exact f23
  have f34 : w28 10 = .inr (4, [.ref (ad 11), .int 0]) := by rw [e30]; exact f24
  have f35 : w28 12 = .inr (2, [.ref (ad 13), .int 0]) := by rw [e30]; exact f25
  have f36 : w28 55 = .inr (5, [.ref (ad 56), .ref (ad 57), .int 0, .int 0, .int 0, .int 0, .int 0]) := by rw [e30]; exact f26
  refine q_Vi (na := 1) (As := [.int 3]) (rest := [.long 1735295959]) X hD hN h rfl (c_X_counted l G cI cB cZ cO ad w28 3 f31 f32 f33 f34 f35 f36) ⟨kw_123, kw_124, kw_125, kw_14, kw_126⟩ rfl ⟨by decide, by decide, by decide⟩ ⟨Nat.le_of_ble_eq_true rfl, Nat.le_of_ble_eq_true rfl⟩ ⟨Nat.zero_le _, Nat.zero_le _⟩ (by decide) f31 rfl rfl hl.1 rfl (Nat.le_of_ble_eq_true rfl) dX8_digest_19 (fun r37 w38 H locs hp39 h => ?_)
  obtain ⟨e40, rfl⟩ := hp39
  refine lv_i2l (v := 0) hx hb dX8_digest_22 rfl ?_
  refine o_ladd (z := 1735295959) hx hb dX8_digest_23 rfl ?_
  refine lv_lstore_n (lv' := [(1, .long 1735295959), (3, .int 3), (0, .ref (ad 0))]) hx hb dX8_digest_24 rfl hl (by decide) rfl (fun ls hl => ?_)
  refine lv_iinc (v := 4) (lv' := [(3, .int 4), (1, .long 1735295959), (0, .ref (ad 0))]) hx hb dX8_digest_25 hl (k := 1) rfl rfl (by decide) rfl (fun ls hl => ?_)
  refine lv_goto (tgt := 6) hx hb dX8_digest_28 (by decide) ?_
  refine lv_iload_n hx hb dX8_digest_6 rfl (lv_at hl 0 rfl) ?_
  refine lv_bipush (v := 9) hx hb dX8_digest_7 (by decide) ?_
  refine lv_icmp_gt (tgt := 31) hx hb dX8_digest_9 (by decide) (fun hc => absurd hc (by decide)) (fun _ => ?_)
  refine lv_ldc2 (v := 31) hx hb hown (hts _ kw_132) dX8_digest_12 ?_
  refine lv_lload_n hx hb dX8_digest_15 rfl (lv_at hl 1 rfl) ?_
  refine o_lmul (z := 53794174729) hx hb dX8_digest_16 rfl ?_
  refine lv_aload_n hx hb dX8_digest_17 rfl (lv_at hl 2 rfl) ?_
  refine lv_iload_n hx hb dX8_digest_18 rfl (lv_at hl 0 rfl) ?_
  have f41 : w38 0 = .inr (6, [.ref (ad 1), .ref (ad 14), .ref (ad 27), .ref (ad 54), .ref (ad 55), .ref (ad 58), .ref (ad 62), .long 0, .long 1, .int 0, .int 0, .int 0]) := by rw [e40]; exact f31
  have f42 : w38 1 = .inr (1, [.int 0, .int 0, .int 0, .int 0, .int 0, .ref (ad 2), .ref (ad 3), .ref (ad 4), .ref (ad 5), .ref (ad 6), .ref (ad 7), .ref (ad 8), .ref (ad 10), .ref (ad 12)]) := by rw [e40]; exact f32
  have f43 : w38 8 = .inr (4, [.ref (ad 9), .int 0]) := by rw [e40]; exact f33
  have f44 : w38 10 = .inr (4, [.ref (ad 11), .int 0]) := by rw [e40]; exact f34
  have f45 : w38 12 = .inr (2, [.ref (ad 13), .int 0]) := by rw [e40]; exact f35
  have f46 : w38 55 = .inr (5, [.ref (ad 56), .ref (ad 57), .int 0, .int 0, .int 0, .int 0, .int 0]) := by rw [e40]; exact f36
  refine q_Vi (na := 1) (As := [.int 4]) (rest := [.long 53794174729]) X hD hN h rfl (c_X_counted l G cI cB cZ cO ad w38 4 f41 f42 f43 f44 f45 f46) ⟨kw_123, kw_124, kw_125, kw_14, kw_126⟩ rfl ⟨by decide, by decide, by decide⟩ ⟨Nat.le_of_ble_eq_true rfl, Nat.le_of_ble_eq_true rfl⟩ ⟨Nat.zero_le _, Nat.zero_le _⟩ (by decide) f41 rfl rfl hl.1 rfl (Nat.le_of_ble_eq_true rfl) dX8_digest_19 (fun r47 w48 H locs hp49 h => ?_)
  obtain ⟨e50, rfl⟩ := hp49
  refine lv_i2l (v := 0) hx hb dX8_digest_22 rfl ?_
  refine o_ladd (z := 53794174729) hx hb dX8_digest_23 rfl ?_
  refine lv_lstore_n (lv' := [(1, .long 53794174729), (3, .int 4), (0, .ref (ad 0))]) hx hb dX8_digest_24 rfl hl (by decide) rfl (fun ls hl => ?_)
  refine lv_iinc (v := 5) (lv' := [(3, .int 5), (1, .long 53794174729), (0, .ref (ad 0))]) hx hb dX8_digest_25 hl (k := 1) rfl rfl (by decide) rfl (fun ls hl => ?_)
  refine lv_goto (tgt := 6) hx hb dX8_digest_28 (by decide) ?_
  refine lv_iload_n hx hb dX8_digest_6 rfl (lv_at hl 0 rfl) ?_
  refine lv_bipush (v := 9) hx hb dX8_digest_7 (by decide) ?_
  refine lv_icmp_gt (tgt := 31) hx hb dX8_digest_9 (by decide) (fun hc => absurd hc (by decide)) (fun _ => ?_)
  refine lv_ldc2 (v := 31) hx hb hown (hts _ kw_132) dX8_digest_12 ?_
  refine lv_lload_n hx hb dX8_digest_15 rfl (lv_at hl 1 rfl) ?_
  refine o_lmul (z := 1667619416599) hx hb dX8_digest_16 rfl ?_
  refine lv_aload_n hx hb dX8_digest_17 rfl (lv_at hl 2 rfl) ?_
  refine lv_iload_n hx hb dX8_digest_18 rfl (lv_at hl 0 rfl) ?_
  have f51 : w48 0 = .inr (6, [.ref (ad 1), .ref (ad 14), .ref (ad 27), .ref (ad 54), .ref (ad 55), .ref (ad 58), .ref (ad 62), .long 0, .long 1, .int 0, .int 0, .int 0]) := by rw [e50]; exact f41
  have f52 : w48 1 = .inr (1, [.int 0, .int 0, .int 0, .int 0, .int 0, .ref (ad 2), .ref (ad 3), .ref (ad 4), .ref (ad 5), .ref (ad 6), .ref (ad 7), .ref (ad 8), .ref (ad 10), .ref (ad 12)]) := by rw [e50]; exact f42
  have f53 : w48 8 = .inr (4, [.ref (ad 9), .int 0]) := by rw [e50]; exact f43
  have f54 : w48 10 = .inr (4, [.ref (ad 11), .int 0]) := by rw [e50]; exact f44
  have f55 : w48 12 = .inr (2, [.ref (ad 13), .int 0]) := by rw [e50]; exact f45
  have f56 : w48 55 = .inr (5, [.ref (ad 56), .ref (ad 57), .int 0, .int 0, .int 0, .int 0, .int 0]) := by rw [e50]; exact f46
  refine q_Vi (na := 1) (As := [.int 5]) (rest := [.long 1667619416599]) X hD hN h rfl (c_X_counted l G cI cB cZ cO ad w48 5 f51 f52 f53 f54 f55 f56) ⟨kw_123, kw_124, kw_125, kw_14, kw_126⟩ rfl ⟨by decide, by decide, by decide⟩ ⟨Nat.le_of_ble_eq_true rfl, Nat.le_of_ble_eq_true rfl⟩ ⟨Nat.zero_le _, Nat.zero_le _⟩ (by decide) f51 rfl rfl hl.1 rfl (Nat.le_of_ble_eq_true rfl) dX8_digest_19 (fun r57 w58 H locs hp59 h => ?_)
  obtain ⟨e60, rfl⟩ := hp59
  refine lv_i2l (v := 0) hx hb dX8_digest_22 rfl ?_
  refine o_ladd (z := 1667619416599) hx hb dX8_digest_23 rfl ?_
  refine lv_lstore_n (lv' := [(1, .long 1667619416599), (3, .int 5), (0, .ref (ad 0))]) hx hb dX8_digest_24 rfl hl (by decide) rfl (fun ls hl => ?_)
  refine lv_iinc (v := 6) (lv' := [(3, .int 6), (1, .long 1667619416599), (0, .ref (ad 0))]) hx hb dX8_digest_25 hl (k := 1) rfl rfl (by decide) rfl (fun ls hl => ?_)
  refine lv_goto (tgt := 6) hx hb dX8_digest_28 (by decide) ?_
  refine lv_iload_n hx hb dX8_digest_6 rfl (lv_at hl 0 rfl) ?_
  refine lv_bipush (v := 9) hx hb dX8_digest_7 (by decide) ?_
  refine lv_icmp_gt (tgt := 31) hx hb dX8_digest_9 (by decide) (fun hc => absurd hc (by decide)) (fun _ => ?_)
  refine lv_ldc2 (v := 31) hx hb hown (hts _ kw_132) dX8_digest_12 ?_
  refine lv_lload_n hx hb dX8_digest_15 rfl (lv_at hl 1 rfl) ?_
  refine o_lmul (z := 51696201914569) hx hb dX8_digest_16 rfl ?_
  refine lv_aload_n hx hb dX8_digest_17 rfl (lv_at hl 2 rfl) ?_
  refine lv_iload_n hx hb dX8_digest_18 rfl (lv_at hl 0 rfl) ?_
  have f61 : w58 0 = .inr (6, [.ref (ad 1), .ref (ad 14), .ref (ad 27), .ref (ad 54), .ref (ad 55), .ref (ad 58), .ref (ad 62), .long 0, .long 1, .int 0, .int 0, .int 0]) := by rw [e60]; exact f51
  have f62 : w58 1 = .inr (1, [.int 0, .int 0, .int 0, .int 0, .int 0, .ref (ad 2), .ref (ad 3), .ref (ad 4), .ref (ad 5), .ref (ad 6), .ref (ad 7), .ref (ad 8), .ref (ad 10), .ref (ad 12)]) := by rw [e60]; exact f52
  have f63 : w58 8 = .inr (4, [.ref (ad 9), .int 0]) := by rw [e60]; exact f53
  have f64 : w58 10 = .inr (4, [.ref (ad 11), .int 0]) := by rw [e60]; exact f54
  have f65 : w58 12 = .inr (2, [.ref (ad 13), .int 0]) := by rw [e60]; exact f55
  have f66 : w58 55 = .inr (5, [.ref (ad 56), .ref (ad 57), .int 0, .int 0, .int 0, .int 0, .int 0]) := by rw [e60]; exact f56
  refine q_Vi (na := 1) (As := [.int 6]) (rest := [.long 51696201914569]) X hD hN h rfl (c_X_counted l G cI cB cZ cO ad w58 6 f61 f62 f63 f64 f65 f66) ⟨kw_123, kw_124, kw_125, kw_14, kw_126⟩ rfl ⟨by decide, by decide, by decide⟩ ⟨Nat.le_of_ble_eq_true rfl, Nat.le_of_ble_eq_true rfl⟩ ⟨Nat.zero_le _, Nat.zero_le _⟩ (by decide) f61 rfl rfl hl.1 rfl (Nat.le_of_ble_eq_true rfl) dX8_digest_19 (fun r67 w68 H locs hp69 h => ?_)
  obtain ⟨e70, rfl⟩ := hp69
  refine lv_i2l (v := 0) hx hb dX8_digest_22 rfl ?_
  refine o_ladd (z := 51696201914569) hx hb dX8_digest_23 rfl ?_
  refine lv_lstore_n (lv' := [(1, .long 51696201914569), (3, .int 6), (0, .ref (ad 0))]) hx hb dX8_digest_24 rfl hl (by decide) rfl (fun ls hl => ?_)
  refine lv_iinc (v := 7) (lv' := [(3, .int 7), (1, .long 51696201914569), (0, .ref (ad 0))]) hx hb dX8_digest_25 hl (k := 1) rfl rfl (by decide) rfl (fun ls hl => ?_)
  refine lv_goto (tgt := 6) hx hb dX8_digest_28 (by decide) ?_
  refine lv_iload_n hx hb dX8_digest_6 rfl (lv_at hl 0 rfl) ?_
  refine lv_bipush (v := 9) hx hb dX8_digest_7 (by decide) ?_
  refine lv_icmp_gt (tgt := 31) hx hb dX8_digest_9 (by decide) (fun hc => absurd hc (by decide)) (fun _ => ?_)
  refine lv_ldc2 (v := 31) hx hb hown (hts _ kw_132) dX8_digest_12 ?_
  refine lv_lload_n hx hb dX8_digest_15 rfl (lv_at hl 1 rfl) ?_
  refine o_lmul (z := 1602582259351639) hx hb dX8_digest_16 rfl ?_
  refine lv_aload_n hx hb dX8_digest_17 rfl (lv_at hl 2 rfl) ?_
  refine lv_iload_n hx hb dX8_digest_18 rfl (lv_at hl 0 rfl) ?_
  have f71 : w68 0 = .inr (6, [.ref (ad 1), .ref (ad 14), .ref (ad 27), .ref (ad 54), .ref (ad 55), .ref (ad 58), .ref (ad 62), .long 0, .long 1, .int 0, .int 0, .int 0]) := by rw [e70]; exact f61
  have f72 : w68 1 = .inr (1, [.int 0, .int 0, .int 0, .int 0, .int 0, .ref (ad 2), .ref (ad 3), .ref (ad 4), .ref (ad 5), .ref (ad 6), .ref (ad 7), .ref (ad 8), .ref (ad 10), .ref (ad 12)]) := by rw [e70]; exact f62
  have f73 : w68 8 = .inr (4, [.ref (ad 9), .int 0]) := by rw [e70]; exact f63
  have f74 : w68 10 = .inr (4, [.ref (ad 11), .int 0]) := by rw [e70]; exact f64
  have f75 : w68 12 = .inr (2, [.ref (ad 13), .int 0]) := by rw [e70]; exact f65
  have f76 : w68 55 = .inr (5, [.ref (ad 56), .ref (ad 57), .int 0, .int 0, .int 0, .int 0, .int 0]) := by rw [e70]; exact f66
  refine q_Vi (na := 1) (As := [.int 7]) (rest := [.long 1602582259351639]) X hD hN h rfl (c_X_counted l G cI cB cZ cO ad w68 7 f71 f72 f73 f74 f75 f76) ⟨kw_123, kw_124, kw_125, kw_14, kw_126⟩ rfl ⟨by decide, by decide, by decide⟩ ⟨Nat.le_of_ble_eq_true rfl, Nat.le_of_ble_eq_true rfl⟩ ⟨Nat.zero_le _, Nat.zero_le _⟩ (by decide) f71 rfl rfl hl.1 rfl (Nat.le_of_ble_eq_true rfl) dX8_digest_19 (fun r77 w78 H locs hp79 h => ?_)
  obtain ⟨e80, rfl⟩ := hp79
  refine lv_i2l (v := 0) hx hb dX8_digest_22 rfl ?_
  refine o_ladd (z := 1602582259351639) hx hb dX8_digest_23 rfl ?_
  refine lv_lstore_n (lv' := [(1, .long 1602582259351639), (3, .int 7), (0, .ref (ad 0))]) hx hb dX8_digest_24 rfl hl (by decide) rfl (fun ls hl => ?_)
  refine lv_iinc (v := 8) (lv' := [(3, .int 8), (1, .long 1602582259351639), (0, .ref (ad 0))]) hx hb dX8_digest_25 hl (k := 1) rfl rfl (by decide) rfl (fun ls hl => ?_)
  refine lv_goto (tgt := 6) hx hb dX8_digest_28 (by decide) ?_
  refine lv_iload_n hx hb dX8_digest_6 rfl (lv_at hl 0 rfl) ?_
  refine lv_bipush (v := 9) hx hb dX8_digest_7 (by decide) ?_
  refine lv_icmp_gt (tgt := 31) hx hb dX8_digest_9 (by decide) (fun hc => absurd hc (by decide)) (fun _ => ?_)
  refine lv_ldc2 (v := 31) hx hb hown (hts _ kw_132) dX8_digest_12 ?_
  refine lv_lload_n hx hb dX8_digest_15 rfl (lv_at hl 1 rfl) ?_
  refine o_lmul (z := 49680050039900809) hx hb dX8_digest_16 rfl ?_
  refine lv_aload_n hx hb dX8_digest_17 rfl (lv_at hl 2 rfl) ?_
  refine lv_iload_n hx hb dX8_digest_18 rfl (lv_at hl 0 rfl) ?_
  have f81 : w78 0 = .inr (6, [.ref (ad 1), .ref (ad 14), .ref (ad 27), .ref (ad 54), .ref (ad 55), .ref (ad 58), .ref (ad 62), .long 0, .long 1, .int 0, .int 0, .int 0]) := by rw [e80]; exact f71
  have f82 : w78 1 = .inr (1, [.int 0, .int 0, .int 0, .int 0, .int 0, .ref (ad 2), .ref (ad 3), .ref (ad 4), .ref (ad 5), .ref (ad 6), .ref (ad 7), .ref (ad 8), .ref (ad 10), .ref (ad 12)]) := by rw [e80]; exact f72
  have f83 : w78 8 = .inr (4, [.ref (ad 9), .int 0]) := by rw [e80]; exact f73
  have f84 : w78 10 = .inr (4, [.ref (ad 11), .int 0]) := by rw [e80]; exact f74
  have f85 : w78 12 = .inr (2, [.ref (ad 13), .int 0]) := by rw [e80]; exact f75
  have f86 : w78 55 = .inr (5, [.ref (ad 56), .ref (ad 57), .int 0, .int 0, .int 0, .int 0, .int 0]) := by rw [e80]; exact f76
  refine q_Vi (na := 1) (As := [.int 8]) (rest := [.long 49680050039900809]) X hD hN h rfl (c_X_counted l G cI cB cZ cO ad w78 8 f81 f82 f83 f84 f85 f86) ⟨kw_123, kw_124, kw_125, kw_14, kw_126⟩ rfl ⟨by decide, by decide, by decide⟩ ⟨Nat.le_of_ble_eq_true rfl, Nat.le_of_ble_eq_true rfl⟩ ⟨Nat.zero_le _, Nat.zero_le _⟩ (by decide) f81 rfl rfl hl.1 rfl (Nat.le_of_ble_eq_true rfl) dX8_digest_19 (fun r87 w88 H locs hp89 h => ?_)
  obtain ⟨e90, rfl⟩ := hp89
  refine lv_i2l (v := 0) hx hb dX8_digest_22 rfl ?_
  refine o_ladd (z := 49680050039900809) hx hb dX8_digest_23 rfl ?_
  refine lv_lstore_n (lv' := [(1, .long 49680050039900809), (3, .int 8), (0, .ref (ad 0))]) hx hb dX8_digest_24 rfl hl (by decide) rfl (fun ls hl => ?_)
  refine lv_iinc (v := 9) (lv' := [(3, .int 9), (1, .long 49680050039900809), (0, .ref (ad 0))]) hx hb dX8_digest_25 hl (k := 1) rfl rfl (by decide) rfl (fun ls hl => ?_)
  refine lv_goto (tgt := 6) hx hb dX8_digest_28 (by decide) ?_
  refine lv_iload_n hx hb dX8_digest_6 rfl (lv_at hl 0 rfl) ?_
  refine lv_bipush (v := 9) hx hb dX8_digest_7 (by decide) ?_
  refine lv_icmp_gt (tgt := 31) hx hb dX8_digest_9 (by decide) (fun hc => absurd hc (by decide)) (fun _ => ?_)
  refine lv_ldc2 (v := 31) hx hb hown (hts _ kw_132) dX8_digest_12 ?_
  refine lv_lload_n hx hb dX8_digest_15 rfl (lv_at hl 1 rfl) ?_
  refine o_lmul (z := 1540081551236925079) hx hb dX8_digest_16 rfl ?_
  refine lv_aload_n hx hb dX8_digest_17 rfl (lv_at hl 2 rfl) ?_
  refine lv_iload_n hx hb dX8_digest_18 rfl (lv_at hl 0 rfl) ?_
  have f91 : w88 0 = .inr (6, [.ref (ad 1), .ref (ad 14), .ref (ad 27), .ref (ad 54), .ref (ad 55), .ref (ad 58), .ref (ad 62), .long 0, .long 1, .int 0, .int 0, .int 0]) := by rw [e90]; exact f81
  have f92 : w88 1 = .inr (1, [.int 0, .int 0, .int 0, .int 0, .int 0, .ref (ad 2), .ref (ad 3), .ref (ad 4), .ref (ad 5), .ref (ad 6), .ref (ad 7), .ref (ad 8), .ref (ad 10), .ref (ad 12)]) := by rw [e90]; exact f82
  have f93 : w88 8 = .inr (4, [.ref (ad 9), .int 0]) := by rw [e90]; exact f83
  have f94 : w88 10 = .inr (4, [.ref (ad 11), .int 0]) := by rw [e90]; exact f84
  have f95 : w88 12 = .inr (2, [.ref (ad 13), .int 0]) := by rw [e90]; exact f85
  have f96 : w88 55 = .inr (5, [.ref (ad 56), .ref (ad 57), .int 0, .int 0, .int 0, .int 0, .int 0]) := by rw [e90]; exact f86
  refine q_Vi (na := 1) (As := [.int 9]) (rest := [.long 1540081551236925079]) X hD hN h rfl (c_X_counted l G cI cB cZ cO ad w88 9 f91 f92 f93 f94 f95 f96) ⟨kw_123, kw_124, kw_125, kw_14, kw_126⟩ rfl ⟨by decide, by decide, by decide⟩ ⟨Nat.le_of_ble_eq_true rfl, Nat.le_of_ble_eq_true rfl⟩ ⟨Nat.zero_le _, Nat.zero_le _⟩ (by decide) f91 rfl rfl hl.1 rfl (Nat.le_of_ble_eq_true rfl) dX8_digest_19 (fun r97 w98 H locs hp99 h => ?_)
  obtain ⟨e100, rfl⟩ := hp99
  refine lv_i2l (v := 0) hx hb dX8_digest_22 rfl ?_
  refine o_ladd (z := 1540081551236925079) hx hb dX8_digest_23 rfl ?_
  refine lv_lstore_n (lv' := [(1, .long 1540081551236925079), (3, .int 9), (0, .ref (ad 0))]) hx hb dX8_digest_24 rfl hl (by decide) rfl (fun ls hl => ?_)
  refine lv_iinc (v := 10) (lv' := [(3, .int 10), (1, .long 1540081551236925079), (0, .ref (ad 0))]) hx hb dX8_digest_25 hl (k := 1) rfl rfl (by decide) rfl (fun ls hl => ?_)
  refine lv_goto (tgt := 6) hx hb dX8_digest_28 (by decide) ?_
  refine lv_iload_n hx hb dX8_digest_6 rfl (lv_at hl 0 rfl) ?_
  refine lv_bipush (v := 9) hx hb dX8_digest_7 (by decide) ?_
  refine lv_icmp_gt (tgt := 31) hx hb dX8_digest_9 (by decide) (fun _ => ?_) (fun hc => absurd (by decide) hc)
  refine lv_aload_n hx hb dX8_digest_31 rfl (lv_at hl 2 rfl) ?_
  have f101 : w98 0 = .inr (6, [.ref (ad 1), .ref (ad 14), .ref (ad 27), .ref (ad 54), .ref (ad 55), .ref (ad 58), .ref (ad 62), .long 0, .long 1, .int 0, .int 0, .int 0]) := by rw [e100]; exact f91
  refine r_get kc8 X h 0 0 (by decide) rfl f101 (by decide) kw_5 rfl dX8_digest_32 ?_
  refine lv_lload_n hx hb dX8_digest_35 rfl (lv_at hl 1 rfl) ?_
  have f102 : w98 1 = .inr (1, [.int 0, .int 0, .int 0, .int 0, .int 0, .ref (ad 2), .ref (ad 3), .ref (ad 4), .ref (ad 5), .ref (ad 6), .ref (ad 7), .ref (ad 8), .ref (ad 10), .ref (ad 12)]) := by rw [e100]; exact f92
  have f103 : w98 8 = .inr (4, [.ref (ad 9), .int 0]) := by rw [e100]; exact f93
  have f104 : w98 10 = .inr (4, [.ref (ad 11), .int 0]) := by rw [e100]; exact f94
  refine q_Vl (na := 1) (As := [.long 1540081551236925079]) (rest := []) X hD hN h rfl (c_I_mixed l G cI cB cZ cO ad w98 1540081551236925079 f102 f103 f104) ⟨kw_133, kw_134, kw_135, kw_9, kw_136⟩ rfl ⟨by decide, by decide, by decide⟩ ⟨Nat.le_of_ble_eq_true rfl, Nat.le_of_ble_eq_true rfl⟩ ⟨Nat.zero_le _, Nat.zero_le _⟩ (by decide) f102 rfl rfl hl.1 rfl (Nat.le_of_ble_eq_true rfl) dX8_digest_36 (fun r105 w106 H locs hp107 h => ?_)
  obtain ⟨e108, rfl⟩ := hp107
  refine lv_lstore_n (lv' := [(1, .long 1540081551236925079), (3, .int 10), (0, .ref (ad 0))]) hx hb dX8_digest_39 rfl hl (by decide) rfl (fun ls hl => ?_)
  refine lv_ldc2 (v := 31) hx hb hown (hts _ kw_132) dX8_digest_40 ?_
  refine lv_lload_n hx hb dX8_digest_43 rfl (lv_at hl 0 rfl) ?_
  refine o_lmul (z := (-7597704132783977399)) hx hb dX8_digest_44 rfl ?_
  refine lv_aload_n hx hb dX8_digest_45 rfl (lv_at hl 2 rfl) ?_
  have f109 : w106 0 = .inr (6, [.ref (ad 1), .ref (ad 14), .ref (ad 27), .ref (ad 54), .ref (ad 55), .ref (ad 58), .ref (ad 62), .long 0, .long 1, .int 0, .int 0, .int 0]) := by rw [e108]; exact f101
  refine r_get kc8 X h 0 7 (by decide) rfl f109 (by decide) kw_103 rfl dX8_digest_46 ?_
  refine o_ladd (z := (-7597704132783977399)) hx hb dX8_digest_49 rfl ?_
  refine lv_lstore_n (lv' := [(1, .long (-7597704132783977399)), (3, .int 10), (0, .ref (ad 0))]) hx hb dX8_digest_50 rfl hl (by decide) rfl (fun ls hl => ?_)
  refine lv_ldc2 (v := 31) hx hb hown (hts _ kw_132) dX8_digest_51 ?_
  refine lv_lload_n hx hb dX8_digest_54 rfl (lv_at hl 0 rfl) ?_
  refine o_lmul (z := 4278844841920871639) hx hb dX8_digest_55 rfl ?_
  refine lv_aload_n hx hb dX8_digest_56 rfl (lv_at hl 2 rfl) ?_
  refine r_get kc8 X h 0 8 (by decide) rfl f109 (by decide) kw_104 rfl dX8_digest_57 ?_
  refine o_ladd (z := 4278844841920871640) hx hb dX8_digest_60 rfl ?_
  exact e_l X h hr hlk dX8_digest_61 ⟨rfl, fun k hk => (congrFun e108 k).trans ((congrFun e100 k).trans ((congrFun e90 k).trans ((congrFun e80 k).trans ((congrFun e70 k).trans ((congrFun e60 k).trans ((congrFun e50 k).trans ((congrFun e40 k).trans ((congrFun e30 k).trans ((congrFun e20 k).trans (congrFun e10 k))))))))))⟩
