set_option maxHeartbeats 4000000 in
set_option maxRecDepth 100000 in
theorem c_M_in (l : Launch) (G : va_G) (cI cB cZ cO : ClassId) (ad : Nat → Nat) (w : Nat → va_E) (x y z : Int64) (u a b : Int) (hu : x.toInt = u) (ha : y.toInt = a) (hb2 : z.toInt = b) : MI l G (tyq cI cB cZ cO) yX9_in cX9_in 6 (some .boolean) 0 0 74 ad w [.long x, .long y, .long z] (fun r w1 => w1 = w ∧ ((a ≤ u ∧ u ≤ b ∧ r = 1) ∨ (¬ (a ≤ u ∧ u ≤ b) ∧ r = 0))) := by
  refine mk_i (own := "NoonShadeModel") rfl (by decide) (Nat.le_of_ble_eq_true rfl) ?_
  intro p e s m below meth c ls X hD hN hr hlk h hl
  have hx := X.1.1
  have hb := X.1.2.1
  have hown := X.1.2.2.2.1
  have hts := X.1.2.2.2.2
  have hl : lv_has ls 6 [(0, .long x), (2, .long y), (4, .long z)] := hl
  refine lv_lload_n hx hb dX9_in_0 rfl (lv_at hl 0 rfl) ?_
  refine lv_lload_n hx hb dX9_in_1 rfl (lv_at hl 1 rfl) ?_
  refine W.lcmp hx hb dX9_in_2 ?_
  refine lv_if_lt (tgt := 17) hx hb dX9_in_3 (by decide) (fun hc1 => ?_) (fun hc1 => ?_)
  · have hc1 : u < a := lcm_lt hc1 hu ha
    refine lv_iconst (v := 0) hx hb dX9_in_17 (by decide) ?_
    exact e_z X h hr hlk rfl dX9_in_18 ⟨rfl, Or.inr ⟨by omega, rfl⟩⟩
  · have hc1 : ¬ u < a := lcm_nlt hc1 hu ha
    refine lv_lload_n hx hb dX9_in_6 rfl (lv_at hl 0 rfl) ?_
    refine lv_lload hx hb dX9_in_7 (lv_at hl 2 rfl) ?_
    refine W.lcmp hx hb dX9_in_9 ?_
    refine lv_if_gt (tgt := 17) hx hb dX9_in_10 (by decide) (fun hc2 => ?_) (fun hc2 => ?_)
    · have hc2 : b < u := lcm_gt hc2 hu hb2
      refine lv_iconst (v := 0) hx hb dX9_in_17 (by decide) ?_
      exact e_z X h hr hlk rfl dX9_in_18 ⟨rfl, Or.inr ⟨by omega, rfl⟩⟩
    · have hc2 : ¬ b < u := lcm_ngt hc2 hu hb2
      refine lv_iconst (v := 1) hx hb dX9_in_13 (by decide) ?_
      refine lv_goto (tgt := 18) hx hb dX9_in_14 (by decide) ?_
      exact e_z X h hr hlk rfl dX9_in_18 ⟨rfl, Or.inl ⟨by omega, by omega, rfl⟩⟩

set_option maxHeartbeats 4000000 in
set_option maxRecDepth 100000 in
theorem c_M_bad (l : Launch) (G : va_G) (cI cB cZ cO : ClassId) (ad : Nat → Nat) (w : Nat → va_E) (t : Int32) (pf64 : w 64 = .inr (7, [.ref (ad 65), .ref (ad 66), .ref (ad 67), .ref (ad 68), .long 0, .long 1, .ref (ad 69), .int 0, .ref (ad 70), .ref (ad 71), .int 0, .int 0, .int 0, .int 0, .int 0, .ref (ad 72), .ref (ad 73)])) (pf68 : w 68 = .inl (cI, 3, .inl (fun _ => 0))) : MI l G (tyq cI cB cZ cO) yX9_bad cX9_bad 2 (some .int) 0 0 74 ad w [.ref (ad 64), .int t] (fun r w1 => t = r ∧ ∀ k, k ≠ 68 → w1 k = w k) := by
  refine mk_i (own := "NoonShadeModel") rfl (by decide) (Nat.le_of_ble_eq_true rfl) ?_
  intro p e s m below meth c ls X hD hN hr hlk h hl
  have hx := X.1.1
  have hb := X.1.2.1
  have hown := X.1.2.2.2.1
  have hts := X.1.2.2.2.2
  have hl : lv_has ls 2 [(0, .ref (ad 64)), (1, .int t)] := hl
  refine lv_aload_n hx hb dX9_bad_0 rfl (lv_at hl 0 rfl) ?_
  refine r_get kc9 X h 64 3 (by decide) rfl pf64 (by decide) kw_186 rfl dX9_bad_1 ?_
  refine lv_iconst (v := 0) hx hb dX9_bad_4 (by decide) ?_
  refine lv_dup2_11 hx hb dX9_bad_5 rfl rfl ?_
  refine o_iald (v := 0) X h 68 0 (by decide) rfl pf68 rfl (by unfold vp_in; decide) rfl dX9_bad_6 ?_
  refine lv_iconst (v := 1) hx hb dX9_bad_7 (by decide) ?_
  refine o_iadd (z := 1) hx hb dX9_bad_8 rfl ?_
  refine o_iast (f1 := upd (fun _ => 0) 0 1) X hD h 68 0 (by decide) rfl pf68 rfl (by unfold vp_in; decide) rfl dX9_bad_9 (fun H locs w1 e2 h => ?_)
  have f3 : w1 68 = .inl (cI, 3, .inl (upd (fun _ => 0) 0 1)) := (congrFun e2 _).trans (va_up_self _ _ _)
  refine lv_iload_n hx hb dX9_bad_10 rfl (lv_at hl 1 rfl) ?_
  exact e_i X h hr hlk dX9_bad_11 ⟨rfl, fun k h1 => (congrFun e2 k).trans (va_up_ne _ _ (by omega))⟩

set_option maxHeartbeats 4000000 in
set_option maxRecDepth 100000 in
theorem c_M_no (l : Launch) (G : va_G) (cI cB cZ cO : ClassId) (ad : Nat → Nat) (w : Nat → va_E)  (pf64 : w 64 = .inr (7, [.ref (ad 65), .ref (ad 66), .ref (ad 67), .ref (ad 68), .long 0, .long 1, .ref (ad 69), .int 0, .ref (ad 70), .ref (ad 71), .int 0, .int 0, .int 0, .int 0, .int 0, .ref (ad 72), .ref (ad 73)])) (pf68 : w 68 = .inl (cI, 3, .inl (fun _ => 0))) : MI l G (tyq cI cB cZ cO) yX9_no cX9_no 1 (some .int) 0 0 74 ad w [.ref (ad 64)] (fun r w1 => r = -3 ∧ ∀ k, k ≠ 68 → w1 k = w k) := by
  refine mk_i (own := "NoonShadeModel") rfl (by decide) (Nat.le_of_ble_eq_true rfl) ?_
  intro p e s m below meth c ls X hD hN hr hlk h hl
  have hx := X.1.1
  have hb := X.1.2.1
  have hown := X.1.2.2.2.1
  have hts := X.1.2.2.2.2
  have hl : lv_has ls 1 [(0, .ref (ad 64))] := hl
  refine lv_aload_n hx hb dX9_no_0 rfl (lv_at hl 0 rfl) ?_
  refine r_get kc9 X h 64 3 (by decide) rfl pf64 (by decide) kw_186 rfl dX9_no_1 ?_
  refine lv_iconst (v := 1) hx hb dX9_no_4 (by decide) ?_
  refine lv_dup2_11 hx hb dX9_no_5 rfl rfl ?_
  refine o_iald (v := 0) X h 68 0 (by decide) rfl pf68 rfl (by unfold vp_in; decide) rfl dX9_no_6 ?_
  refine lv_iconst (v := 1) hx hb dX9_no_7 (by decide) ?_
  refine o_iadd (z := 1) hx hb dX9_no_8 rfl ?_
  refine o_iast (f1 := upd (fun _ => 0) 1 1) X hD h 68 0 (by decide) rfl pf68 rfl (by unfold vp_in; decide) rfl dX9_no_9 (fun H locs w1 e2 h => ?_)
  have f3 : w1 68 = .inl (cI, 3, .inl (upd (fun _ => 0) 1 1)) := (congrFun e2 _).trans (va_up_self _ _ _)
  refine lv_bipush (v := (-3)) hx hb dX9_no_10 (by decide) ?_
  exact e_i X h hr hlk dX9_no_12 ⟨rfl, fun k h1 => (congrFun e2 k).trans (va_up_ne _ _ (by omega))⟩

set_option maxHeartbeats 4000000 in
set_option maxRecDepth 100000 in
theorem c_M_isCaster (l : Launch) (G : va_G) (cI cB cZ cO : ClassId) (ad : Nat → Nat) (w : Nat → va_E) (i : Int32) (pf64 : w 64 = .inr (7, [.ref (ad 65), .ref (ad 66), .ref (ad 67), .ref (ad 68), .long 0, .long 1, .ref (ad 69), .int 0, .ref (ad 70), .ref (ad 71), .int 0, .int 0, .int 0, .int 0, .int 0, .ref (ad 72), .ref (ad 73)])) (pf65 : w 65 = .inl (cI, 177, .inl (fun _ => 0))) : MI l G (tyq cI cB cZ cO) yX9_isCaster cX9_isCaster 2 (some .boolean) 1 25 74 ad w [.ref (ad 64), .int i] (fun r w1 => w1 = w ∧ r = 0) := by
  refine mk_i (own := "NoonShadeModel") rfl (by decide) (Nat.le_of_ble_eq_true rfl) ?_
  intro p e s m below meth c ls X hD hN hr hlk h hl
  have hx := X.1.1
  have hb := X.1.2.1
  have hown := X.1.2.2.2.1
  have hts := X.1.2.2.2.2
  have hl : lv_has ls 2 [(0, .ref (ad 64)), (1, .int i)] := hl
  refine lv_iload_n hx hb dX9_isCaster_0 rfl (lv_at hl 1 rfl) ?_
  refine lv_i2l (v := i.toInt64) hx hb dX9_isCaster_1 rfl ?_
  refine lv_lconst (v := 0) hx hb dX9_isCaster_2 (by decide) ?_
  refine lv_aload_n hx hb dX9_isCaster_3 rfl (lv_at hl 0 rfl) ?_
  refine r_get kc9 X h 64 0 (by decide) rfl pf64 (by decide) kw_187 rfl dX9_isCaster_4 ?_
  refine lv_iconst (v := 0) hx hb dX9_isCaster_7 (by decide) ?_
  refine o_iald (v := 0) X h 65 0 (by decide) rfl pf65 rfl (by unfold vp_in; decide) rfl dX9_isCaster_8 ?_
  refine lv_iconst (v := 1) hx hb dX9_isCaster_9 (by decide) ?_
  refine o_isub (z := (-1)) hx hb dX9_isCaster_10 rfl ?_
  refine lv_i2l (v := (-1)) hx hb dX9_isCaster_11 rfl ?_
  refine q_Si (na := 3) (As := [.long i.toInt64, .long 0, .long (-1)]) (rest := []) X hD hN h (c_M_in l G cI cB cZ cO ad w i.toInt64 0 (-1) ((i).toInt) 0 (-1) (Int32.toInt_toInt64 _) rfl rfl) ⟨kw_188, kw_189, kw_190, kw_191⟩ ⟨by decide, by decide, by decide⟩ ⟨Nat.le_of_ble_eq_true rfl, Nat.le_of_ble_eq_true rfl⟩ ⟨Nat.zero_le _, Nat.zero_le _⟩ rfl hl.1 rfl (Nat.le_of_ble_eq_true rfl) dX9_isCaster_12 (fun r1 w2 H locs hp3 h => ?_)
  obtain ⟨e4, hp3⟩ := hp3
  rcases hp3 with ⟨hq5a, hq5b, rfl⟩ | ⟨hq5, rfl⟩
  · exfalso; omega
  · exact e_z X h hr hlk rfl dX9_isCaster_15 ⟨funext fun k => congrFun e4 k, rfl⟩

set_option maxHeartbeats 4000000 in
set_option maxRecDepth 100000 in
theorem c_M_isJar (l : Launch) (G : va_G) (cI cB cZ cO : ClassId) (ad : Nat → Nat) (w : Nat → va_E) (i : Int32) (pf64 : w 64 = .inr (7, [.ref (ad 65), .ref (ad 66), .ref (ad 67), .ref (ad 68), .long 0, .long 1, .ref (ad 69), .int 0, .ref (ad 70), .ref (ad 71), .int 0, .int 0, .int 0, .int 0, .int 0, .ref (ad 72), .ref (ad 73)])) (pf65 : w 65 = .inl (cI, 177, .inl (fun _ => 0))) : MI l G (tyq cI cB cZ cO) yX9_isJar cX9_isJar 2 (some .boolean) 1 25 74 ad w [.ref (ad 64), .int i] (fun r w1 => w1 = w ∧ r = 0) := by
  refine mk_i (own := "NoonShadeModel") rfl (by decide) (Nat.le_of_ble_eq_true rfl) ?_
  intro p e s m below meth c ls X hD hN hr hlk h hl
  have hx := X.1.1
  have hb := X.1.2.1
  have hown := X.1.2.2.2.1
  have hts := X.1.2.2.2.2
  have hl : lv_has ls 2 [(0, .ref (ad 64)), (1, .int i)] := hl
  refine lv_iload_n hx hb dX9_isJar_0 rfl (lv_at hl 1 rfl) ?_
  refine lv_i2l (v := i.toInt64) hx hb dX9_isJar_1 rfl ?_
  refine lv_lconst (v := 0) hx hb dX9_isJar_2 (by decide) ?_
  refine lv_aload_n hx hb dX9_isJar_3 rfl (lv_at hl 0 rfl) ?_
  refine r_get kc9 X h 64 0 (by decide) rfl pf64 (by decide) kw_187 rfl dX9_isJar_4 ?_
  refine lv_iconst (v := 1) hx hb dX9_isJar_7 (by decide) ?_
  refine o_iald (v := 0) X h 65 0 (by decide) rfl pf65 rfl (by unfold vp_in; decide) rfl dX9_isJar_8 ?_
  refine lv_iconst (v := 1) hx hb dX9_isJar_9 (by decide) ?_
  refine o_isub (z := (-1)) hx hb dX9_isJar_10 rfl ?_
  refine lv_i2l (v := (-1)) hx hb dX9_isJar_11 rfl ?_
  refine q_Si (na := 3) (As := [.long i.toInt64, .long 0, .long (-1)]) (rest := []) X hD hN h (c_M_in l G cI cB cZ cO ad w i.toInt64 0 (-1) ((i).toInt) 0 (-1) (Int32.toInt_toInt64 _) rfl rfl) ⟨kw_188, kw_189, kw_190, kw_191⟩ ⟨by decide, by decide, by decide⟩ ⟨Nat.le_of_ble_eq_true rfl, Nat.le_of_ble_eq_true rfl⟩ ⟨Nat.zero_le _, Nat.zero_le _⟩ rfl hl.1 rfl (Nat.le_of_ble_eq_true rfl) dX9_isJar_12 (fun r1 w2 H locs hp3 h => ?_)
  obtain ⟨e4, hp3⟩ := hp3
  rcases hp3 with ⟨hq5a, hq5b, rfl⟩ | ⟨hq5, rfl⟩
  · exfalso; omega
  · exact e_z X h hr hlk rfl dX9_isJar_15 ⟨funext fun k => congrFun e4 k, rfl⟩

set_option maxHeartbeats 4000000 in
set_option maxRecDepth 100000 in
theorem c_M_isKind (l : Launch) (G : va_G) (cI cB cZ cO : ClassId) (ad : Nat → Nat) (w : Nat → va_E) (i : Int32) : MI l G (tyq cI cB cZ cO) yX9_isKind cX9_isKind 1 (some .boolean) 1 25 74 ad w [.int i] (fun r w1 => w1 = w ∧ ((0 ≤ i.toInt ∧ i.toInt ≤ 5 ∧ r = 1) ∨ (¬ (0 ≤ i.toInt ∧ i.toInt ≤ 5) ∧ r = 0))) := by
  refine mk_i (own := "NoonShadeModel") rfl (by decide) (Nat.le_of_ble_eq_true rfl) ?_
  intro p e s m below meth c ls X hD hN hr hlk h hl
  have hx := X.1.1
  have hb := X.1.2.1
  have hown := X.1.2.2.2.1
  have hts := X.1.2.2.2.2
  have hl : lv_has ls 1 [(0, .int i)] := hl
  refine lv_iload_n hx hb dX9_isKind_0 rfl (lv_at hl 0 rfl) ?_
  refine lv_i2l (v := i.toInt64) hx hb dX9_isKind_1 rfl ?_
  refine lv_lconst (v := 0) hx hb dX9_isKind_2 (by decide) ?_
  refine lv_ldc2 (v := 5) hx hb hown (hts _ kw_192) dX9_isKind_3 ?_
  refine q_Si (na := 3) (As := [.long i.toInt64, .long 0, .long 5]) (rest := []) X hD hN h (c_M_in l G cI cB cZ cO ad w i.toInt64 0 5 ((i).toInt) 0 5 (Int32.toInt_toInt64 _) rfl rfl) ⟨kw_188, kw_189, kw_190, kw_191⟩ ⟨by decide, by decide, by decide⟩ ⟨Nat.le_of_ble_eq_true rfl, Nat.le_of_ble_eq_true rfl⟩ ⟨Nat.zero_le _, Nat.zero_le _⟩ rfl hl.1 rfl (Nat.le_of_ble_eq_true rfl) dX9_isKind_6 (fun r1 w2 H locs hp3 h => ?_)
  obtain ⟨e4, hp3⟩ := hp3
  rcases hp3 with ⟨hq5a, hq5b, rfl⟩ | ⟨hq5, rfl⟩
  · exact e_z X h hr hlk rfl dX9_isKind_9 ⟨funext fun k => congrFun e4 k, Or.inl ⟨by omega, by omega, rfl⟩⟩
  · exact e_z X h hr hlk rfl dX9_isKind_9 ⟨funext fun k => congrFun e4 k, Or.inr ⟨by omega, rfl⟩⟩

set_option maxHeartbeats 4000000 in
set_option maxRecDepth 100000 in
theorem c_M_isHeight (l : Launch) (G : va_G) (cI cB cZ cO : ClassId) (ad : Nat → Nat) (w : Nat → va_E) (i : Int32) : MI l G (tyq cI cB cZ cO) yX9_isHeight cX9_isHeight 1 (some .boolean) 1 25 74 ad w [.int i] (fun r w1 => w1 = w ∧ ((1 ≤ i.toInt ∧ i.toInt ≤ 9 ∧ r = 1) ∨ (¬ (1 ≤ i.toInt ∧ i.toInt ≤ 9) ∧ r = 0))) := by
  refine mk_i (own := "NoonShadeModel") rfl (by decide) (Nat.le_of_ble_eq_true rfl) ?_
  intro p e s m below meth c ls X hD hN hr hlk h hl
  have hx := X.1.1
  have hb := X.1.2.1
  have hown := X.1.2.2.2.1
  have hts := X.1.2.2.2.2
  have hl : lv_has ls 1 [(0, .int i)] := hl
  refine lv_iload_n hx hb dX9_isHeight_0 rfl (lv_at hl 0 rfl) ?_
  refine lv_i2l (v := i.toInt64) hx hb dX9_isHeight_1 rfl ?_
  refine lv_lconst (v := 1) hx hb dX9_isHeight_2 (by decide) ?_
  refine lv_ldc2 (v := 9) hx hb hown (hts _ kw_193) dX9_isHeight_3 ?_
  refine q_Si (na := 3) (As := [.long i.toInt64, .long 1, .long 9]) (rest := []) X hD hN h (c_M_in l G cI cB cZ cO ad w i.toInt64 1 9 ((i).toInt) 1 9 (Int32.toInt_toInt64 _) rfl rfl) ⟨kw_188, kw_189, kw_190, kw_191⟩ ⟨by decide, by decide, by decide⟩ ⟨Nat.le_of_ble_eq_true rfl, Nat.le_of_ble_eq_true rfl⟩ ⟨Nat.zero_le _, Nat.zero_le _⟩ rfl hl.1 rfl (Nat.le_of_ble_eq_true rfl) dX9_isHeight_6 (fun r1 w2 H locs hp3 h => ?_)
  obtain ⟨e4, hp3⟩ := hp3
  rcases hp3 with ⟨hq5a, hq5b, rfl⟩ | ⟨hq5, rfl⟩
  · exact e_z X h hr hlk rfl dX9_isHeight_9 ⟨funext fun k => congrFun e4 k, Or.inl ⟨by omega, by omega, rfl⟩⟩
  · exact e_z X h hr hlk rfl dX9_isHeight_9 ⟨funext fun k => congrFun e4 k, Or.inr ⟨by omega, rfl⟩⟩

set_option maxHeartbeats 4000000 in
set_option maxRecDepth 100000 in
theorem c_M_isTaste (l : Launch) (G : va_G) (cI cB cZ cO : ClassId) (ad : Nat → Nat) (w : Nat → va_E) (i : Int32) : MI l G (tyq cI cB cZ cO) yX9_isTaste cX9_isTaste 1 (some .boolean) 1 25 74 ad w [.int i] (fun r w1 => w1 = w ∧ ((0 ≤ i.toInt ∧ i.toInt ≤ 3 ∧ r = 1) ∨ (¬ (0 ≤ i.toInt ∧ i.toInt ≤ 3) ∧ r = 0))) := by
  refine mk_i (own := "NoonShadeModel") rfl (by decide) (Nat.le_of_ble_eq_true rfl) ?_
  intro p e s m below meth c ls X hD hN hr hlk h hl
  have hx := X.1.1
  have hb := X.1.2.1
  have hown := X.1.2.2.2.1
  have hts := X.1.2.2.2.2
  have hl : lv_has ls 1 [(0, .int i)] := hl
  refine lv_iload_n hx hb dX9_isTaste_0 rfl (lv_at hl 0 rfl) ?_
  refine lv_i2l (v := i.toInt64) hx hb dX9_isTaste_1 rfl ?_
  refine lv_lconst (v := 0) hx hb dX9_isTaste_2 (by decide) ?_
  refine lv_ldc2 (v := 3) hx hb hown (hts _ kw_194) dX9_isTaste_3 ?_
  refine q_Si (na := 3) (As := [.long i.toInt64, .long 0, .long 3]) (rest := []) X hD hN h (c_M_in l G cI cB cZ cO ad w i.toInt64 0 3 ((i).toInt) 0 3 (Int32.toInt_toInt64 _) rfl rfl) ⟨kw_188, kw_189, kw_190, kw_191⟩ ⟨by decide, by decide, by decide⟩ ⟨Nat.le_of_ble_eq_true rfl, Nat.le_of_ble_eq_true rfl⟩ ⟨Nat.zero_le _, Nat.zero_le _⟩ rfl hl.1 rfl (Nat.le_of_ble_eq_true rfl) dX9_isTaste_6 (fun r1 w2 H locs hp3 h => ?_)
  obtain ⟨e4, hp3⟩ := hp3
  rcases hp3 with ⟨hq5a, hq5b, rfl⟩ | ⟨hq5, rfl⟩
  · exact e_z X h hr hlk rfl dX9_isTaste_9 ⟨funext fun k => congrFun e4 k, Or.inl ⟨by omega, by omega, rfl⟩⟩
  · exact e_z X h hr hlk rfl dX9_isTaste_9 ⟨funext fun k => congrFun e4 k, Or.inr ⟨by omega, rfl⟩⟩

set_option maxHeartbeats 4000000 in
set_option maxRecDepth 100000 in
theorem c_M_begin (l : Launch) (G : va_G) (cI cB cZ cO : ClassId) (ad : Nat → Nat) (w : Nat → va_E) (t : Int32) (pf65 : w 65 = .inl (cI, 177, .inl (fun _ => 0))) : MV l G (tyq cI cB cZ cO) yX9_begin cX9_begin 3 0 0 74 ad w [.ref (ad 65), .int t] (fun w1 => w1 65 = .inl (cI, 177, .inl (upd (fun _ => 0) 5 t)) ∧ ∀ k, k ≠ 65 → w1 k = w k) := by
  refine mk_v (own := "NoonShadeModel") rfl (by decide) (Nat.le_of_ble_eq_true rfl) ?_
  intro p e s m below meth c ls X hD hN hr hlk h hl
  have hx := X.1.1
  have hb := X.1.2.1
  have hown := X.1.2.2.2.1
  have hts := X.1.2.2.2.2
  have hl : lv_has ls 3 [(0, .ref (ad 65)), (1, .int t)] := hl
  refine lv_iconst (v := 0) hx hb dX9_begin_0 (by decide) ?_
  refine lv_istore_n (lv' := [(2, .int 0), (0, .ref (ad 65)), (1, .int t)]) hx hb dX9_begin_1 rfl hl (by decide) rfl (fun ls hl => ?_)
  have hloop1 : ∀ (d : Nat) (k : Int32) (wL : Nat → va_E) (H : Heap) (locs : List Loc) (ls : Array Slot), 0 ≤ k.toInt → k.toInt ≤ 89 → wL 65 = .inl (cI, 177, .inl (fun _ => 0)) → (∀ k, k ≠ 65 → wL k = w k) → 89 - k.toInt < (d : Int) → St G 74 ad (wA 74 ad s.heap.size) s.heap wL H locs → lv_has ls 3 [(0, .ref (ad 65)), (1, .int t), (2, .int k)] → W p l e { frames := 0, cells := 0, slots := 0, locals := 0 } s m [.ref (ad 65), .int t].toArray below meth c H locs 0 0 (MQ below (va_Qv (fun w1 => w1 65 = .inl (cI, 177, .inl (upd (fun _ => 0) 5 t)) ∧ ∀ k, k ≠ 65 → w1 k = w k) (Aft G 74 ad) (wA 74 ad s.heap.size)) [.ref (ad 65), .int t].toArray s 0 0 (wA 74 ad s.heap.size)) (F0 m 2 ls []) := by
    intro d
    induction d with
    | zero => intro k wL H locs ls hk0 hk1 g65 hfr hm h hl; exfalso; omega
    | succ d ih =>
      intro k wL H locs ls hk0 hk1 g65 hfr hm h hl
      refine lv_iload_n hx hb dX9_begin_2 rfl (lv_at hl 2 rfl) ?_
      refine lv_bipush (v := 89) hx hb dX9_begin_3 (by decide) ?_
      refine lv_icmp_ge (tgt := 18) hx hb dX9_begin_5 (by decide) (fun hc2 => ?_) (fun hc2 => ?_)
      · have hc2 : 89 ≤ (k).toInt := i_le hc2 rfl rfl
        refine lv_aload_n hx hb dX9_begin_18 rfl (lv_at hl 0 rfl) ?_
        refine lv_iconst (v := 5) hx hb dX9_begin_19 (by decide) ?_
        refine lv_iload_n hx hb dX9_begin_20 rfl (lv_at hl 1 rfl) ?_
        refine o_iast (f1 := upd (fun _ => 0) 5 t) X hD h 65 0 (by decide) rfl g65 rfl (by unfold vp_in; decide) rfl dX9_begin_21 (fun H locs w3 e4 h => ?_)
        have f5 : w3 65 = .inl (cI, 177, .inl (upd (fun _ => 0) 5 t)) := (congrFun e4 _).trans (va_up_self _ _ _)
        exact e_v X h hr hlk dX9_begin_22 ⟨f5, fun k h1 => ((congrFun e4 k).trans (va_up_ne _ _ (by omega))).trans (hfr k (by omega))⟩
      · have hc2 : ¬ 89 ≤ (k).toInt := i_nle hc2 rfl rfl
        refine lv_aload_n hx hb dX9_begin_8 rfl (lv_at hl 0 rfl) ?_
        refine lv_iload_n hx hb dX9_begin_9 rfl (lv_at hl 2 rfl) ?_
        refine lv_iconst (v := 0) hx hb dX9_begin_10 (by decide) ?_
        refine o_iast (f1 := fun _ => 0) X hD h 65 0 (by decide) rfl g65 rfl (in_of (by omega) (by omega)) (upd0 _) dX9_begin_11 (fun H locs w6 e7 h => ?_)
        have f8 : w6 65 = .inl (cI, 177, .inl (fun _ => 0)) := (congrFun e7 _).trans (va_up_self _ _ _)
        refine lv_iinc (v := k + 1) (lv' := [(2, .int (k + 1)), (0, .ref (ad 65)), (1, .int t)]) hx hb dX9_begin_12 hl (k := 2) rfl rfl (by decide) rfl (fun ls hl => ?_)
        refine lv_goto (tgt := 2) hx hb dX9_begin_15 (by decide) ?_
        have hi : (k + 1).toInt = k.toInt + 1 := inc1 (by omega) (by omega)
        exact ih (k + 1) w6 _ _ _ (by omega) (by omega) f8 (fun k h0 => ((congrFun e7 k).trans (va_up_ne _ _ (by omega))).trans (hfr k (by omega))) (by omega) h (lv_sub hl [1, 2, 0] rfl)
  exact hloop1 90 0 w _ _ _ (by decide) (by decide) pf65 (fun k _ => rfl) (by have : (0 : Int32).toInt = 0 := rfl; omega) h (lv_sub hl [1, 2, 0] rfl)

set_option maxHeartbeats 4000000 in
set_option maxRecDepth 100000 in
theorem c_M_layCaster (l : Launch) (G : va_G) (cI cB cZ cO : ClassId) (ad : Nat → Nat) (w : Nat → va_E) (x y z : Int32) (pf65 : w 65 = .inl (cI, 177, .inl (fun _ => 0))) : MV l G (tyq cI cB cZ cO) yX9_layCaster cX9_layCaster 4 0 0 74 ad w [.ref (ad 65), .int x, .int y, .int z] (fun w1 => w1 65 = .inl (cI, 177, .inl (upd (upd (upd (upd (fun _ => 0) 16 x) 23 y) 30 z) 0 1)) ∧ ∀ k, k ≠ 65 → w1 k = w k) := by
  refine mk_v (own := "NoonShadeModel") rfl (by decide) (Nat.le_of_ble_eq_true rfl) ?_
  intro p e s m below meth c ls X hD hN hr hlk h hl
  have hx := X.1.1
  have hb := X.1.2.1
  have hown := X.1.2.2.2.1
  have hts := X.1.2.2.2.2
  have hl : lv_has ls 4 [(0, .ref (ad 65)), (1, .int x), (2, .int y), (3, .int z)] := hl
  refine lv_aload_n hx hb dX9_layCaster_0 rfl (lv_at hl 0 rfl) ?_
  refine lv_bipush (v := 16) hx hb dX9_layCaster_1 (by decide) ?_
  refine lv_aload_n hx hb dX9_layCaster_3 rfl (lv_at hl 0 rfl) ?_
  refine lv_iconst (v := 0) hx hb dX9_layCaster_4 (by decide) ?_
  refine o_iald (v := 0) X h 65 0 (by decide) rfl pf65 rfl (by unfold vp_in; decide) rfl dX9_layCaster_5 ?_
  refine o_iadd (z := 16) hx hb dX9_layCaster_6 rfl ?_
  refine lv_iload_n hx hb dX9_layCaster_7 rfl (lv_at hl 1 rfl) ?_
  refine o_iast (f1 := upd (fun _ => 0) 16 x) X hD h 65 0 (by decide) rfl pf65 rfl (by unfold vp_in; decide) rfl dX9_layCaster_8 (fun H locs w1 e2 h => ?_)
  have f3 : w1 65 = .inl (cI, 177, .inl (upd (fun _ => 0) 16 x)) := (congrFun e2 _).trans (va_up_self _ _ _)
  refine lv_aload_n hx hb dX9_layCaster_9 rfl (lv_at hl 0 rfl) ?_
  refine lv_bipush (v := 23) hx hb dX9_layCaster_10 (by decide) ?_
  refine lv_aload_n hx hb dX9_layCaster_12 rfl (lv_at hl 0 rfl) ?_
  refine lv_iconst (v := 0) hx hb dX9_layCaster_13 (by decide) ?_
  refine o_iald (v := 0) X h 65 0 (by decide) rfl f3 rfl (by unfold vp_in; decide) rfl dX9_layCaster_14 ?_
  refine o_iadd (z := 23) hx hb dX9_layCaster_15 rfl ?_
  refine lv_iload_n hx hb dX9_layCaster_16 rfl (lv_at hl 2 rfl) ?_
  refine o_iast (f1 := upd (upd (fun _ => 0) 16 x) 23 y) X hD h 65 0 (by decide) rfl f3 rfl (by unfold vp_in; decide) rfl dX9_layCaster_17 (fun H locs w4 e5 h => ?_)
  have f6 : w4 65 = .inl (cI, 177, .inl (upd (upd (fun _ => 0) 16 x) 23 y)) := (congrFun e5 _).trans (va_up_self _ _ _)
  refine lv_aload_n hx hb dX9_layCaster_18 rfl (lv_at hl 0 rfl) ?_
  refine lv_bipush (v := 30) hx hb dX9_layCaster_19 (by decide) ?_
  refine lv_aload_n hx hb dX9_layCaster_21 rfl (lv_at hl 0 rfl) ?_
  refine lv_iconst (v := 0) hx hb dX9_layCaster_22 (by decide) ?_
  refine o_iald (v := 0) X h 65 0 (by decide) rfl f6 rfl (by unfold vp_in; decide) rfl dX9_layCaster_23 ?_
  refine o_iadd (z := 30) hx hb dX9_layCaster_24 rfl ?_
  refine lv_iload_n hx hb dX9_layCaster_25 rfl (lv_at hl 3 rfl) ?_
  refine o_iast (f1 := upd (upd (upd (fun _ => 0) 16 x) 23 y) 30 z) X hD h 65 0 (by decide) rfl f6 rfl (by unfold vp_in; decide) rfl dX9_layCaster_26 (fun H locs w7 e8 h => ?_)
  have f9 : w7 65 = .inl (cI, 177, .inl (upd (upd (upd (fun _ => 0) 16 x) 23 y) 30 z)) := (congrFun e8 _).trans (va_up_self _ _ _)
  refine lv_aload_n hx hb dX9_layCaster_27 rfl (lv_at hl 0 rfl) ?_
  refine lv_iconst (v := 0) hx hb dX9_layCaster_28 (by decide) ?_
  refine lv_dup2_11 hx hb dX9_layCaster_29 rfl rfl ?_
  refine o_iald (v := 0) X h 65 0 (by decide) rfl f9 rfl (by unfold vp_in; decide) rfl dX9_layCaster_30 ?_
  refine lv_iconst (v := 1) hx hb dX9_layCaster_31 (by decide) ?_
  refine o_iadd (z := 1) hx hb dX9_layCaster_32 rfl ?_
  refine o_iast (f1 := upd (upd (upd (upd (fun _ => 0) 16 x) 23 y) 30 z) 0 1) X hD h 65 0 (by decide) rfl f9 rfl (by unfold vp_in; decide) rfl dX9_layCaster_33 (fun H locs w10 e11 h => ?_)
  have f12 : w10 65 = .inl (cI, 177, .inl (upd (upd (upd (upd (fun _ => 0) 16 x) 23 y) 30 z) 0 1)) := (congrFun e11 _).trans (va_up_self _ _ _)
  exact e_v X h hr hlk dX9_layCaster_34 ⟨f12, fun k h1 => ((congrFun e11 k).trans (va_up_ne _ _ (by omega))).trans (((congrFun e8 k).trans (va_up_ne _ _ (by omega))).trans (((congrFun e5 k).trans (va_up_ne _ _ (by omega))).trans ((congrFun e2 k).trans (va_up_ne _ _ (by omega)))))⟩

set_option maxHeartbeats 4000000 in
set_option maxRecDepth 100000 in
theorem c_M_layJar (l : Launch) (G : va_G) (cI cB cZ cO : ClassId) (ad : Nat → Nat) (w : Nat → va_E) (x : Int32) (pf65 : w 65 = .inl (cI, 177, .inl (fun _ => 0))) : MV l G (tyq cI cB cZ cO) yX9_layJar cX9_layJar 2 0 0 74 ad w [.ref (ad 65), .int x] (fun w1 => w1 65 = .inl (cI, 177, .inl (upd (upd (fun _ => 0) 37 x) 1 1)) ∧ ∀ k, k ≠ 65 → w1 k = w k) := by
  refine mk_v (own := "NoonShadeModel") rfl (by decide) (Nat.le_of_ble_eq_true rfl) ?_
  intro p e s m below meth c ls X hD hN hr hlk h hl
  have hx := X.1.1
  have hb := X.1.2.1
  have hown := X.1.2.2.2.1
  have hts := X.1.2.2.2.2
  have hl : lv_has ls 2 [(0, .ref (ad 65)), (1, .int x)] := hl
  refine lv_aload_n hx hb dX9_layJar_0 rfl (lv_at hl 0 rfl) ?_
  refine lv_bipush (v := 37) hx hb dX9_layJar_1 (by decide) ?_
  refine lv_aload_n hx hb dX9_layJar_3 rfl (lv_at hl 0 rfl) ?_
  refine lv_iconst (v := 1) hx hb dX9_layJar_4 (by decide) ?_
  refine o_iald (v := 0) X h 65 0 (by decide) rfl pf65 rfl (by unfold vp_in; decide) rfl dX9_layJar_5 ?_
  refine o_iadd (z := 37) hx hb dX9_layJar_6 rfl ?_
  refine lv_iload_n hx hb dX9_layJar_7 rfl (lv_at hl 1 rfl) ?_
  refine o_iast (f1 := upd (fun _ => 0) 37 x) X hD h 65 0 (by decide) rfl pf65 rfl (by unfold vp_in; decide) rfl dX9_layJar_8 (fun H locs w1 e2 h => ?_)
  have f3 : w1 65 = .inl (cI, 177, .inl (upd (fun _ => 0) 37 x)) := (congrFun e2 _).trans (va_up_self _ _ _)
  refine lv_aload_n hx hb dX9_layJar_9 rfl (lv_at hl 0 rfl) ?_
  refine lv_iconst (v := 1) hx hb dX9_layJar_10 (by decide) ?_
  refine lv_dup2_11 hx hb dX9_layJar_11 rfl rfl ?_
  refine o_iald (v := 0) X h 65 0 (by decide) rfl f3 rfl (by unfold vp_in; decide) rfl dX9_layJar_12 ?_
  refine lv_iconst (v := 1) hx hb dX9_layJar_13 (by decide) ?_
  refine o_iadd (z := 1) hx hb dX9_layJar_14 rfl ?_
  refine o_iast (f1 := upd (upd (fun _ => 0) 37 x) 1 1) X hD h 65 0 (by decide) rfl f3 rfl (by unfold vp_in; decide) rfl dX9_layJar_15 (fun H locs w4 e5 h => ?_)
  have f6 : w4 65 = .inl (cI, 177, .inl (upd (upd (fun _ => 0) 37 x) 1 1)) := (congrFun e5 _).trans (va_up_self _ _ _)
  exact e_v X h hr hlk dX9_layJar_16 ⟨f6, fun k h1 => ((congrFun e5 k).trans (va_up_ne _ _ (by omega))).trans ((congrFun e2 k).trans (va_up_ne _ _ (by omega)))⟩

set_option maxHeartbeats 4000000 in
set_option maxRecDepth 100000 in
theorem c_M_lookAt (l : Launch) (G : va_G) (cI cB cZ cO : ClassId) (ad : Nat → Nat) (w : Nat → va_E)  (pf64 : w 64 = .inr (7, [.ref (ad 65), .ref (ad 66), .ref (ad 67), .ref (ad 68), .long 0, .long 1, .ref (ad 69), .int 0, .ref (ad 70), .ref (ad 71), .int 0, .int 0, .int 0, .int 0, .int 0, .ref (ad 72), .ref (ad 73)])) : MV l G (tyq cI cB cZ cO) yX9_lookAt cX9_lookAt 5 0 0 74 ad w [.ref (ad 64), .int 0] (fun w1 => w1 64 = .inr (7, [.ref (ad 65), .ref (ad 66), .ref (ad 67), .ref (ad 68), .long 0, .long 1, .ref (ad 69), .int 0, .ref (ad 70), .ref (ad 71), .int 0, .int 0, .int 0, .int 0, .int 0, .ref (ad 72), .ref (ad 73)]) ∧ ∀ k, k ≠ 64 → w1 k = w k) := by
  refine mk_v (own := "NoonShadeModel") rfl (by decide) (Nat.le_of_ble_eq_true rfl) ?_
  intro p e s m below meth c ls X hD hN hr hlk h hl
  have hx := X.1.1
  have hb := X.1.2.1
  have hown := X.1.2.2.2.1
  have hts := X.1.2.2.2.2
  have hl : lv_has ls 5 [(0, .ref (ad 64)), (1, .int 0)] := hl
  refine lv_aload_n hx hb dX9_lookAt_0 rfl (lv_at hl 0 rfl) ?_
  refine lv_iload_n hx hb dX9_lookAt_1 rfl (lv_at hl 1 rfl) ?_
  refine r_put kc9 X hD h 64 11 (by decide) rfl pf64 (by decide) kw_229 rfl rfl rfl (Nat.le_of_ble_eq_true rfl) dX9_lookAt_2 (fun H locs w1 e2 h => ?_)
  have f3 : w1 64 = .inr (7, [.ref (ad 65), .ref (ad 66), .ref (ad 67), .ref (ad 68), .long 0, .long 1, .ref (ad 69), .int 0, .ref (ad 70), .ref (ad 71), .int 0, .int 0, .int 0, .int 0, .int 0, .ref (ad 72), .ref (ad 73)]) := (congrFun e2 _).trans (va_up_self _ _ _)
  refine lv_aload_n hx hb dX9_lookAt_5 rfl (lv_at hl 0 rfl) ?_
  refine r_get kc9 X h 64 11 (by decide) rfl f3 (by decide) kw_229 rfl dX9_lookAt_6 ?_
  refine lv_aload_n hx hb dX9_lookAt_9 rfl (lv_at hl 0 rfl) ?_
  refine r_get kc9 X h 64 10 (by decide) rfl f3 (by decide) kw_227 rfl dX9_lookAt_10 ?_
  refine lv_icmp_ge (tgt := 43) hx hb dX9_lookAt_13 (by decide) (fun _ => ?_) (fun hc => absurd (by decide) hc)
  refine lv_aload_n hx hb dX9_lookAt_43 rfl (lv_at hl 0 rfl) ?_
  refine lv_iconst (v := 0) hx hb dX9_lookAt_44 (by decide) ?_
  refine r_put kc9 X hD h 64 12 (by decide) rfl f3 (by decide) kw_230 rfl rfl rfl (Nat.le_of_ble_eq_true rfl) dX9_lookAt_45 (fun H locs w4 e5 h => ?_)
  have f6 : w4 64 = .inr (7, [.ref (ad 65), .ref (ad 66), .ref (ad 67), .ref (ad 68), .long 0, .long 1, .ref (ad 69), .int 0, .ref (ad 70), .ref (ad 71), .int 0, .int 0, .int 0, .int 0, .int 0, .ref (ad 72), .ref (ad 73)]) := (congrFun e5 _).trans (va_up_self _ _ _)
  refine lv_aload_n hx hb dX9_lookAt_48 rfl (lv_at hl 0 rfl) ?_
  refine lv_iconst (v := 0) hx hb dX9_lookAt_49 (by decide) ?_
  refine r_put kc9 X hD h 64 13 (by decide) rfl f6 (by decide) kw_231 rfl rfl rfl (Nat.le_of_ble_eq_true rfl) dX9_lookAt_50 (fun H locs w7 e8 h => ?_)
  have f9 : w7 64 = .inr (7, [.ref (ad 65), .ref (ad 66), .ref (ad 67), .ref (ad 68), .long 0, .long 1, .ref (ad 69), .int 0, .ref (ad 70), .ref (ad 71), .int 0, .int 0, .int 0, .int 0, .int 0, .ref (ad 72), .ref (ad 73)]) := (congrFun e8 _).trans (va_up_self _ _ _)
  refine lv_aload_n hx hb dX9_lookAt_53 rfl (lv_at hl 0 rfl) ?_
  refine lv_iconst (v := 0) hx hb dX9_lookAt_54 (by decide) ?_
  refine r_put kc9 X hD h 64 14 (by decide) rfl f9 (by decide) kw_232 rfl rfl rfl (Nat.le_of_ble_eq_true rfl) dX9_lookAt_55 (fun H locs w10 e11 h => ?_)
  have f12 : w10 64 = .inr (7, [.ref (ad 65), .ref (ad 66), .ref (ad 67), .ref (ad 68), .long 0, .long 1, .ref (ad 69), .int 0, .ref (ad 70), .ref (ad 71), .int 0, .int 0, .int 0, .int 0, .int 0, .ref (ad 72), .ref (ad 73)]) := (congrFun e11 _).trans (va_up_self _ _ _)
  refine lv_aload_n hx hb dX9_lookAt_58 rfl (lv_at hl 0 rfl) ?_
  refine r_get kc9 X h 64 11 (by decide) rfl f12 (by decide) kw_229 rfl dX9_lookAt_59 ?_
  refine lv_aload_n hx hb dX9_lookAt_62 rfl (lv_at hl 0 rfl) ?_
  refine r_get kc9 X h 64 10 (by decide) rfl f12 (by decide) kw_227 rfl dX9_lookAt_63 ?_
  refine lv_icmp_ne (tgt := 70) hx hb dX9_lookAt_66 (by decide) (fun hc => absurd (by decide) hc) (fun _ => ?_)
  exact e_v X h hr hlk dX9_lookAt_69 ⟨f12, fun k h1 => ((congrFun e11 k).trans (va_up_ne _ _ (by omega))).trans (((congrFun e8 k).trans (va_up_ne _ _ (by omega))).trans (((congrFun e5 k).trans (va_up_ne _ _ (by omega))).trans ((congrFun e2 k).trans (va_up_ne _ _ (by omega)))))⟩

set_option maxHeartbeats 4000000 in
set_option maxRecDepth 100000 in
theorem c_M_spells (l : Launch) (G : va_G) (cI cB cZ cO : ClassId) (ad : Nat → Nat) (w : Nat → va_E) (a1 a2 a3 a4 a5 a6 : Int32) (pf64 : w 64 = .inr (7, [.ref (ad 65), .ref (ad 66), .ref (ad 67), .ref (ad 68), .long 0, .long 1, .ref (ad 69), .int 0, .ref (ad 70), .ref (ad 71), .int 0, .int 0, .int 0, .int 0, .int 0, .ref (ad 72), .ref (ad 73)])) : MI l G (tyq cI cB cZ cO) yX9_spells cX9_spells 10 (some .boolean) 0 0 74 ad w [.ref (ad 64), .int 6, .int a1, .int a2, .int a3, .int a4, .int a5, .int a6] (fun r w1 => w1 = w ∧ r = 0) := by
  refine mk_i (own := "NoonShadeModel") rfl (by decide) (Nat.le_of_ble_eq_true rfl) ?_
  intro p e s m below meth c ls X hD hN hr hlk h hl
  have hx := X.1.1
  have hb := X.1.2.1
  have hown := X.1.2.2.2.1
  have hts := X.1.2.2.2.2
  have hl : lv_has ls 10 [(0, .ref (ad 64)), (1, .int 6), (2, .int a1), (3, .int a2), (4, .int a3), (5, .int a4), (6, .int a5), (7, .int a6)] := hl
  refine lv_aload_n hx hb dX9_spells_0 rfl (lv_at hl 0 rfl) ?_
  refine r_get kc9 X h 64 13 (by decide) rfl pf64 (by decide) kw_231 rfl dX9_spells_1 ?_
  refine lv_iconst (v := 1) hx hb dX9_spells_4 (by decide) ?_
  refine lv_icmp_ne (tgt := 20) hx hb dX9_spells_5 (by decide) (fun _ => ?_) (fun hc => absurd hc (by decide))
  refine lv_iconst (v := 0) hx hb dX9_spells_20 (by decide) ?_
  refine lv_istore (lv' := [(8, .int 0), (0, .ref (ad 64)), (1, .int 6), (2, .int a1), (3, .int a2), (4, .int a3), (5, .int a4), (6, .int a5), (7, .int a6)]) hx hb dX9_spells_21 hl (by decide) rfl (fun ls hl => ?_)
  refine lv_iconst (v := 0) hx hb dX9_spells_23 (by decide) ?_
  refine lv_istore (lv' := [(9, .int 0), (8, .int 0), (0, .ref (ad 64)), (1, .int 6), (2, .int a1), (3, .int a2), (4, .int a3), (5, .int a4), (6, .int a5), (7, .int a6)]) hx hb dX9_spells_24 hl (by decide) rfl (fun ls hl => ?_)
  refine lv_iload hx hb dX9_spells_26 (lv_at hl 0 rfl) ?_
  refine lv_iload_n hx hb dX9_spells_28 rfl (lv_at hl 3 rfl) ?_
  refine lv_icmp_ge (tgt := 119) hx hb dX9_spells_29 (by decide) (fun hc => absurd hc (by decide)) (fun _ => ?_)
  refine lv_iload hx hb dX9_spells_32 (lv_at hl 1 rfl) ?_
  refine lv_if_eq (tgt := 119) hx hb dX9_spells_34 (by decide) (fun _ => ?_) (fun hc => absurd (by decide) hc)
  refine lv_iload hx hb dX9_spells_119 (lv_at hl 1 rfl) ?_
  exact e_z X h hr hlk rfl dX9_spells_121 ⟨rfl, rfl⟩

set_option maxHeartbeats 4000000 in
set_option maxRecDepth 100000 in
theorem c_M_save (l : Launch) (G : va_G) (cI cB cZ cO : ClassId) (ad : Nat → Nat) (w : Nat → va_E)  (pf64 : w 64 = .inr (7, [.ref (ad 65), .ref (ad 66), .ref (ad 67), .ref (ad 68), .long 0, .long 1, .ref (ad 69), .int 0, .ref (ad 70), .ref (ad 71), .int 0, .int 0, .int 0, .int 0, .int 0, .ref (ad 72), .ref (ad 73)])) (pf65 : w 65 = .inl (cI, 177, .inl (fun _ => 0))) : MV l G (tyq cI cB cZ cO) yX9_save cX9_save 2 0 0 74 ad w [.ref (ad 64)] (fun w1 => w1 65 = .inl (cI, 177, .inl (upd (fun _ => 0) 4 1)) ∧ ∀ k, k ≠ 65 → w1 k = w k) := by
  refine mk_v (own := "NoonShadeModel") rfl (by decide) (Nat.le_of_ble_eq_true rfl) ?_
  intro p e s m below meth c ls X hD hN hr hlk h hl
  have hx := X.1.1
  have hb := X.1.2.1
  have hown := X.1.2.2.2.1
  have hts := X.1.2.2.2.2
  have hl : lv_has ls 2 [(0, .ref (ad 64))] := hl
  refine lv_aload_n hx hb dX9_save_0 rfl (lv_at hl 0 rfl) ?_
  refine r_get kc9 X h 64 0 (by decide) rfl pf64 (by decide) kw_187 rfl dX9_save_1 ?_
  refine lv_iconst (v := 4) hx hb dX9_save_4 (by decide) ?_
  refine o_iald (v := 0) X h 65 0 (by decide) rfl pf65 rfl (by unfold vp_in; decide) rfl dX9_save_5 ?_
  refine lv_bipush (v := 8) hx hb dX9_save_6 (by decide) ?_
  refine lv_icmp_ne (tgt := 51) hx hb dX9_save_8 (by decide) (fun _ => ?_) (fun hc => absurd hc (by decide))
  refine lv_iconst (v := 0) hx hb dX9_save_51 (by decide) ?_
  refine lv_istore_n (lv' := [(1, .int 0), (0, .ref (ad 64))]) hx hb dX9_save_52 rfl hl (by decide) rfl (fun ls hl => ?_)
  refine lv_iload_n hx hb dX9_save_53 rfl (lv_at hl 0 rfl) ?_
  refine lv_bipush (v := 11) hx hb dX9_save_54 (by decide) ?_
  refine lv_icmp_ge (tgt := 92) hx hb dX9_save_56 (by decide) (fun hc => absurd hc (by decide)) (fun _ => ?_)
  refine lv_aload_n hx hb dX9_save_59 rfl (lv_at hl 1 rfl) ?_
  refine r_get kc9 X h 64 0 (by decide) rfl pf64 (by decide) kw_187 rfl dX9_save_60 ?_
  refine lv_bipush (v := 89) hx hb dX9_save_63 (by decide) ?_
  refine lv_bipush (v := 11) hx hb dX9_save_65 (by decide) ?_
  refine lv_aload_n hx hb dX9_save_67 rfl (lv_at hl 1 rfl) ?_
  refine r_get kc9 X h 64 0 (by decide) rfl pf64 (by decide) kw_187 rfl dX9_save_68 ?_
  refine lv_iconst (v := 4) hx hb dX9_save_71 (by decide) ?_
  refine o_iald (v := 0) X h 65 0 (by decide) rfl pf65 rfl (by unfold vp_in; decide) rfl dX9_save_72 ?_
  refine o_imul (z := 0) hx hb dX9_save_73 rfl ?_
  refine o_iadd (z := 89) hx hb dX9_save_74 rfl ?_
  refine lv_iload_n hx hb dX9_save_75 rfl (lv_at hl 0 rfl) ?_
  refine o_iadd (z := 89) hx hb dX9_save_76 rfl ?_
  refine lv_aload_n hx hb dX9_save_77 rfl (lv_at hl 1 rfl) ?_
  refine r_get kc9 X h 64 0 (by decide) rfl pf64 (by decide) kw_187 rfl dX9_save_78 ?_
  refine lv_iconst (v := 5) hx hb dX9_save_81 (by decide) ?_
  refine lv_iload_n hx hb dX9_save_82 rfl (lv_at hl 0 rfl) ?_
  refine o_iadd (z := 5) hx hb dX9_save_83 rfl ?_
  refine o_iald (v := 0) X h 65 0 (by decide) rfl pf65 rfl (by unfold vp_in; decide) rfl dX9_save_84 ?_
  refine o_iast (f1 := fun _ => 0) X hD h 65 0 (by decide) rfl pf65 rfl (by unfold vp_in; decide) (upd0 _) dX9_save_85 (fun H locs w1 e2 h => ?_)
  have f3 : w1 65 = .inl (cI, 177, .inl (fun _ => 0)) := (congrFun e2 _).trans (va_up_self _ _ _)
  refine lv_iinc (v := 1) (lv' := [(1, .int 1), (0, .ref (ad 64))]) hx hb dX9_save_86 hl (k := 0) rfl rfl (by decide) rfl (fun ls hl => ?_)
  refine lv_goto (tgt := 53) hx hb dX9_save_89 (by decide) ?_
  refine lv_iload_n hx hb dX9_save_53 rfl (lv_at hl 0 rfl) ?_
  refine lv_bipush (v := 11) hx hb dX9_save_54 (by decide) ?_
  refine lv_icmp_ge (tgt := 92) hx hb dX9_save_56 (by decide) (fun hc => absurd hc (by decide)) (fun _ => ?_)
  refine lv_aload_n hx hb dX9_save_59 rfl (lv_at hl 1 rfl) ?_
  have f4 : w1 64 = .inr (7, [.ref (ad 65), .ref (ad 66), .ref (ad 67), .ref (ad 68), .long 0, .long 1, .ref (ad 69), .int 0, .ref (ad 70), .ref (ad 71), .int 0, .int 0, .int 0, .int 0, .int 0, .ref (ad 72), .ref (ad 73)]) := by rw [e2, va_up_ne _ _ (by decide)]; exact pf64
  refine r_get kc9 X h 64 0 (by decide) rfl f4 (by decide) kw_187 rfl dX9_save_60 ?_
  refine lv_bipush (v := 89) hx hb dX9_save_63 (by decide) ?_
  refine lv_bipush (v := 11) hx hb dX9_save_65 (by decide) ?_
  refine lv_aload_n hx hb dX9_save_67 rfl (lv_at hl 1 rfl) ?_
  refine r_get kc9 X h 64 0 (by decide) rfl f4 (by decide) kw_187 rfl dX9_save_68 ?_
  refine lv_iconst (v := 4) hx hb dX9_save_71 (by decide) ?_
  refine o_iald (v := 0) X h 65 0 (by decide) rfl f3 rfl (by unfold vp_in; decide) rfl dX9_save_72 ?_
  refine o_imul (z := 0) hx hb dX9_save_73 rfl ?_
  refine o_iadd (z := 89) hx hb dX9_save_74 rfl ?_
  refine lv_iload_n hx hb dX9_save_75 rfl (lv_at hl 0 rfl) ?_
  refine o_iadd (z := 90) hx hb dX9_save_76 rfl ?_
  refine lv_aload_n hx hb dX9_save_77 rfl (lv_at hl 1 rfl) ?_
  refine r_get kc9 X h 64 0 (by decide) rfl f4 (by decide) kw_187 rfl dX9_save_78 ?_
  refine lv_iconst (v := 5) hx hb dX9_save_81 (by decide) ?_
  refine lv_iload_n hx hb dX9_save_82 rfl (lv_at hl 0 rfl) ?_
  refine o_iadd (z := 6) hx hb dX9_save_83 rfl ?_
  refine o_iald (v := 0) X h 65 0 (by decide) rfl f3 rfl (by unfold vp_in; decide) rfl dX9_save_84 ?_
  refine o_iast (f1 := fun _ => 0) X hD h 65 0 (by decide) rfl f3 rfl (by unfold vp_in; decide) (upd0 _) dX9_save_85 (fun H locs w5 e6 h => ?_)
  have f7 : w5 65 = .inl (cI, 177, .inl (fun _ => 0)) := (congrFun e6 _).trans (va_up_self _ _ _)
  refine lv_iinc (v := 2) (lv' := [(1, .int 2), (0, .ref (ad 64))]) hx hb dX9_save_86 hl (k := 0) rfl rfl (by decide) rfl (fun ls hl => ?_)
  refine lv_goto (tgt := 53) hx hb dX9_save_89 (by decide) ?_
  refine lv_iload_n hx hb dX9_save_53 rfl (lv_at hl 0 rfl) ?_
  refine lv_bipush (v := 11) hx hb dX9_save_54 (by decide) ?_
  refine lv_icmp_ge (tgt := 92) hx hb dX9_save_56 (by decide) (fun hc => absurd hc (by decide)) (fun _ => ?_)
  refine lv_aload_n hx hb dX9_save_59 rfl (lv_at hl 1 rfl) ?_
  have f8 : w5 64 = .inr (7, [.ref (ad 65), .ref (ad 66), .ref (ad 67), .ref (ad 68), .long 0, .long 1, .ref (ad 69), .int 0, .ref (ad 70), .ref (ad 71), .int 0, .int 0, .int 0, .int 0, .int 0, .ref (ad 72), .ref (ad 73)]) := by rw [e6, va_up_ne _ _ (by decide)]; exact f4
  refine r_get kc9 X h 64 0 (by decide) rfl f8 (by decide) kw_187 rfl dX9_save_60 ?_
  refine lv_bipush (v := 89) hx hb dX9_save_63 (by decide) ?_
  refine lv_bipush (v := 11) hx hb dX9_save_65 (by decide) ?_
  refine lv_aload_n hx hb dX9_save_67 rfl (lv_at hl 1 rfl) ?_
  refine r_get kc9 X h 64 0 (by decide) rfl f8 (by decide) kw_187 rfl dX9_save_68 ?_
  refine lv_iconst (v := 4) hx hb dX9_save_71 (by decide) ?_
  refine o_iald (v := 0) X h 65 0 (by decide) rfl f7 rfl (by unfold vp_in; decide) rfl dX9_save_72 ?_
  refine o_imul (z := 0) hx hb dX9_save_73 rfl ?_
  refine o_iadd (z := 89) hx hb dX9_save_74 rfl ?_
  refine lv_iload_n hx hb dX9_save_75 rfl (lv_at hl 0 rfl) ?_
  refine o_iadd (z := 91) hx hb dX9_save_76 rfl ?_
  refine lv_aload_n hx hb dX9_save_77 rfl (lv_at hl 1 rfl) ?_
  refine r_get kc9 X h 64 0 (by decide) rfl f8 (by decide) kw_187 rfl dX9_save_78 ?_
  refine lv_iconst (v := 5) hx hb dX9_save_81 (by decide) ?_
  refine lv_iload_n hx hb dX9_save_82 rfl (lv_at hl 0 rfl) ?_
  refine o_iadd (z := 7) hx hb dX9_save_83 rfl ?_
  refine o_iald (v := 0) X h 65 0 (by decide) rfl f7 rfl (by unfold vp_in; decide) rfl dX9_save_84 ?_
  refine o_iast (f1 := fun _ => 0) X hD h 65 0 (by decide) rfl f7 rfl (by unfold vp_in; decide) (upd0 _) dX9_save_85 (fun H locs w9 e10 h => ?_)
  have f11 : w9 65 = .inl (cI, 177, .inl (fun _ => 0)) := (congrFun e10 _).trans (va_up_self _ _ _)
  refine lv_iinc (v := 3) (lv' := [(1, .int 3), (0, .ref (ad 64))]) hx hb dX9_save_86 hl (k := 0) rfl rfl (by decide) rfl (fun ls hl => ?_)
  refine lv_goto (tgt := 53) hx hb dX9_save_89 (by decide) ?_
  refine lv_iload_n hx hb dX9_save_53 rfl (lv_at hl 0 rfl) ?_
  refine lv_bipush (v := 11) hx hb dX9_save_54 (by decide) ?_
  refine lv_icmp_ge (tgt := 92) hx hb dX9_save_56 (by decide) (fun hc => absurd hc (by decide)) (fun _ => ?_)
  refine lv_aload_n hx hb dX9_save_59 rfl (lv_at hl 1 rfl) ?_
  have f12 : w9 64 = .inr (7, [.ref (ad 65), .ref (ad 66), .ref (ad 67), .ref (ad 68), .long 0, .long 1, .ref (ad 69), .int 0, .ref (ad 70), .ref (ad 71), .int 0, .int 0, .int 0, .int 0, .int 0, .ref (ad 72), .ref (ad 73)]) := by rw [e10, va_up_ne _ _ (by decide)]; exact f8
  refine r_get kc9 X h 64 0 (by decide) rfl f12 (by decide) kw_187 rfl dX9_save_60 ?_
  refine lv_bipush (v := 89) hx hb dX9_save_63 (by decide) ?_
  refine lv_bipush (v := 11) hx hb dX9_save_65 (by decide) ?_
  refine lv_aload_n hx hb dX9_save_67 rfl (lv_at hl 1 rfl) ?_
  refine r_get kc9 X h 64 0 (by decide) rfl f12 (by decide) kw_187 rfl dX9_save_68 ?_
  refine lv_iconst (v := 4) hx hb dX9_save_71 (by decide) ?_
  refine o_iald (v := 0) X h 65 0 (by decide) rfl f11 rfl (by unfold vp_in; decide) rfl dX9_save_72 ?_
  refine o_imul (z := 0) hx hb dX9_save_73 rfl ?_
  refine o_iadd (z := 89) hx hb dX9_save_74 rfl ?_
  refine lv_iload_n hx hb dX9_save_75 rfl (lv_at hl 0 rfl) ?_
  refine o_iadd (z := 92) hx hb dX9_save_76 rfl ?_
  refine lv_aload_n hx hb dX9_save_77 rfl (lv_at hl 1 rfl) ?_
  refine r_get kc9 X h 64 0 (by decide) rfl f12 (by decide) kw_187 rfl dX9_save_78 ?_
  refine lv_iconst (v := 5) hx hb dX9_save_81 (by decide) ?_
  refine lv_iload_n hx hb dX9_save_82 rfl (lv_at hl 0 rfl) ?_
  refine o_iadd (z := 8) hx hb dX9_save_83 rfl ?_
  refine o_iald (v := 0) X h 65 0 (by decide) rfl f11 rfl (by unfold vp_in; decide) rfl dX9_save_84 ?_
  refine o_iast (f1 := fun _ => 0) X hD h 65 0 (by decide) rfl f11 rfl (by unfold vp_in; decide) (upd0 _) dX9_save_85 (fun H locs w13 e14 h => ?_)
  have f15 : w13 65 = .inl (cI, 177, .inl (fun _ => 0)) := (congrFun e14 _).trans (va_up_self _ _ _)
  refine lv_iinc (v := 4) (lv' := [(1, .int 4), (0, .ref (ad 64))]) hx hb dX9_save_86 hl (k := 0) rfl rfl (by decide) rfl (fun ls hl => ?_)
  refine lv_goto (tgt := 53) hx hb dX9_save_89 (by decide) ?_
  refine lv_iload_n hx hb dX9_save_53 rfl (lv_at hl 0 rfl) ?_
  refine lv_bipush (v := 11) hx hb dX9_save_54 (by decide) ?_
  refine lv_icmp_ge (tgt := 92) hx hb dX9_save_56 (by decide) (fun hc => absurd hc (by decide)) (fun _ => ?_)
  refine lv_aload_n hx hb dX9_save_59 rfl (lv_at hl 1 rfl) ?_
  have f16 : w13 64 = .inr (7, [.ref (ad 65), .ref (ad 66), .ref (ad 67), .ref (ad 68), .long 0, .long 1, .ref (ad 69), .int 0, .ref (ad 70), .ref (ad 71), .int 0, .int 0, .int 0, .int 0, .int 0, .ref (ad 72), .ref (ad 73)]) := by rw [e14, va_up_ne _ _ (by decide)]; exact f12
  refine r_get kc9 X h 64 0 (by decide) rfl f16 (by decide) kw_187 rfl dX9_save_60 ?_
  refine lv_bipush (v := 89) hx hb dX9_save_63 (by decide) ?_
  refine lv_bipush (v := 11) hx hb dX9_save_65 (by decide) ?_
  refine lv_aload_n hx hb dX9_save_67 rfl (lv_at hl 1 rfl) ?_
  refine r_get kc9 X h 64 0 (by decide) rfl f16 (by decide) kw_187 rfl dX9_save_68 ?_
  refine lv_iconst (v := 4) hx hb dX9_save_71 (by decide) ?_
  refine o_iald (v := 0) X h 65 0 (by decide) rfl f15 rfl (by unfold vp_in; decide) rfl dX9_save_72 ?_
  refine o_imul (z := 0) hx hb dX9_save_73 rfl ?_
  refine o_iadd (z := 89) hx hb dX9_save_74 rfl ?_
  refine lv_iload_n hx hb dX9_save_75 rfl (lv_at hl 0 rfl) ?_
  refine o_iadd (z := 93) hx hb dX9_save_76 rfl ?_
  refine lv_aload_n hx hb dX9_save_77 rfl (lv_at hl 1 rfl) ?_
  refine r_get kc9 X h 64 0 (by decide) rfl f16 (by decide) kw_187 rfl dX9_save_78 ?_
  refine lv_iconst (v := 5) hx hb dX9_save_81 (by decide) ?_
  refine lv_iload_n hx hb dX9_save_82 rfl (lv_at hl 0 rfl) ?_
  refine o_iadd (z := 9) hx hb dX9_save_83 rfl ?_
  refine o_iald (v := 0) X h 65 0 (by decide) rfl f15 rfl (by unfold vp_in; decide) rfl dX9_save_84 ?_
  refine o_iast (f1 := fun _ => 0) X hD h 65 0 (by decide) rfl f15 rfl (by unfold vp_in; decide) (upd0 _) dX9_save_85 (fun H locs w17 e18 h => ?_)
  have f19 : w17 65 = .inl (cI, 177, .inl (fun _ => 0)) := (congrFun e18 _).trans (va_up_self _ _ _)
  refine lv_iinc (v := 5) (lv' := [(1, .int 5), (0, .ref (ad 64))]) hx hb dX9_save_86 hl (k := 0) rfl rfl (by decide) rfl (fun ls hl => ?_)
  refine lv_goto (tgt := 53) hx hb dX9_save_89 (by decide) ?_
  refine lv_iload_n hx hb dX9_save_53 rfl (lv_at hl 0 rfl) ?_
  refine lv_bipush (v := 11) hx hb dX9_save_54 (by decide) ?_
  refine lv_icmp_ge (tgt := 92) hx hb dX9_save_56 (by decide) (fun hc => absurd hc (by decide)) (fun _ => ?_)
  refine lv_aload_n hx hb dX9_save_59 rfl (lv_at hl 1 rfl) ?_
  have f20 : w17 64 = .inr (7, [.ref (ad 65), .ref (ad 66), .ref (ad 67), .ref (ad 68), .long 0, .long 1, .ref (ad 69), .int 0, .ref (ad 70), .ref (ad 71), .int 0, .int 0, .int 0, .int 0, .int 0, .ref (ad 72), .ref (ad 73)]) := by rw [e18, va_up_ne _ _ (by decide)]; exact f16
  refine r_get kc9 X h 64 0 (by decide) rfl f20 (by decide) kw_187 rfl dX9_save_60 ?_
  refine lv_bipush (v := 89) hx hb dX9_save_63 (by decide) ?_
  refine lv_bipush (v := 11) hx hb dX9_save_65 (by decide) ?_
  refine lv_aload_n hx hb dX9_save_67 rfl (lv_at hl 1 rfl) ?_
  refine r_get kc9 X h 64 0 (by decide) rfl f20 (by decide) kw_187 rfl dX9_save_68 ?_
  refine lv_iconst (v := 4) hx hb dX9_save_71 (by decide) ?_
  refine o_iald (v := 0) X h 65 0 (by decide) rfl f19 rfl (by unfold vp_in; decide) rfl dX9_save_72 ?_
  refine o_imul (z := 0) hx hb dX9_save_73 rfl ?_
  refine o_iadd (z := 89) hx hb dX9_save_74 rfl ?_
  refine lv_iload_n hx hb dX9_save_75 rfl (lv_at hl 0 rfl) ?_
  refine o_iadd (z := 94) hx hb dX9_save_76 rfl ?_
  refine lv_aload_n hx hb dX9_save_77 rfl (lv_at hl 1 rfl) ?_
  refine r_get kc9 X h 64 0 (by decide) rfl f20 (by decide) kw_187 rfl dX9_save_78 ?_
  refine lv_iconst (v := 5) hx hb dX9_save_81 (by decide) ?_
  refine lv_iload_n hx hb dX9_save_82 rfl (lv_at hl 0 rfl) ?_
  refine o_iadd (z := 10) hx hb dX9_save_83 rfl ?_
  refine o_iald (v := 0) X h 65 0 (by decide) rfl f19 rfl (by unfold vp_in; decide) rfl dX9_save_84 ?_
  refine o_iast (f1 := fun _ => 0) X hD h 65 0 (by decide) rfl f19 rfl (by unfold vp_in; decide) (upd0 _) dX9_save_85 (fun H locs w21 e22 h => ?_)
  have f23 : w21 65 = .inl (cI, 177, .inl (fun _ => 0)) := (congrFun e22 _).trans (va_up_self _ _ _)
  refine lv_iinc (v := 6) (lv' := [(1, .int 6), (0, .ref (ad 64))]) hx hb dX9_save_86 hl (k := 0) rfl rfl (by decide) rfl (fun ls hl => ?_)
  refine lv_goto (tgt := 53) hx hb dX9_save_89 (by decide) ?_
  refine lv_iload_n hx hb dX9_save_53 rfl (lv_at hl 0 rfl) ?_
  refine lv_bipush (v := 11) hx hb dX9_save_54 (by decide) ?_
  refine lv_icmp_ge (tgt := 92) hx hb dX9_save_56 (by decide) (fun hc => absurd hc (by decide)) (fun _ => ?_)
  refine lv_aload_n hx hb dX9_save_59 rfl (lv_at hl 1 rfl) ?_
  have f24 : w21 64 = .inr (7, [.ref (ad 65), .ref (ad 66), .ref (ad 67), .ref (ad 68), .long 0, .long 1, .ref (ad 69), .int 0, .ref (ad 70), .ref (ad 71), .int 0, .int 0, .int 0, .int 0, .int 0, .ref (ad 72), .ref (ad 73)]) := by rw [e22, va_up_ne _ _ (by decide)]; exact f20
  refine r_get kc9 X h 64 0 (by decide) rfl f24 (by decide) kw_187 rfl dX9_save_60 ?_
  refine lv_bipush (v := 89) hx hb dX9_save_63 (by decide) ?_
  refine lv_bipush (v := 11) hx hb dX9_save_65 (by decide) ?_
  refine lv_aload_n hx hb dX9_save_67 rfl (lv_at hl 1 rfl) ?_
  refine r_get kc9 X h 64 0 (by decide) rfl f24 (by decide) kw_187 rfl dX9_save_68 ?_
  refine lv_iconst (v := 4) hx hb dX9_save_71 (by decide) ?_
  refine o_iald (v := 0) X h 65 0 (by decide) rfl f23 rfl (by unfold vp_in; decide) rfl dX9_save_72 ?_
  refine o_imul (z := 0) hx hb dX9_save_73 rfl ?_
  refine o_iadd (z := 89) hx hb dX9_save_74 rfl ?_
  refine lv_iload_n hx hb dX9_save_75 rfl (lv_at hl 0 rfl) ?_
  refine o_iadd (z := 95) hx hb dX9_save_76 rfl ?_
  refine lv_aload_n hx hb dX9_save_77 rfl (lv_at hl 1 rfl) ?_
  refine r_get kc9 X h 64 0 (by decide) rfl f24 (by decide) kw_187 rfl dX9_save_78 ?_
  refine lv_iconst (v := 5) hx hb dX9_save_81 (by decide) ?_
  refine lv_iload_n hx hb dX9_save_82 rfl (lv_at hl 0 rfl) ?_
  refine o_iadd (z := 11) hx hb dX9_save_83 rfl ?_
  refine o_iald (v := 0) X h 65 0 (by decide) rfl f23 rfl (by unfold vp_in; decide) rfl dX9_save_84 ?_
  refine o_iast (f1 := fun _ => 0) X hD h 65 0 (by decide) rfl f23 rfl (by unfold vp_in; decide) (upd0 _) dX9_save_85 (fun H locs w25 e26 h => ?_)
  have f27 : w25 65 = .inl (cI, 177, .inl (fun _ => 0)) := (congrFun e26 _).trans (va_up_self _ _ _)
  refine lv_iinc (v := 7) (lv' := [(1, .int 7), (0, .ref (ad 64))]) hx hb dX9_save_86 hl (k := 0) rfl rfl (by decide) rfl (fun ls hl => ?_)
  refine lv_goto (tgt := 53) hx hb dX9_save_89 (by decide) ?_
  refine lv_iload_n hx hb dX9_save_53 rfl (lv_at hl 0 rfl) ?_
  refine lv_bipush (v := 11) hx hb dX9_save_54 (by decide) ?_
  refine lv_icmp_ge (tgt := 92) hx hb dX9_save_56 (by decide) (fun hc => absurd hc (by decide)) (fun _ => ?_)
  refine lv_aload_n hx hb dX9_save_59 rfl (lv_at hl 1 rfl) ?_
  have f28 : w25 64 = .inr (7, [.ref (ad 65), .ref (ad 66), .ref (ad 67), .ref (ad 68), .long 0, .long 1, .ref (ad 69), .int 0, .ref (ad 70), .ref (ad 71), .int 0, .int 0, .int 0, .int 0, .int 0, .ref (ad 72), .ref (ad 73)]) := by rw [e26, va_up_ne _ _ (by decide)]; exact f24
  refine r_get kc9 X h 64 0 (by decide) rfl f28 (by decide) kw_187 rfl dX9_save_60 ?_
  refine lv_bipush (v := 89) hx hb dX9_save_63 (by decide) ?_
  refine lv_bipush (v := 11) hx hb dX9_save_65 (by decide) ?_
  refine lv_aload_n hx hb dX9_save_67 rfl (lv_at hl 1 rfl) ?_
  refine r_get kc9 X h 64 0 (by decide) rfl f28 (by decide) kw_187 rfl dX9_save_68 ?_
  refine lv_iconst (v := 4) hx hb dX9_save_71 (by decide) ?_
  refine o_iald (v := 0) X h 65 0 (by decide) rfl f27 rfl (by unfold vp_in; decide) rfl dX9_save_72 ?_
  refine o_imul (z := 0) hx hb dX9_save_73 rfl ?_
  refine o_iadd (z := 89) hx hb dX9_save_74 rfl ?_
  refine lv_iload_n hx hb dX9_save_75 rfl (lv_at hl 0 rfl) ?_
  refine o_iadd (z := 96) hx hb dX9_save_76 rfl ?_
  refine lv_aload_n hx hb dX9_save_77 rfl (lv_at hl 1 rfl) ?_
  refine r_get kc9 X h 64 0 (by decide) rfl f28 (by decide) kw_187 rfl dX9_save_78 ?_
  refine lv_iconst (v := 5) hx hb dX9_save_81 (by decide) ?_
  refine lv_iload_n hx hb dX9_save_82 rfl (lv_at hl 0 rfl) ?_
  refine o_iadd (z := 12) hx hb dX9_save_83 rfl ?_
  refine o_iald (v := 0) X h 65 0 (by decide) rfl f27 rfl (by unfold vp_in; decide) rfl dX9_save_84 ?_
  refine o_iast (f1 := fun _ => 0) X hD h 65 0 (by decide) rfl f27 rfl (by unfold vp_in; decide) (upd0 _) dX9_save_85 (fun H locs w29 e30 h => ?_)
  have f31 : w29 65 = .inl (cI, 177, .inl (fun _ => 0)) := (congrFun e30 _).trans (va_up_self _ _ _)
  refine lv_iinc (v := 8) (lv' := [(1, .int 8), (0, .ref (ad 64))]) hx hb dX9_save_86 hl (k := 0) rfl rfl (by decide) rfl (fun ls hl => ?_)
  refine lv_goto (tgt := 53) hx hb dX9_save_89 (by decide) ?_
  refine lv_iload_n hx hb dX9_save_53 rfl (lv_at hl 0 rfl) ?_
  refine lv_bipush (v := 11) hx hb dX9_save_54 (by decide) ?_
  refine lv_icmp_ge (tgt := 92) hx hb dX9_save_56 (by decide) (fun hc => absurd hc (by decide)) (fun _ => ?_)
  refine lv_aload_n hx hb dX9_save_59 rfl (lv_at hl 1 rfl) ?_
  have f32 : w29 64 = .inr (7, [.ref (ad 65), .ref (ad 66), .ref (ad 67), .ref (ad 68), .long 0, .long 1, .ref (ad 69), .int 0, .ref (ad 70), .ref (ad 71), .int 0, .int 0, .int 0, .int 0, .int 0, .ref (ad 72), .ref (ad 73)]) := by rw [e30, va_up_ne _ _ (by decide)]; exact f28
  refine r_get kc9 X h 64 0 (by decide) rfl f32 (by decide) kw_187 rfl dX9_save_60 ?_
  refine lv_bipush (v := 89) hx hb dX9_save_63 (by decide) ?_
  refine lv_bipush (v := 11) hx hb dX9_save_65 (by decide) ?_
  refine lv_aload_n hx hb dX9_save_67 rfl (lv_at hl 1 rfl) ?_
  refine r_get kc9 X h 64 0 (by decide) rfl f32 (by decide) kw_187 rfl dX9_save_68 ?_
  refine lv_iconst (v := 4) hx hb dX9_save_71 (by decide) ?_
  refine o_iald (v := 0) X h 65 0 (by decide) rfl f31 rfl (by unfold vp_in; decide) rfl dX9_save_72 ?_
  refine o_imul (z := 0) hx hb dX9_save_73 rfl ?_
  refine o_iadd (z := 89) hx hb dX9_save_74 rfl ?_
  refine lv_iload_n hx hb dX9_save_75 rfl (lv_at hl 0 rfl) ?_
  refine o_iadd (z := 97) hx hb dX9_save_76 rfl ?_
  refine lv_aload_n hx hb dX9_save_77 rfl (lv_at hl 1 rfl) ?_
  refine r_get kc9 X h 64 0 (by decide) rfl f32 (by decide) kw_187 rfl dX9_save_78 ?_
  refine lv_iconst (v := 5) hx hb dX9_save_81 (by decide) ?_
  refine lv_iload_n hx hb dX9_save_82 rfl (lv_at hl 0 rfl) ?_
  refine o_iadd (z := 13) hx hb dX9_save_83 rfl ?_
  refine o_iald (v := 0) X h 65 0 (by decide) rfl f31 rfl (by unfold vp_in; decide) rfl dX9_save_84 ?_
  refine o_iast (f1 := fun _ => 0) X hD h 65 0 (by decide) rfl f31 rfl (by unfold vp_in; decide) (upd0 _) dX9_save_85 (fun H locs w33 e34 h => ?_)
  have f35 : w33 65 = .inl (cI, 177, .inl (fun _ => 0)) := (congrFun e34 _).trans (va_up_self _ _ _)
  refine lv_iinc (v := 9) (lv' := [(1, .int 9), (0, .ref (ad 64))]) hx hb dX9_save_86 hl (k := 0) rfl rfl (by decide) rfl (fun ls hl => ?_)
  refine lv_goto (tgt := 53) hx hb dX9_save_89 (by decide) ?_
  refine lv_iload_n hx hb dX9_save_53 rfl (lv_at hl 0 rfl) ?_
  refine lv_bipush (v := 11) hx hb dX9_save_54 (by decide) ?_
  refine lv_icmp_ge (tgt := 92) hx hb dX9_save_56 (by decide) (fun hc => absurd hc (by decide)) (fun _ => ?_)
  refine lv_aload_n hx hb dX9_save_59 rfl (lv_at hl 1 rfl) ?_
  have f36 : w33 64 = .inr (7, [.ref (ad 65), .ref (ad 66), .ref (ad 67), .ref (ad 68), .long 0, .long 1, .ref (ad 69), .int 0, .ref (ad 70), .ref (ad 71), .int 0, .int 0, .int 0, .int 0, .int 0, .ref (ad 72), .ref (ad 73)]) := by rw [e34, va_up_ne _ _ (by decide)]; exact f32
  refine r_get kc9 X h 64 0 (by decide) rfl f36 (by decide) kw_187 rfl dX9_save_60 ?_
  refine lv_bipush (v := 89) hx hb dX9_save_63 (by decide) ?_
  refine lv_bipush (v := 11) hx hb dX9_save_65 (by decide) ?_
  refine lv_aload_n hx hb dX9_save_67 rfl (lv_at hl 1 rfl) ?_
  refine r_get kc9 X h 64 0 (by decide) rfl f36 (by decide) kw_187 rfl dX9_save_68 ?_
  refine lv_iconst (v := 4) hx hb dX9_save_71 (by decide) ?_
  refine o_iald (v := 0) X h 65 0 (by decide) rfl f35 rfl (by unfold vp_in; decide) rfl dX9_save_72 ?_
  refine o_imul (z := 0) hx hb dX9_save_73 rfl ?_
  refine o_iadd (z := 89) hx hb dX9_save_74 rfl ?_
  refine lv_iload_n hx hb dX9_save_75 rfl (lv_at hl 0 rfl) ?_
  refine o_iadd (z := 98) hx hb dX9_save_76 rfl ?_
  refine lv_aload_n hx hb dX9_save_77 rfl (lv_at hl 1 rfl) ?_
  refine r_get kc9 X h 64 0 (by decide) rfl f36 (by decide) kw_187 rfl dX9_save_78 ?_
  refine lv_iconst (v := 5) hx hb dX9_save_81 (by decide) ?_
  refine lv_iload_n hx hb dX9_save_82 rfl (lv_at hl 0 rfl) ?_
  refine o_iadd (z := 14) hx hb dX9_save_83 rfl ?_
  refine o_iald (v := 0) X h 65 0 (by decide) rfl f35 rfl (by unfold vp_in; decide) rfl dX9_save_84 ?_
  refine o_iast (f1 := fun _ => 0) X hD h 65 0 (by decide) rfl f35 rfl (by unfold vp_in; decide) (upd0 _) dX9_save_85 (fun H locs w37 e38 h => ?_)
  have f39 : w37 65 = .inl (cI, 177, .inl (fun _ => 0)) := (congrFun e38 _).trans (va_up_self _ _ _)
  refine lv_iinc (v := 10) (lv' := [(1, .int 10), (0, .ref (ad 64))]) hx hb dX9_save_86 hl (k := 0) rfl rfl (by decide) rfl (fun ls hl => ?_)
  refine lv_goto (tgt := 53) hx hb dX9_save_89 (by decide) ?_
  refine lv_iload_n hx hb dX9_save_53 rfl (lv_at hl 0 rfl) ?_
  refine lv_bipush (v := 11) hx hb dX9_save_54 (by decide) ?_
  refine lv_icmp_ge (tgt := 92) hx hb dX9_save_56 (by decide) (fun hc => absurd hc (by decide)) (fun _ => ?_)
  refine lv_aload_n hx hb dX9_save_59 rfl (lv_at hl 1 rfl) ?_
  have f40 : w37 64 = .inr (7, [.ref (ad 65), .ref (ad 66), .ref (ad 67), .ref (ad 68), .long 0, .long 1, .ref (ad 69), .int 0, .ref (ad 70), .ref (ad 71), .int 0, .int 0, .int 0, .int 0, .int 0, .ref (ad 72), .ref (ad 73)]) := by rw [e38, va_up_ne _ _ (by decide)]; exact f36
  refine r_get kc9 X h 64 0 (by decide) rfl f40 (by decide) kw_187 rfl dX9_save_60 ?_
  refine lv_bipush (v := 89) hx hb dX9_save_63 (by decide) ?_
  refine lv_bipush (v := 11) hx hb dX9_save_65 (by decide) ?_
  refine lv_aload_n hx hb dX9_save_67 rfl (lv_at hl 1 rfl) ?_
  refine r_get kc9 X h 64 0 (by decide) rfl f40 (by decide) kw_187 rfl dX9_save_68 ?_
  refine lv_iconst (v := 4) hx hb dX9_save_71 (by decide) ?_
  refine o_iald (v := 0) X h 65 0 (by decide) rfl f39 rfl (by unfold vp_in; decide) rfl dX9_save_72 ?_
  refine o_imul (z := 0) hx hb dX9_save_73 rfl ?_
  refine o_iadd (z := 89) hx hb dX9_save_74 rfl ?_
  refine lv_iload_n hx hb dX9_save_75 rfl (lv_at hl 0 rfl) ?_
  refine o_iadd (z := 99) hx hb dX9_save_76 rfl ?_
  refine lv_aload_n hx hb dX9_save_77 rfl (lv_at hl 1 rfl) ?_
  refine r_get kc9 X h 64 0 (by decide) rfl f40 (by decide) kw_187 rfl dX9_save_78 ?_
  refine lv_iconst (v := 5) hx hb dX9_save_81 (by decide) ?_
  refine lv_iload_n hx hb dX9_save_82 rfl (lv_at hl 0 rfl) ?_
  refine o_iadd (z := 15) hx hb dX9_save_83 rfl ?_
  refine o_iald (v := 0) X h 65 0 (by decide) rfl f39 rfl (by unfold vp_in; decide) rfl dX9_save_84 ?_
  refine o_iast (f1 := fun _ => 0) X hD h 65 0 (by decide) rfl f39 rfl (by unfold vp_in; decide) (upd0 _) dX9_save_85 (fun H locs w41 e42 h => ?_)
  have f43 : w41 65 = .inl (cI, 177, .inl (fun _ => 0)) := (congrFun e42 _).trans (va_up_self _ _ _)
  refine lv_iinc (v := 11) (lv' := [(1, .int 11), (0, .ref (ad 64))]) hx hb dX9_save_86 hl (k := 0) rfl rfl (by decide) rfl (fun ls hl => ?_)
  refine lv_goto (tgt := 53) hx hb dX9_save_89 (by decide) ?_
  refine lv_iload_n hx hb dX9_save_53 rfl (lv_at hl 0 rfl) ?_
  refine lv_bipush (v := 11) hx hb dX9_save_54 (by decide) ?_
  refine lv_icmp_ge (tgt := 92) hx hb dX9_save_56 (by decide) (fun _ => ?_) (fun hc => absurd (by decide) hc)
  refine lv_aload_n hx hb dX9_save_92 rfl (lv_at hl 1 rfl) ?_
  have f44 : w41 64 = .inr (7, [.ref (ad 65), .ref (ad 66), .ref (ad 67), .ref (ad 68), .long 0, .long 1, .ref (ad 69), .int 0, .ref (ad 70), .ref (ad 71), .int 0, .int 0, .int 0, .int 0, .int 0, .ref (ad 72), .ref (ad 73)]) := by rw [e42, va_up_ne _ _ (by decide)]; exact f40
  refine r_get kc9 X h 64 0 (by decide) rfl f44 (by decide) kw_187 rfl dX9_save_93 ?_
  refine lv_iconst (v := 4) hx hb dX9_save_96 (by decide) ?_
  refine lv_dup2_11 hx hb dX9_save_97 rfl rfl ?_
  refine o_iald (v := 0) X h 65 0 (by decide) rfl f43 rfl (by unfold vp_in; decide) rfl dX9_save_98 ?_
  refine lv_iconst (v := 1) hx hb dX9_save_99 (by decide) ?_
  refine o_iadd (z := 1) hx hb dX9_save_100 rfl ?_
  refine o_iast (f1 := upd (fun _ => 0) 4 1) X hD h 65 0 (by decide) rfl f43 rfl (by unfold vp_in; decide) rfl dX9_save_101 (fun H locs w45 e46 h => ?_)
  have f47 : w45 65 = .inl (cI, 177, .inl (upd (fun _ => 0) 4 1)) := (congrFun e46 _).trans (va_up_self _ _ _)
  exact e_v X h hr hlk dX9_save_102 ⟨f47, fun k h1 => ((congrFun e46 k).trans (va_up_ne _ _ (by omega))).trans (((congrFun e42 k).trans (va_up_ne _ _ (by omega))).trans (((congrFun e38 k).trans (va_up_ne _ _ (by omega))).trans (((congrFun e34 k).trans (va_up_ne _ _ (by omega))).trans (((congrFun e30 k).trans (va_up_ne _ _ (by omega))).trans (((congrFun e26 k).trans (va_up_ne _ _ (by omega))).trans (((congrFun e22 k).trans (va_up_ne _ _ (by omega))).trans (((congrFun e18 k).trans (va_up_ne _ _ (by omega))).trans (((congrFun e14 k).trans (va_up_ne _ _ (by omega))).trans (((congrFun e10 k).trans (va_up_ne _ _ (by omega))).trans (((congrFun e6 k).trans (va_up_ne _ _ (by omega))).trans ((congrFun e2 k).trans (va_up_ne _ _ (by omega)))))))))))))⟩

set_option maxHeartbeats 4000000 in
set_option maxRecDepth 100000 in
theorem c_M_goHour65 (l : Launch) (G : va_G) (cI cB cZ cO : ClassId) (ad : Nat → Nat) (w : Nat → va_E) (a q : Int32) (pf65 : w 65 = .inl (cI, 177, .inl (hz a q))) : MV l G (tyq cI cB cZ cO) yX9_goHour cX9_goHour 2 0 0 74 ad w [.ref (ad 65)] (fun w1 => w1 65 = .inl (cI, 177, .inl (hz a (q + 1))) ∧ ∀ k, k ≠ 65 → w1 k = w k) := by
  refine mk_v (own := "NoonShadeModel") rfl (by decide) (Nat.le_of_ble_eq_true rfl) ?_
  intro p e s m below meth c ls X hD hN hr hlk h hl
  have hx := X.1.1
  have hb := X.1.2.1
  have hown := X.1.2.2.2.1
  have hts := X.1.2.2.2.2
  have hl : lv_has ls 2 [(0, .ref (ad 65))] := hl
  refine lv_iconst (v := 0) hx hb dX9_goHour_0 (by decide) ?_
  refine lv_istore_n (lv' := [(1, .int 0), (0, .ref (ad 65))]) hx hb dX9_goHour_1 rfl hl (by decide) rfl (fun ls hl => ?_)
  refine lv_iload_n hx hb dX9_goHour_2 rfl (lv_at hl 0 rfl) ?_
  refine lv_aload_n hx hb dX9_goHour_3 rfl (lv_at hl 1 rfl) ?_
  refine lv_iconst (v := 1) hx hb dX9_goHour_4 (by decide) ?_
  refine o_iald (v := 0) X h 65 0 (by decide) rfl pf65 rfl (by unfold vp_in; decide) rfl dX9_goHour_5 ?_
  refine lv_icmp_ge (tgt := 29) hx hb dX9_goHour_6 (by decide) (fun _ => ?_) (fun hc => absurd (by decide) hc)
  refine lv_aload_n hx hb dX9_goHour_29 rfl (lv_at hl 1 rfl) ?_
  refine lv_iconst (v := 5) hx hb dX9_goHour_30 (by decide) ?_
  refine lv_dup2_11 hx hb dX9_goHour_31 rfl rfl ?_
  refine o_iald (v := q) X h 65 0 (by decide) rfl pf65 rfl (by unfold vp_in; decide) rfl dX9_goHour_32 ?_
  refine lv_iconst (v := 1) hx hb dX9_goHour_33 (by decide) ?_
  refine o_iadd (z := q + 1) hx hb dX9_goHour_34 rfl ?_
  refine o_iast (f1 := hz a (q + 1)) X hD h 65 0 (by decide) rfl pf65 rfl (by unfold vp_in; decide) (hz5 _ _ _) dX9_goHour_35 (fun H locs w1 e2 h => ?_)
  have f3 : w1 65 = .inl (cI, 177, .inl (hz a (q + 1))) := (congrFun e2 _).trans (va_up_self _ _ _)
  refine lv_aload_n hx hb dX9_goHour_36 rfl (lv_at hl 1 rfl) ?_
  refine lv_bipush (v := 7) hx hb dX9_goHour_37 (by decide) ?_
  refine lv_iconst (v := 0) hx hb dX9_goHour_39 (by decide) ?_
  refine o_iast (f1 := hz a (q + 1)) X hD h 65 0 (by decide) rfl f3 rfl (by unfold vp_in; decide) (hz7 _ _) dX9_goHour_40 (fun H locs w4 e5 h => ?_)
  have f6 : w4 65 = .inl (cI, 177, .inl (hz a (q + 1))) := (congrFun e5 _).trans (va_up_self _ _ _)
  exact e_v X h hr hlk dX9_goHour_41 ⟨f6, fun k h1 => ((congrFun e5 k).trans (va_up_ne _ _ (by omega))).trans ((congrFun e2 k).trans (va_up_ne _ _ (by omega)))⟩

set_option maxHeartbeats 4000000 in
set_option maxRecDepth 100000 in
theorem c_M_goHour69 (l : Launch) (G : va_G) (cI cB cZ cO : ClassId) (ad : Nat → Nat) (w : Nat → va_E) (a q : Int32) (pf69 : w 69 = .inl (cI, 41, .inl (hz a q))) : MV l G (tyq cI cB cZ cO) yX9_goHour cX9_goHour 2 0 0 74 ad w [.ref (ad 69)] (fun w1 => w1 69 = .inl (cI, 41, .inl (hz a (q + 1))) ∧ ∀ k, k ≠ 69 → w1 k = w k) := by
  refine mk_v (own := "NoonShadeModel") rfl (by decide) (Nat.le_of_ble_eq_true rfl) ?_
  intro p e s m below meth c ls X hD hN hr hlk h hl
  have hx := X.1.1
  have hb := X.1.2.1
  have hown := X.1.2.2.2.1
  have hts := X.1.2.2.2.2
  have hl : lv_has ls 2 [(0, .ref (ad 69))] := hl
  refine lv_iconst (v := 0) hx hb dX9_goHour_0 (by decide) ?_
  refine lv_istore_n (lv' := [(1, .int 0), (0, .ref (ad 69))]) hx hb dX9_goHour_1 rfl hl (by decide) rfl (fun ls hl => ?_)
  refine lv_iload_n hx hb dX9_goHour_2 rfl (lv_at hl 0 rfl) ?_
  refine lv_aload_n hx hb dX9_goHour_3 rfl (lv_at hl 1 rfl) ?_
  refine lv_iconst (v := 1) hx hb dX9_goHour_4 (by decide) ?_
  refine o_iald (v := 0) X h 69 0 (by decide) rfl pf69 rfl (by unfold vp_in; decide) rfl dX9_goHour_5 ?_
  refine lv_icmp_ge (tgt := 29) hx hb dX9_goHour_6 (by decide) (fun _ => ?_) (fun hc => absurd (by decide) hc)
  refine lv_aload_n hx hb dX9_goHour_29 rfl (lv_at hl 1 rfl) ?_
  refine lv_iconst (v := 5) hx hb dX9_goHour_30 (by decide) ?_
  refine lv_dup2_11 hx hb dX9_goHour_31 rfl rfl ?_
  refine o_iald (v := q) X h 69 0 (by decide) rfl pf69 rfl (by unfold vp_in; decide) rfl dX9_goHour_32 ?_
  refine lv_iconst (v := 1) hx hb dX9_goHour_33 (by decide) ?_
  refine o_iadd (z := q + 1) hx hb dX9_goHour_34 rfl ?_
  refine o_iast (f1 := hz a (q + 1)) X hD h 69 0 (by decide) rfl pf69 rfl (by unfold vp_in; decide) (hz5 _ _ _) dX9_goHour_35 (fun H locs w1 e2 h => ?_)
  have f3 : w1 69 = .inl (cI, 41, .inl (hz a (q + 1))) := (congrFun e2 _).trans (va_up_self _ _ _)
  refine lv_aload_n hx hb dX9_goHour_36 rfl (lv_at hl 1 rfl) ?_
  refine lv_bipush (v := 7) hx hb dX9_goHour_37 (by decide) ?_
  refine lv_iconst (v := 0) hx hb dX9_goHour_39 (by decide) ?_
  refine o_iast (f1 := hz a (q + 1)) X hD h 69 0 (by decide) rfl f3 rfl (by unfold vp_in; decide) (hz7 _ _) dX9_goHour_40 (fun H locs w4 e5 h => ?_)
  have f6 : w4 69 = .inl (cI, 41, .inl (hz a (q + 1))) := (congrFun e5 _).trans (va_up_self _ _ _)
  exact e_v X h hr hlk dX9_goHour_41 ⟨f6, fun k h1 => ((congrFun e5 k).trans (va_up_ne _ _ (by omega))).trans ((congrFun e2 k).trans (va_up_ne _ _ (by omega)))⟩

set_option maxHeartbeats 4000000 in
set_option maxRecDepth 100000 in
theorem c_M_goHours (l : Launch) (G : va_G) (cI cB cZ cO : ClassId) (ad : Nat → Nat) (w : Nat → va_E) (n : Int32) (hn0 : 0 ≤ n.toInt) (hn1 : n.toInt ≤ 60) (pf65 : w 65 = .inl (cI, 177, .inl (hz 1 0))) : MV l G (tyq cI cB cZ cO) yX9_goHours cX9_goHours 3 1 21 74 ad w [.ref (ad 65), .int n] (fun w1 => w1 65 = .inl (cI, 177, .inl (hz 1 n)) ∧ ∀ k, k ≠ 65 → w1 k = w k) := by
  refine mk_v (own := "NoonShadeModel") rfl (by decide) (Nat.le_of_ble_eq_true rfl) ?_
  intro p e s m below meth c ls X hD hN hr hlk h hl
  have hx := X.1.1
  have hb := X.1.2.1
  have hown := X.1.2.2.2.1
  have hts := X.1.2.2.2.2
  have hl : lv_has ls 3 [(0, .ref (ad 65)), (1, .int n)] := hl
  refine lv_iconst (v := 0) hx hb dX9_goHours_0 (by decide) ?_
  refine lv_istore_n (lv' := [(2, .int 0), (0, .ref (ad 65)), (1, .int n)]) hx hb dX9_goHours_1 rfl hl (by decide) rfl (fun ls hl => ?_)
  have hloop1 : ∀ (d : Nat) (k : Int32) (wL : Nat → va_E) (H : Heap) (locs : List Loc) (ls : Array Slot), 0 ≤ k.toInt → k.toInt ≤ n.toInt → wL 65 = .inl (cI, 177, .inl (hz 1 k)) → (∀ k, k ≠ 65 → wL k = w k) → n.toInt - k.toInt < (d : Int) → St G 74 ad (wA 74 ad s.heap.size) s.heap wL H locs → lv_has ls 3 [(0, .ref (ad 65)), (1, .int n), (2, .int k)] → W p l e { frames := 1, cells := 0, slots := 0, locals := 21 } s m [.ref (ad 65), .int n].toArray below meth c H locs 0 0 (MQ below (va_Qv (fun w1 => w1 65 = .inl (cI, 177, .inl (hz 1 n)) ∧ ∀ k, k ≠ 65 → w1 k = w k) (Aft G 74 ad) (wA 74 ad s.heap.size)) [.ref (ad 65), .int n].toArray s 0 0 (wA 74 ad s.heap.size)) (F0 m 2 ls []) := by
    intro d
    induction d with
    | zero => intro k wL H locs ls hk0 hk1 g65 hfr hm h hl; exfalso; omega
    | succ d ih =>
      intro k wL H locs ls hk0 hk1 g65 hfr hm h hl
      refine lv_iload_n hx hb dX9_goHours_2 rfl (lv_at hl 2 rfl) ?_
      refine lv_iload_n hx hb dX9_goHours_3 rfl (lv_at hl 1 rfl) ?_
      refine lv_icmp_ge (tgt := 26) hx hb dX9_goHours_4 (by decide) (fun hc2 => ?_) (fun hc2 => ?_)
      · have hc2 : (n).toInt ≤ (k).toInt := i_le hc2 rfl rfl
        have hkn : k = n := (fa_eq _ _).mpr (by omega)
        exact e_v X h hr hlk dX9_goHours_26 ⟨by rw [← hkn]; exact g65, fun k h1 => hfr k (by omega)⟩
      · have hc2 : ¬ (n).toInt ≤ (k).toInt := i_nle hc2 rfl rfl
        refine lv_aload_n hx hb dX9_goHours_7 rfl (lv_at hl 0 rfl) ?_
        refine lv_iconst (v := 5) hx hb dX9_goHours_8 (by decide) ?_
        refine o_iald (v := k) X h 65 0 (by decide) rfl g65 rfl (by unfold vp_in; decide) rfl dX9_goHours_9 ?_
        refine lv_sipush (v := 9999) hx hb dX9_goHours_10 (by decide) ?_
        refine lv_icmp_ge (tgt := 26) hx hb dX9_goHours_13 (by decide) (fun hc3 => ?_) (fun hc3 => ?_)
        · have hc3 : 9999 ≤ (k).toInt := i_le hc3 rfl rfl
          exfalso; omega
        · have hc3 : ¬ 9999 ≤ (k).toInt := i_nle hc3 rfl rfl
          refine lv_aload_n hx hb dX9_goHours_16 rfl (lv_at hl 0 rfl) ?_
          refine q_Sv (na := 1) (As := [.ref (ad 65)]) (rest := []) X hD hN h (c_M_goHour65 l G cI cB cZ cO ad wL _ _ g65) ⟨kw_245, kw_246, kw_190, kw_247⟩ ⟨by decide, by decide, by decide⟩ ⟨Nat.le_of_ble_eq_true rfl, Nat.le_of_ble_eq_true rfl⟩ ⟨Nat.zero_le _, Nat.zero_le _⟩ rfl hl.1 rfl (Nat.le_of_ble_eq_true rfl) dX9_goHours_17 (fun w5 H locs hp6 h => ?_)
          obtain ⟨f7, hf8⟩ := hp6
          refine lv_iinc (v := k + 1) (lv' := [(2, .int (k + 1)), (0, .ref (ad 65)), (1, .int n)]) hx hb dX9_goHours_20 hl (k := 2) rfl rfl (by decide) rfl (fun ls hl => ?_)
          refine lv_goto (tgt := 2) hx hb dX9_goHours_23 (by decide) ?_
          have hi : (k + 1).toInt = k.toInt + 1 := inc1 (by omega) (by omega)
          exact ih (k + 1) w5 _ _ _ (by omega) (by omega) f7 (fun k h0 => (hf8 k (by omega)).trans (hfr k (by omega))) (by omega) h (lv_sub hl [1, 2, 0] rfl)
  exact hloop1 61 0 w _ _ _ (by decide) (by have : (0 : Int32).toInt = 0 := rfl; omega) pf65 (fun k _ => rfl) (by have : (0 : Int32).toInt = 0 := rfl; omega) h (lv_sub hl [1, 2, 0] rfl)

set_option maxHeartbeats 4000000 in
set_option maxRecDepth 100000 in
theorem c_M_mayName (l : Launch) (G : va_G) (cI cB cZ cO : ClassId) (ad : Nat → Nat) (w : Nat → va_E) (i : Int32) (pf64 : w 64 = .inr (7, [.ref (ad 65), .ref (ad 66), .ref (ad 67), .ref (ad 68), .long 0, .long 1, .ref (ad 69), .int 0, .ref (ad 70), .ref (ad 71), .int 0, .int 0, .int 0, .int 0, .int 0, .ref (ad 72), .ref (ad 73)])) (pf65 : w 65 = .inl (cI, 177, .inl (fun _ => 0))) : MI l G (tyq cI cB cZ cO) yX9_mayName cX9_mayName 2 (some .boolean) 2 46 74 ad w [.ref (ad 64), .int i] (fun r w1 => w1 = w ∧ r = 0) := by
  refine mk_i (own := "NoonShadeModel") rfl (by decide) (Nat.le_of_ble_eq_true rfl) ?_
  intro p e s m below meth c ls X hD hN hr hlk h hl
  have hx := X.1.1
  have hb := X.1.2.1
  have hown := X.1.2.2.2.1
  have hts := X.1.2.2.2.2
  have hl : lv_has ls 2 [(0, .ref (ad 64)), (1, .int i)] := hl
  refine lv_aload_n hx hb dX9_mayName_0 rfl (lv_at hl 0 rfl) ?_
  refine lv_iload_n hx hb dX9_mayName_1 rfl (lv_at hl 1 rfl) ?_
  refine q_Vi (na := 1) (As := [.int i]) (rest := []) X hD hN h rfl (c_M_isCaster l G cI cB cZ cO ad w i pf64 pf65) ⟨kw_195, kw_196, kw_197, kw_190, kw_198⟩ rfl ⟨by decide, by decide, by decide⟩ ⟨Nat.le_of_ble_eq_true rfl, Nat.le_of_ble_eq_true rfl⟩ ⟨Nat.zero_le _, Nat.zero_le _⟩ (by decide) pf64 rfl rfl hl.1 rfl (Nat.le_of_ble_eq_true rfl) dX9_mayName_2 (fun r1 w2 H locs hp3 h => ?_)
  obtain ⟨e4, rfl⟩ := hp3
  refine lv_if_eq (tgt := 26) hx hb dX9_mayName_5 (by decide) (fun _ => ?_) (fun hc => absurd (by decide) hc)
  refine lv_iconst (v := 0) hx hb dX9_mayName_26 (by decide) ?_
  exact e_z X h hr hlk rfl dX9_mayName_27 ⟨funext fun k => congrFun e4 k, rfl⟩

set_option maxHeartbeats 4000000 in
set_option maxRecDepth 100000 in
theorem c_M_coolOf65 (l : Launch) (G : va_G) (cI cB cZ cO : ClassId) (ad : Nat → Nat) (w : Nat → va_E) (pf65 : w 65 = .inl (cI, 177, .inl (fun _ => 0))) : MI l G (tyq cI cB cZ cO) yX9_coolOf cX9_coolOf 3 (some .int) 0 0 74 ad w [.ref (ad 65)] (fun r w1 => w1 = w ∧ r = 0) := by
  refine mk_i (own := "NoonShadeModel") rfl (by decide) (Nat.le_of_ble_eq_true rfl) ?_
  intro p e s m below meth c ls X hD hN hr hlk h hl
  have hx := X.1.1
  have hb := X.1.2.1
  have hown := X.1.2.2.2.1
  have hts := X.1.2.2.2.2
  have hl : lv_has ls 3 [(0, .ref (ad 65))] := hl
  refine lv_iconst (v := 0) hx hb dX9_coolOf_0 (by decide) ?_
  refine lv_istore_n (lv' := [(1, .int 0), (0, .ref (ad 65))]) hx hb dX9_coolOf_1 rfl hl (by decide) rfl (fun ls hl => ?_)
  refine lv_iconst (v := 0) hx hb dX9_coolOf_2 (by decide) ?_
  refine lv_istore_n (lv' := [(2, .int 0), (1, .int 0), (0, .ref (ad 65))]) hx hb dX9_coolOf_3 rfl hl (by decide) rfl (fun ls hl => ?_)
  refine lv_iload_n hx hb dX9_coolOf_4 rfl (lv_at hl 0 rfl) ?_
  refine lv_aload_n hx hb dX9_coolOf_5 rfl (lv_at hl 2 rfl) ?_
  refine lv_iconst (v := 1) hx hb dX9_coolOf_6 (by decide) ?_
  refine o_iald (v := 0) X h 65 0 (by decide) rfl pf65 rfl (by unfold vp_in; decide) rfl dX9_coolOf_7 ?_
  refine lv_icmp_ge (tgt := 26) hx hb dX9_coolOf_8 (by decide) (fun _ => ?_) (fun hc => absurd (by decide) hc)
  refine lv_iload_n hx hb dX9_coolOf_26 rfl (lv_at hl 1 rfl) ?_
  exact e_i X h hr hlk dX9_coolOf_27 ⟨rfl, rfl⟩

set_option maxHeartbeats 4000000 in
set_option maxRecDepth 100000 in
theorem c_M_coolOf69 (l : Launch) (G : va_G) (cI cB cZ cO : ClassId) (ad : Nat → Nat) (w : Nat → va_E) (q : Int32) (pf69 : w 69 = .inl (cI, 41, .inl (hz 0 q))) : MI l G (tyq cI cB cZ cO) yX9_coolOf cX9_coolOf 3 (some .int) 0 0 74 ad w [.ref (ad 69)] (fun r w1 => w1 = w ∧ r = 0) := by
  refine mk_i (own := "NoonShadeModel") rfl (by decide) (Nat.le_of_ble_eq_true rfl) ?_
  intro p e s m below meth c ls X hD hN hr hlk h hl
  have hx := X.1.1
  have hb := X.1.2.1
  have hown := X.1.2.2.2.1
  have hts := X.1.2.2.2.2
  have hl : lv_has ls 3 [(0, .ref (ad 69))] := hl
  refine lv_iconst (v := 0) hx hb dX9_coolOf_0 (by decide) ?_
  refine lv_istore_n (lv' := [(1, .int 0), (0, .ref (ad 69))]) hx hb dX9_coolOf_1 rfl hl (by decide) rfl (fun ls hl => ?_)
  refine lv_iconst (v := 0) hx hb dX9_coolOf_2 (by decide) ?_
  refine lv_istore_n (lv' := [(2, .int 0), (1, .int 0), (0, .ref (ad 69))]) hx hb dX9_coolOf_3 rfl hl (by decide) rfl (fun ls hl => ?_)
  refine lv_iload_n hx hb dX9_coolOf_4 rfl (lv_at hl 0 rfl) ?_
  refine lv_aload_n hx hb dX9_coolOf_5 rfl (lv_at hl 2 rfl) ?_
  refine lv_iconst (v := 1) hx hb dX9_coolOf_6 (by decide) ?_
  refine o_iald (v := 0) X h 69 0 (by decide) rfl pf69 rfl (by unfold vp_in; decide) rfl dX9_coolOf_7 ?_
  refine lv_icmp_ge (tgt := 26) hx hb dX9_coolOf_8 (by decide) (fun _ => ?_) (fun hc => absurd (by decide) hc)
  refine lv_iload_n hx hb dX9_coolOf_26 rfl (lv_at hl 1 rfl) ?_
  exact e_i X h hr hlk dX9_coolOf_27 ⟨rfl, rfl⟩

set_option maxHeartbeats 4000000 in
set_option maxRecDepth 100000 in
theorem c_M_bits (l : Launch) (G : va_G) (cI cB cZ cO : ClassId) (ad : Nat → Nat) (w : Nat → va_E)  : MI l G (tyq cI cB cZ cO) yX9_bits cX9_bits 3 (some .int) 0 0 74 ad w [.int 0] (fun r w1 => w1 = w ∧ r = 0) := by
  refine mk_i (own := "NoonShadeModel") rfl (by decide) (Nat.le_of_ble_eq_true rfl) ?_
  intro p e s m below meth c ls X hD hN hr hlk h hl
  have hx := X.1.1
  have hb := X.1.2.1
  have hown := X.1.2.2.2.1
  have hts := X.1.2.2.2.2
  have hl : lv_has ls 3 [(0, .int 0)] := hl
  refine lv_iconst (v := 0) hx hb dX9_bits_0 (by decide) ?_
  refine lv_istore_n (lv' := [(1, .int 0), (0, .int 0)]) hx hb dX9_bits_1 rfl hl (by decide) rfl (fun ls hl => ?_)
  refine lv_iload_n hx hb dX9_bits_2 rfl (lv_at hl 1 rfl) ?_
  refine lv_istore_n (lv' := [(2, .int 0), (1, .int 0), (0, .int 0)]) hx hb dX9_bits_3 rfl hl (by decide) rfl (fun ls hl => ?_)
  refine lv_iload_n hx hb dX9_bits_4 rfl (lv_at hl 0 rfl) ?_
  refine lv_if_le (tgt := 21) hx hb dX9_bits_5 (by decide) (fun _ => ?_) (fun hc => absurd (by decide) hc)
  refine lv_iload_n hx hb dX9_bits_21 rfl (lv_at hl 1 rfl) ?_
  exact e_i X h hr hlk dX9_bits_22 ⟨rfl, rfl⟩

set_option maxHeartbeats 4000000 in
set_option maxRecDepth 100000 in
theorem c_M_sums (l : Launch) (G : va_G) (cI cB cZ cO : ClassId) (ad : Nat → Nat) (w : Nat → va_E) (x : Int64) (y : Int32) : ML l G (tyq cI cB cZ cO) yX9_sums cX9_sums 8 (some .long) 0 0 74 ad w [.ref (ad 64), .long x, .int y, .int 0] (fun r w1 => w1 = w ∧ x = r) := by
  refine mk_l (own := "NoonShadeModel") rfl (by decide) (Nat.le_of_ble_eq_true rfl) ?_
  intro p e s m below meth c ls X hD hN hr hlk h hl
  have hx := X.1.1
  have hb := X.1.2.1
  have hown := X.1.2.2.2.1
  have hts := X.1.2.2.2.2
  have hl : lv_has ls 8 [(0, .ref (ad 64)), (1, .long x), (3, .int y), (4, .int 0)] := hl
  refine lv_lload_n hx hb dX9_sums_0 rfl (lv_at hl 1 rfl) ?_
  refine lv_lstore (lv' := [(5, .long x), (0, .ref (ad 64)), (1, .long x), (3, .int y), (4, .int 0)]) hx hb dX9_sums_1 hl (by decide) rfl (fun ls hl => ?_)
  refine lv_iconst (v := 0) hx hb dX9_sums_3 (by decide) ?_
  refine lv_istore (lv' := [(7, .int 0), (5, .long x), (0, .ref (ad 64)), (1, .long x), (3, .int y), (4, .int 0)]) hx hb dX9_sums_4 hl (by decide) rfl (fun ls hl => ?_)
  refine lv_iload hx hb dX9_sums_6 (lv_at hl 0 rfl) ?_
  refine lv_iload hx hb dX9_sums_8 (lv_at hl 5 rfl) ?_
  refine lv_icmp_ge (tgt := 38) hx hb dX9_sums_10 (by decide) (fun _ => ?_) (fun hc => absurd (by decide) hc)
  refine lv_lload hx hb dX9_sums_38 (lv_at hl 1 rfl) ?_
  exact e_l X h hr hlk dX9_sums_40 ⟨rfl, rfl⟩

set_option maxHeartbeats 4000000 in
set_option maxRecDepth 100000 in
theorem c_M_layHand (l : Launch) (G : va_G) (cI cB cZ cO : ClassId) (ad : Nat → Nat) (w : Nat → va_E)  (pf64 : w 64 = .inr (7, [.ref (ad 65), .ref (ad 66), .ref (ad 67), .ref (ad 68), .long 0, .long 1, .ref (ad 69), .int 0, .ref (ad 70), .ref (ad 71), .int 0, .int 0, .int 0, .int 0, .int 0, .ref (ad 72), .ref (ad 73)])) (pf65 : w 65 = .inl (cI, 177, .inl (fun _ => 0))) (pf69 : w 69 = .inl (cI, 41, .inl (fun _ => 0))) : MV l G (tyq cI cB cZ cO) yX9_layHand cX9_layHand 2 0 0 74 ad w [.ref (ad 64)] (fun w1 => w1 69 = .inl (cI, 41, .inl (fun _ => 0)) ∧ ∀ k, k ≠ 69 → w1 k = w k) := by
  refine mk_v (own := "NoonShadeModel") rfl (by decide) (Nat.le_of_ble_eq_true rfl) ?_
  intro p e s m below meth c ls X hD hN hr hlk h hl
  have hx := X.1.1
  have hb := X.1.2.1
  have hown := X.1.2.2.2.1
  have hts := X.1.2.2.2.2
  have hl : lv_has ls 2 [(0, .ref (ad 64))] := hl
  refine lv_iconst (v := 0) hx hb dX9_layHand_0 (by decide) ?_
  refine lv_istore_n (lv' := [(1, .int 0), (0, .ref (ad 64))]) hx hb dX9_layHand_1 rfl hl (by decide) rfl (fun ls hl => ?_)
  have hloop1 : ∀ (d : Nat) (k : Int32) (wL : Nat → va_E) (H : Heap) (locs : List Loc) (ls : Array Slot), 0 ≤ k.toInt → k.toInt ≤ 41 → wL 69 = .inl (cI, 41, .inl (fun _ => 0)) → wL 64 = .inr (7, [.ref (ad 65), .ref (ad 66), .ref (ad 67), .ref (ad 68), .long 0, .long 1, .ref (ad 69), .int 0, .ref (ad 70), .ref (ad 71), .int 0, .int 0, .int 0, .int 0, .int 0, .ref (ad 72), .ref (ad 73)]) → wL 65 = .inl (cI, 177, .inl (fun _ => 0)) → (∀ k, k ≠ 69 → wL k = w k) → 41 - k.toInt < (d : Int) → St G 74 ad (wA 74 ad s.heap.size) s.heap wL H locs → lv_has ls 2 [(0, .ref (ad 64)), (1, .int k)] → W p l e { frames := 0, cells := 0, slots := 0, locals := 0 } s m [.ref (ad 64)].toArray below meth c H locs 0 0 (MQ below (va_Qv (fun w1 => w1 69 = .inl (cI, 41, .inl (fun _ => 0)) ∧ ∀ k, k ≠ 69 → w1 k = w k) (Aft G 74 ad) (wA 74 ad s.heap.size)) [.ref (ad 64)].toArray s 0 0 (wA 74 ad s.heap.size)) (F0 m 2 ls []) := by
    intro d
    induction d with
    | zero => intro k wL H locs ls hk0 hk1 g69 g64 g65 hfr hm h hl; exfalso; omega
    | succ d ih =>
      intro k wL H locs ls hk0 hk1 g69 g64 g65 hfr hm h hl
      refine lv_iload_n hx hb dX9_layHand_2 rfl (lv_at hl 1 rfl) ?_
      refine lv_bipush (v := 41) hx hb dX9_layHand_3 (by decide) ?_
      refine lv_icmp_ge (tgt := 26) hx hb dX9_layHand_5 (by decide) (fun hc2 => ?_) (fun hc2 => ?_)
      · have hc2 : 41 ≤ (k).toInt := i_le hc2 rfl rfl
        exact e_v X h hr hlk dX9_layHand_26 ⟨g69, fun k h1 => hfr k (by omega)⟩
      · have hc2 : ¬ 41 ≤ (k).toInt := i_nle hc2 rfl rfl
        refine lv_aload_n hx hb dX9_layHand_8 rfl (lv_at hl 0 rfl) ?_
        refine r_get kc9 X h 64 6 (by decide) rfl g64 (by decide) kw_281 rfl dX9_layHand_9 ?_
        refine lv_iload_n hx hb dX9_layHand_12 rfl (lv_at hl 1 rfl) ?_
        refine lv_aload_n hx hb dX9_layHand_13 rfl (lv_at hl 0 rfl) ?_
        refine r_get kc9 X h 64 0 (by decide) rfl g64 (by decide) kw_187 rfl dX9_layHand_14 ?_
        refine lv_iload_n hx hb dX9_layHand_17 rfl (lv_at hl 1 rfl) ?_
        refine o_iald (v := 0) X h 65 0 (by decide) rfl g65 rfl (in_of (by omega) (by omega)) rfl dX9_layHand_18 ?_
        refine o_iast (f1 := fun _ => 0) X hD h 69 0 (by decide) rfl g69 rfl (in_of (by omega) (by omega)) (upd0 _) dX9_layHand_19 (fun H locs w3 e4 h => ?_)
        have f5 : w3 69 = .inl (cI, 41, .inl (fun _ => 0)) := (congrFun e4 _).trans (va_up_self _ _ _)
        refine lv_iinc (v := k + 1) (lv' := [(1, .int (k + 1)), (0, .ref (ad 64))]) hx hb dX9_layHand_20 hl (k := 1) rfl rfl (by decide) rfl (fun ls hl => ?_)
        refine lv_goto (tgt := 2) hx hb dX9_layHand_23 (by decide) ?_
        have hi : (k + 1).toInt = k.toInt + 1 := inc1 (by omega) (by omega)
        have f6 : w3 64 = .inr (7, [.ref (ad 65), .ref (ad 66), .ref (ad 67), .ref (ad 68), .long 0, .long 1, .ref (ad 69), .int 0, .ref (ad 70), .ref (ad 71), .int 0, .int 0, .int 0, .int 0, .int 0, .ref (ad 72), .ref (ad 73)]) := by rw [e4, va_up_ne _ _ (by decide)]; exact g64
        have f7 : w3 65 = .inl (cI, 177, .inl (fun _ => 0)) := by rw [e4, va_up_ne _ _ (by decide)]; exact g65
        exact ih (k + 1) w3 _ _ _ (by omega) (by omega) f5 f6 f7 (fun k h0 => ((congrFun e4 k).trans (va_up_ne _ _ (by omega))).trans (hfr k (by omega))) (by omega) h (lv_sub hl [1, 0] rfl)
  exact hloop1 42 0 w _ _ _ (by decide) (by decide) pf69 pf64 pf65 (fun k _ => rfl) (by have : (0 : Int32).toInt = 0 := rfl; omega) h (lv_sub hl [1, 0] rfl)
