set_option maxHeartbeats 4000000 in
set_option maxRecDepth 100000 in
theorem c_within (l : Launch) (G : va_G) (cI cB cZ cO : ClassId) (ad : Nat → Nat) (w : Nat → va_E) (v lo hi : Int32) (u a b : Int) (hu : v.toInt = u) (ha : lo.toInt = a) (hb2 : hi.toInt = b) : MI l G (tyq cI cB cZ cO) yX8_within cX8_within 3 (some .boolean) 0 0 74 ad w [.int v, .int lo, .int hi] (fun r w1 => w1 = w ∧ ((a ≤ u ∧ u ≤ b ∧ r = 1) ∨ (¬ (a ≤ u ∧ u ≤ b) ∧ r = 0))) := by
  refine mk_i (own := "NoonShade") rfl (by decide) (Nat.le_of_ble_eq_true rfl) ?_
  intro p e s m below meth c ls X hD hN hr hlk h hl
  have hx := X.1.1
  have hb := X.1.2.1
  have hown := X.1.2.2.2.1
  have hts := X.1.2.2.2.2
  have hl : lv_has ls 3 [(0, .int v), (1, .int lo), (2, .int hi)] := hl
  refine lv_iload_n hx hb dX8_within_0 rfl (lv_at hl 0 rfl) ?_
  refine lv_iload_n hx hb dX8_within_1 rfl (lv_at hl 1 rfl) ?_
  refine lv_icmp_lt (tgt := 14) hx hb dX8_within_2 (by decide) (fun hc1 => ?_) (fun hc1 => ?_)
  · have hc1 : u < a := i_lt hc1 hu ha
    refine lv_iconst (v := 0) hx hb dX8_within_14 (by decide) ?_
    exact e_z X h hr hlk rfl dX8_within_15 ⟨rfl, Or.inr ⟨by omega, rfl⟩⟩
  · have hc1 : ¬ u < a := i_nlt hc1 hu ha
    refine lv_iload_n hx hb dX8_within_5 rfl (lv_at hl 0 rfl) ?_
    refine lv_iload_n hx hb dX8_within_6 rfl (lv_at hl 2 rfl) ?_
    refine lv_icmp_gt (tgt := 14) hx hb dX8_within_7 (by decide) (fun hc2 => ?_) (fun hc2 => ?_)
    · have hc2 : b < u := i_lt hc2 hb2 hu
      refine lv_iconst (v := 0) hx hb dX8_within_14 (by decide) ?_
      exact e_z X h hr hlk rfl dX8_within_15 ⟨rfl, Or.inr ⟨by omega, rfl⟩⟩
    · have hc2 : ¬ b < u := i_nlt hc2 hb2 hu
      refine lv_iconst (v := 1) hx hb dX8_within_10 (by decide) ?_
      refine lv_goto (tgt := 15) hx hb dX8_within_11 (by decide) ?_
      exact e_z X h hr hlk rfl dX8_within_15 ⟨rfl, Or.inl ⟨by omega, by omega, rfl⟩⟩

set_option maxHeartbeats 4000000 in
set_option maxRecDepth 100000 in
theorem c_hasCaster (l : Launch) (G : va_G) (cI cB cZ cO : ClassId) (ad : Nat → Nat) (w : Nat → va_E) (b : Nat) (q0 q1 q2 q3 q4 : Int32) (fs : List Value) (i : Int32) (a : Int) (ha : q3.toInt = a) (hb0 : b < 74) (f : w b = .inr (1, .int q0 :: .int q1 :: .int q2 :: .int q3 :: .int q4 :: fs)) : MI l G (tyq cI cB cZ cO) yX2_hasCaster cX2_hasCaster 2 (some .boolean) 0 0 74 ad w [.ref (ad b), .int i] (fun r w1 => w1 = w ∧ ((0 ≤ i.toInt ∧ i.toInt < a ∧ r = 1) ∨ (¬ (0 ≤ i.toInt ∧ i.toInt < a) ∧ r = 0))) := by
  refine mk_i (own := "NoonShade$Isle") rfl (by decide) (Nat.le_of_ble_eq_true rfl) ?_
  intro p e s m below meth c ls X hD hN hr hlk h hl
  have hx := X.1.1
  have hb := X.1.2.1
  have hown := X.1.2.2.2.1
  have hts := X.1.2.2.2.2
  have hl : lv_has ls 2 [(0, .ref (ad b)), (1, .int i)] := hl
  refine lv_iload_n hx hb dX2_hasCaster_0 rfl (lv_at hl 1 rfl) ?_
  refine lv_if_lt (tgt := 16) hx hb dX2_hasCaster_1 (by decide) (fun hc1 => ?_) (fun hc1 => ?_)
  · have hc1 : (i).toInt < 0 := i_lt hc1 rfl rfl
    refine lv_iconst (v := 0) hx hb dX2_hasCaster_16 (by decide) ?_
    exact e_z X h hr hlk rfl dX2_hasCaster_17 ⟨rfl, Or.inr ⟨by omega, rfl⟩⟩
  · have hc1 : ¬ (i).toInt < 0 := i_nlt hc1 rfl rfl
    refine lv_iload_n hx hb dX2_hasCaster_4 rfl (lv_at hl 1 rfl) ?_
    refine lv_aload_n hx hb dX2_hasCaster_5 rfl (lv_at hl 0 rfl) ?_
    refine r_get kc2 X h b 3 (by omega) rfl f (by decide) kw_0 rfl dX2_hasCaster_6 ?_
    refine lv_icmp_ge (tgt := 16) hx hb dX2_hasCaster_9 (by decide) (fun hc2 => ?_) (fun hc2 => ?_)
    · have hc2 : a ≤ (i).toInt := i_le hc2 ha rfl
      refine lv_iconst (v := 0) hx hb dX2_hasCaster_16 (by decide) ?_
      exact e_z X h hr hlk rfl dX2_hasCaster_17 ⟨rfl, Or.inr ⟨by omega, rfl⟩⟩
    · have hc2 : ¬ a ≤ (i).toInt := i_nle hc2 ha rfl
      refine lv_iconst (v := 1) hx hb dX2_hasCaster_12 (by decide) ?_
      refine lv_goto (tgt := 17) hx hb dX2_hasCaster_13 (by decide) ?_
      exact e_z X h hr hlk rfl dX2_hasCaster_17 ⟨rfl, Or.inl ⟨by omega, by omega, rfl⟩⟩

set_option maxHeartbeats 4000000 in
set_option maxRecDepth 100000 in
theorem c_hasJar (l : Launch) (G : va_G) (cI cB cZ cO : ClassId) (ad : Nat → Nat) (w : Nat → va_E) (b : Nat) (q0 q1 q2 q3 q4 : Int32) (fs : List Value) (i : Int32) (a : Int) (ha : q4.toInt = a) (hb0 : b < 74) (f : w b = .inr (1, .int q0 :: .int q1 :: .int q2 :: .int q3 :: .int q4 :: fs)) : MI l G (tyq cI cB cZ cO) yX2_hasJar cX2_hasJar 2 (some .boolean) 0 0 74 ad w [.ref (ad b), .int i] (fun r w1 => w1 = w ∧ ((0 ≤ i.toInt ∧ i.toInt < a ∧ r = 1) ∨ (¬ (0 ≤ i.toInt ∧ i.toInt < a) ∧ r = 0))) := by
  refine mk_i (own := "NoonShade$Isle") rfl (by decide) (Nat.le_of_ble_eq_true rfl) ?_
  intro p e s m below meth c ls X hD hN hr hlk h hl
  have hx := X.1.1
  have hb := X.1.2.1
  have hown := X.1.2.2.2.1
  have hts := X.1.2.2.2.2
  have hl : lv_has ls 2 [(0, .ref (ad b)), (1, .int i)] := hl
  refine lv_iload_n hx hb dX2_hasJar_0 rfl (lv_at hl 1 rfl) ?_
  refine lv_if_lt (tgt := 16) hx hb dX2_hasJar_1 (by decide) (fun hc1 => ?_) (fun hc1 => ?_)
  · have hc1 : (i).toInt < 0 := i_lt hc1 rfl rfl
    refine lv_iconst (v := 0) hx hb dX2_hasJar_16 (by decide) ?_
    exact e_z X h hr hlk rfl dX2_hasJar_17 ⟨rfl, Or.inr ⟨by omega, rfl⟩⟩
  · have hc1 : ¬ (i).toInt < 0 := i_nlt hc1 rfl rfl
    refine lv_iload_n hx hb dX2_hasJar_4 rfl (lv_at hl 1 rfl) ?_
    refine lv_aload_n hx hb dX2_hasJar_5 rfl (lv_at hl 0 rfl) ?_
    refine r_get kc2 X h b 4 (by omega) rfl f (by decide) kw_1 rfl dX2_hasJar_6 ?_
    refine lv_icmp_ge (tgt := 16) hx hb dX2_hasJar_9 (by decide) (fun hc2 => ?_) (fun hc2 => ?_)
    · have hc2 : a ≤ (i).toInt := i_le hc2 ha rfl
      refine lv_iconst (v := 0) hx hb dX2_hasJar_16 (by decide) ?_
      exact e_z X h hr hlk rfl dX2_hasJar_17 ⟨rfl, Or.inr ⟨by omega, rfl⟩⟩
    · have hc2 : ¬ a ≤ (i).toInt := i_nle hc2 ha rfl
      refine lv_iconst (v := 1) hx hb dX2_hasJar_12 (by decide) ?_
      refine lv_goto (tgt := 17) hx hb dX2_hasJar_13 (by decide) ?_
      exact e_z X h hr hlk rfl dX2_hasJar_17 ⟨rfl, Or.inl ⟨by omega, by omega, rfl⟩⟩

set_option maxHeartbeats 4000000 in
set_option maxRecDepth 100000 in
theorem c_refused (l : Launch) (G : va_G) (cI cB cZ cO : ClassId) (ad : Nat → Nat) (w : Nat → va_E) (v0 v1 v2 v3 v4 v5 v6 v7 v8 : Value) (bd no fu : Int32) (q : Int32) (f : w 0 = .inr (6, [v0, v1, v2, v3, v4, v5, v6, v7, v8, .int bd, .int no, .int fu])) : MI l G (tyq cI cB cZ cO) yX8_refused cX8_refused 2 (some .int) 0 0 74 ad w [.ref (ad 0), .int q] (fun r w1 => r = q ∧ ∃ x y z : Int32, w1 = va_up w 0 (.inr (6, [v0, v1, v2, v3, v4, v5, v6, v7, v8, .int x, .int y, .int z]))) := by
  refine mk_i (own := "NoonShade") rfl (by decide) (Nat.le_of_ble_eq_true rfl) ?_
  intro p e s m below meth c ls X hD hN hr hlk h hl
  have hx := X.1.1
  have hb := X.1.2.1
  have hown := X.1.2.2.2.1
  have hts := X.1.2.2.2.2
  have hl : lv_has ls 2 [(0, .ref (ad 0)), (1, .int q)] := hl
  refine lv_iload_n hx hb dX8_refused_0 rfl (lv_at hl 1 rfl) ?_
  refine lv_bipush (v := (-2)) hx hb dX8_refused_1 (by decide) ?_
  refine lv_icmp_ne (tgt := 19) hx hb dX8_refused_3 (by decide) (fun hc1 => ?_) (fun hc1 => ?_)
  · have hc1 : ¬ (q).toInt = (-2) := i_ne hc1 rfl rfl
    refine lv_iload_n hx hb dX8_refused_19 rfl (lv_at hl 1 rfl) ?_
    refine lv_bipush (v := (-3)) hx hb dX8_refused_20 (by decide) ?_
    refine lv_icmp_ne (tgt := 38) hx hb dX8_refused_22 (by decide) (fun hc2 => ?_) (fun hc2 => ?_)
    · have hc2 : ¬ (q).toInt = (-3) := i_ne hc2 rfl rfl
      refine lv_aload_n hx hb dX8_refused_38 rfl (lv_at hl 0 rfl) ?_
      refine lv_dup hx hb dX8_refused_39 rfl ?_
      refine r_get kc8 X h 0 11 (by decide) rfl f (by decide) kw_2 rfl dX8_refused_40 ?_
      refine lv_iconst (v := 1) hx hb dX8_refused_43 (by decide) ?_
      refine o_iadd (z := fu + 1) hx hb dX8_refused_44 rfl ?_
      refine r_put kc8 X hD h 0 11 (by decide) rfl f (by decide) kw_2 rfl rfl rfl (Nat.le_of_ble_eq_true rfl) dX8_refused_45 (fun H locs w3 e4 h => ?_)
      have f5 : w3 0 = .inr (6, [v0, v1, v2, v3, v4, v5, v6, v7, v8, .int bd, .int no, .int (fu + 1)]) := (congrFun e4 _).trans (va_up_self _ _ _)
      refine lv_iload_n hx hb dX8_refused_48 rfl (lv_at hl 1 rfl) ?_
      exact e_i X h hr hlk dX8_refused_49 ⟨rfl, _, _, _, e4⟩
    · have hc2 : (q).toInt = (-3) := i_eq hc2 rfl rfl
      refine lv_aload_n hx hb dX8_refused_25 rfl (lv_at hl 0 rfl) ?_
      refine lv_dup hx hb dX8_refused_26 rfl ?_
      refine r_get kc8 X h 0 10 (by decide) rfl f (by decide) kw_3 rfl dX8_refused_27 ?_
      refine lv_iconst (v := 1) hx hb dX8_refused_30 (by decide) ?_
      refine o_iadd (z := no + 1) hx hb dX8_refused_31 rfl ?_
      refine r_put kc8 X hD h 0 10 (by decide) rfl f (by decide) kw_3 rfl rfl rfl (Nat.le_of_ble_eq_true rfl) dX8_refused_32 (fun H locs w6 e7 h => ?_)
      have f8 : w6 0 = .inr (6, [v0, v1, v2, v3, v4, v5, v6, v7, v8, .int bd, .int (no + 1), .int fu]) := (congrFun e7 _).trans (va_up_self _ _ _)
      refine lv_goto (tgt := 48) hx hb dX8_refused_35 (by decide) ?_
      refine lv_iload_n hx hb dX8_refused_48 rfl (lv_at hl 1 rfl) ?_
      exact e_i X h hr hlk dX8_refused_49 ⟨rfl, _, _, _, e7⟩
  · have hc1 : (q).toInt = (-2) := i_eq hc1 rfl rfl
    refine lv_aload_n hx hb dX8_refused_6 rfl (lv_at hl 0 rfl) ?_
    refine lv_dup hx hb dX8_refused_7 rfl ?_
    refine r_get kc8 X h 0 9 (by decide) rfl f (by decide) kw_4 rfl dX8_refused_8 ?_
    refine lv_iconst (v := 1) hx hb dX8_refused_11 (by decide) ?_
    refine o_iadd (z := bd + 1) hx hb dX8_refused_12 rfl ?_
    refine r_put kc8 X hD h 0 9 (by decide) rfl f (by decide) kw_4 rfl rfl rfl (Nat.le_of_ble_eq_true rfl) dX8_refused_13 (fun H locs w9 e10 h => ?_)
    have f11 : w9 0 = .inr (6, [v0, v1, v2, v3, v4, v5, v6, v7, v8, .int (bd + 1), .int no, .int fu]) := (congrFun e10 _).trans (va_up_self _ _ _)
    refine lv_goto (tgt := 48) hx hb dX8_refused_16 (by decide) ?_
    refine lv_iload_n hx hb dX8_refused_48 rfl (lv_at hl 1 rfl) ?_
    exact e_i X h hr hlk dX8_refused_49 ⟨rfl, _, _, _, e10⟩

set_option maxHeartbeats 4000000 in
set_option maxRecDepth 100000 in
theorem c_R_empty (l : Launch) (G : va_G) (cI cB cZ cO : ClassId) (ad : Nat → Nat) (w : Nat → va_E) (b : Nat) (v0 : Value) (z : Int32) (hb0 : b < 74) (f : w b = .inr (4, [v0, .int z])) : MI l G (tyq cI cB cZ cO) yX6_empty cX6_empty 2 (some .int) 0 0 74 ad w [.ref (ad b)] (fun r w1 => z = r ∧ w1 = va_up w b (.inr (4, [v0, .int 0]))) := by
  refine mk_i (own := "NoonShade$Rows") rfl (by decide) (Nat.le_of_ble_eq_true rfl) ?_
  intro p e s m below meth c ls X hD hN hr hlk h hl
  have hx := X.1.1
  have hb := X.1.2.1
  have hown := X.1.2.2.2.1
  have hts := X.1.2.2.2.2
  have hl : lv_has ls 2 [(0, .ref (ad b))] := hl
  refine lv_aload_n hx hb dX6_empty_0 rfl (lv_at hl 0 rfl) ?_
  refine r_get kc6 X h b 1 (by omega) rfl f (by decide) kw_20 rfl dX6_empty_1 ?_
  refine lv_istore_n (lv' := [(1, .int z), (0, .ref (ad b))]) hx hb dX6_empty_4 rfl hl (by decide) rfl (fun ls hl => ?_)
  refine lv_aload_n hx hb dX6_empty_5 rfl (lv_at hl 1 rfl) ?_
  refine lv_iconst (v := 0) hx hb dX6_empty_6 (by decide) ?_
  refine r_put kc6 X hD h b 1 (by omega) rfl f (by decide) kw_20 rfl rfl rfl (Nat.le_of_ble_eq_true rfl) dX6_empty_7 (fun H locs w1 e2 h => ?_)
  have f3 : w1 b = .inr (4, [v0, .int 0]) := (congrFun e2 _).trans (va_up_self _ _ _)
  refine lv_iload_n hx hb dX6_empty_10 rfl (lv_at hl 0 rfl) ?_
  exact e_i X h hr hlk dX6_empty_11 ⟨rfl, e2⟩

set_option maxHeartbeats 4000000 in
set_option maxRecDepth 100000 in
theorem c_P_empty (l : Launch) (G : va_G) (cI cB cZ cO : ClassId) (ad : Nat → Nat) (w : Nat → va_E) (b : Nat) (v0 : Value) (z : Int32) (hb0 : b < 74) (f : w b = .inr (2, [v0, .int z])) : MV l G (tyq cI cB cZ cO) yX4_empty cX4_empty 1 0 0 74 ad w [.ref (ad b)] (fun w1 => w1 = va_up w b (.inr (2, [v0, .int 0]))) := by
  refine mk_v (own := "NoonShade$Past") rfl (by decide) (Nat.le_of_ble_eq_true rfl) ?_
  intro p e s m below meth c ls X hD hN hr hlk h hl
  have hx := X.1.1
  have hb := X.1.2.1
  have hown := X.1.2.2.2.1
  have hts := X.1.2.2.2.2
  have hl : lv_has ls 1 [(0, .ref (ad b))] := hl
  refine lv_aload_n hx hb dX4_empty_0 rfl (lv_at hl 0 rfl) ?_
  refine lv_iconst (v := 0) hx hb dX4_empty_1 (by decide) ?_
  refine r_put kc4 X hD h b 1 (by omega) rfl f (by decide) kw_21 rfl rfl rfl (Nat.le_of_ble_eq_true rfl) dX4_empty_2 (fun H locs w1 e2 h => ?_)
  have f3 : w1 b = .inr (2, [v0, .int 0]) := (congrFun e2 _).trans (va_up_self _ _ _)
  exact e_v X h hr hlk dX4_empty_5 e2

set_option maxHeartbeats 4000000 in
set_option maxRecDepth 100000 in
theorem c_begin (l : Launch) (G : va_G) (cI cB cZ cO : ClassId) (ad : Nat → Nat) (w : Nat → va_E) (b : Nat) (q0 q1 q2 q3 q4 z1 z2 z3 t : Int32) (hb0 : b + 12 < 74) (pf0 : w b = .inr (1, [.int q0, .int q1, .int q2, .int q3, .int q4, .ref (ad (b + 1)), .ref (ad (b + 2)), .ref (ad (b + 3)), .ref (ad (b + 4)), .ref (ad (b + 5)), .ref (ad (b + 6)), .ref (ad (b + 7)), .ref (ad (b + 9)), .ref (ad (b + 11))])) (pf7 : w (b + 7) = .inr (4, [.ref (ad (b + 8)), .int z1])) (pf9 : w (b + 9) = .inr (4, [.ref (ad (b + 10)), .int z2])) (pf11 : w (b + 11) = .inr (2, [.ref (ad (b + 12)), .int z3])) : MV l G (tyq cI cB cZ cO) yX2_begin cX2_begin 2 1 21 74 ad w [.ref (ad b), .int t] (fun w1 => w1 b = .inr (1, [.int t, .int 0, .int 0, .int 0, .int 0, .ref (ad (b + 1)), .ref (ad (b + 2)), .ref (ad (b + 3)), .ref (ad (b + 4)), .ref (ad (b + 5)), .ref (ad (b + 6)), .ref (ad (b + 7)), .ref (ad (b + 9)), .ref (ad (b + 11))]) ∧ w1 (b + 7) = .inr (4, [.ref (ad (b + 8)), .int 0]) ∧ w1 (b + 9) = .inr (4, [.ref (ad (b + 10)), .int 0]) ∧ w1 (b + 11) = .inr (2, [.ref (ad (b + 12)), .int 0]) ∧ ∀ k, k ≠ b → k ≠ b + 7 → k ≠ b + 9 → k ≠ b + 11 → w1 k = w k) := by
  refine mk_v (own := "NoonShade$Isle") rfl (by decide) (Nat.le_of_ble_eq_true rfl) ?_
  intro p e s m below meth c ls X hD hN hr hlk h hl
  have hx := X.1.1
  have hb := X.1.2.1
  have hown := X.1.2.2.2.1
  have hts := X.1.2.2.2.2
  have hl : lv_has ls 2 [(0, .ref (ad b)), (1, .int t)] := hl
  refine lv_aload_n hx hb dX2_begin_0 rfl (lv_at hl 0 rfl) ?_
  refine lv_iload_n hx hb dX2_begin_1 rfl (lv_at hl 1 rfl) ?_
  refine r_put kc2 X hD h b 0 (by omega) rfl pf0 (by decide) kw_22 rfl rfl rfl (Nat.le_of_ble_eq_true rfl) dX2_begin_2 (fun H locs w1 e2 h => ?_)
  have f3 : w1 b = .inr (1, [.int t, .int q1, .int q2, .int q3, .int q4, .ref (ad (b + 1)), .ref (ad (b + 2)), .ref (ad (b + 3)), .ref (ad (b + 4)), .ref (ad (b + 5)), .ref (ad (b + 6)), .ref (ad (b + 7)), .ref (ad (b + 9)), .ref (ad (b + 11))]) := (congrFun e2 _).trans (va_up_self _ _ _)
  refine lv_aload_n hx hb dX2_begin_5 rfl (lv_at hl 0 rfl) ?_
  refine lv_iconst (v := 0) hx hb dX2_begin_6 (by decide) ?_
  refine r_put kc2 X hD h b 1 (by omega) rfl f3 (by decide) kw_23 rfl rfl rfl (Nat.le_of_ble_eq_true rfl) dX2_begin_7 (fun H locs w4 e5 h => ?_)
  have f6 : w4 b = .inr (1, [.int t, .int 0, .int q2, .int q3, .int q4, .ref (ad (b + 1)), .ref (ad (b + 2)), .ref (ad (b + 3)), .ref (ad (b + 4)), .ref (ad (b + 5)), .ref (ad (b + 6)), .ref (ad (b + 7)), .ref (ad (b + 9)), .ref (ad (b + 11))]) := (congrFun e5 _).trans (va_up_self _ _ _)
  refine lv_aload_n hx hb dX2_begin_10 rfl (lv_at hl 0 rfl) ?_
  refine lv_iconst (v := 0) hx hb dX2_begin_11 (by decide) ?_
  refine r_put kc2 X hD h b 2 (by omega) rfl f6 (by decide) kw_24 rfl rfl rfl (Nat.le_of_ble_eq_true rfl) dX2_begin_12 (fun H locs w7 e8 h => ?_)
  have f9 : w7 b = .inr (1, [.int t, .int 0, .int 0, .int q3, .int q4, .ref (ad (b + 1)), .ref (ad (b + 2)), .ref (ad (b + 3)), .ref (ad (b + 4)), .ref (ad (b + 5)), .ref (ad (b + 6)), .ref (ad (b + 7)), .ref (ad (b + 9)), .ref (ad (b + 11))]) := (congrFun e8 _).trans (va_up_self _ _ _)
  refine lv_aload_n hx hb dX2_begin_15 rfl (lv_at hl 0 rfl) ?_
  refine lv_iconst (v := 0) hx hb dX2_begin_16 (by decide) ?_
  refine r_put kc2 X hD h b 3 (by omega) rfl f9 (by decide) kw_0 rfl rfl rfl (Nat.le_of_ble_eq_true rfl) dX2_begin_17 (fun H locs w10 e11 h => ?_)
  have f12 : w10 b = .inr (1, [.int t, .int 0, .int 0, .int 0, .int q4, .ref (ad (b + 1)), .ref (ad (b + 2)), .ref (ad (b + 3)), .ref (ad (b + 4)), .ref (ad (b + 5)), .ref (ad (b + 6)), .ref (ad (b + 7)), .ref (ad (b + 9)), .ref (ad (b + 11))]) := (congrFun e11 _).trans (va_up_self _ _ _)
  refine lv_aload_n hx hb dX2_begin_20 rfl (lv_at hl 0 rfl) ?_
  refine lv_iconst (v := 0) hx hb dX2_begin_21 (by decide) ?_
  refine r_put kc2 X hD h b 4 (by omega) rfl f12 (by decide) kw_1 rfl rfl rfl (Nat.le_of_ble_eq_true rfl) dX2_begin_22 (fun H locs w13 e14 h => ?_)
  have f15 : w13 b = .inr (1, [.int t, .int 0, .int 0, .int 0, .int 0, .ref (ad (b + 1)), .ref (ad (b + 2)), .ref (ad (b + 3)), .ref (ad (b + 4)), .ref (ad (b + 5)), .ref (ad (b + 6)), .ref (ad (b + 7)), .ref (ad (b + 9)), .ref (ad (b + 11))]) := (congrFun e14 _).trans (va_up_self _ _ _)
  refine lv_aload_n hx hb dX2_begin_25 rfl (lv_at hl 0 rfl) ?_
  refine r_get kc2 X h b 11 (by omega) rfl f15 (by decide) kw_25 rfl dX2_begin_26 ?_
  have f16 : w1 (b + 7) = .inr (4, [.ref (ad (b + 8)), .int z1]) := by rw [e2, va_up_ne _ _ (by omega)]; exact pf7
  have f17 : w4 (b + 7) = .inr (4, [.ref (ad (b + 8)), .int z1]) := by rw [e5, va_up_ne _ _ (by omega)]; exact f16
  have f18 : w7 (b + 7) = .inr (4, [.ref (ad (b + 8)), .int z1]) := by rw [e8, va_up_ne _ _ (by omega)]; exact f17
  have f19 : w10 (b + 7) = .inr (4, [.ref (ad (b + 8)), .int z1]) := by rw [e11, va_up_ne _ _ (by omega)]; exact f18
  have f20 : w13 (b + 7) = .inr (4, [.ref (ad (b + 8)), .int z1]) := by rw [e14, va_up_ne _ _ (by omega)]; exact f19
  refine q_Vi (na := 0) (As := []) (rest := []) X hD hN h rfl (c_R_empty l G cI cB cZ cO ad w13 (b + 7) _ _ (by omega) f20) ⟨kw_26, kw_27, kw_28, kw_29, kw_30⟩ rfl ⟨by decide, by decide, by decide⟩ ⟨Nat.le_of_ble_eq_true rfl, Nat.le_of_ble_eq_true rfl⟩ ⟨Nat.zero_le _, Nat.zero_le _⟩ (by omega) f20 rfl rfl hl.1 rfl (Nat.le_of_ble_eq_true rfl) dX2_begin_29 (fun r21 w22 H locs hp23 h => ?_)
  obtain ⟨hr26, e24⟩ := hp23
  subst hr26
  have f25 : w22 (b + 7) = .inr (4, [.ref (ad (b + 8)), .int 0]) := (congrFun e24 _).trans (va_up_self _ _ _)
  refine lv_pop hx hb dX2_begin_32 rfl ?_
  refine lv_aload_n hx hb dX2_begin_33 rfl (lv_at hl 0 rfl) ?_
  have f27 : w22 b = .inr (1, [.int t, .int 0, .int 0, .int 0, .int 0, .ref (ad (b + 1)), .ref (ad (b + 2)), .ref (ad (b + 3)), .ref (ad (b + 4)), .ref (ad (b + 5)), .ref (ad (b + 6)), .ref (ad (b + 7)), .ref (ad (b + 9)), .ref (ad (b + 11))]) := by rw [e24, va_up_ne _ _ (by omega)]; exact f15
  refine r_get kc2 X h b 12 (by omega) rfl f27 (by decide) kw_31 rfl dX2_begin_34 ?_
  have f28 : w1 (b + 9) = .inr (4, [.ref (ad (b + 10)), .int z2]) := by rw [e2, va_up_ne _ _ (by omega)]; exact pf9
  have f29 : w4 (b + 9) = .inr (4, [.ref (ad (b + 10)), .int z2]) := by rw [e5, va_up_ne _ _ (by omega)]; exact f28
  have f30 : w7 (b + 9) = .inr (4, [.ref (ad (b + 10)), .int z2]) := by rw [e8, va_up_ne _ _ (by omega)]; exact f29
  have f31 : w10 (b + 9) = .inr (4, [.ref (ad (b + 10)), .int z2]) := by rw [e11, va_up_ne _ _ (by omega)]; exact f30
  have f32 : w13 (b + 9) = .inr (4, [.ref (ad (b + 10)), .int z2]) := by rw [e14, va_up_ne _ _ (by omega)]; exact f31
  have f33 : w22 (b + 9) = .inr (4, [.ref (ad (b + 10)), .int z2]) := by rw [e24, va_up_ne _ _ (by omega)]; exact f32
  refine q_Vi (na := 0) (As := []) (rest := []) X hD hN h rfl (c_R_empty l G cI cB cZ cO ad w22 (b + 9) _ _ (by omega) f33) ⟨kw_26, kw_27, kw_28, kw_29, kw_30⟩ rfl ⟨by decide, by decide, by decide⟩ ⟨Nat.le_of_ble_eq_true rfl, Nat.le_of_ble_eq_true rfl⟩ ⟨Nat.zero_le _, Nat.zero_le _⟩ (by omega) f33 rfl rfl hl.1 rfl (Nat.le_of_ble_eq_true rfl) dX2_begin_37 (fun r34 w35 H locs hp36 h => ?_)
  obtain ⟨hr39, e37⟩ := hp36
  subst hr39
  have f38 : w35 (b + 9) = .inr (4, [.ref (ad (b + 10)), .int 0]) := (congrFun e37 _).trans (va_up_self _ _ _)
  refine lv_pop hx hb dX2_begin_40 rfl ?_
  refine lv_aload_n hx hb dX2_begin_41 rfl (lv_at hl 0 rfl) ?_
  have f40 : w35 b = .inr (1, [.int t, .int 0, .int 0, .int 0, .int 0, .ref (ad (b + 1)), .ref (ad (b + 2)), .ref (ad (b + 3)), .ref (ad (b + 4)), .ref (ad (b + 5)), .ref (ad (b + 6)), .ref (ad (b + 7)), .ref (ad (b + 9)), .ref (ad (b + 11))]) := by rw [e37, va_up_ne _ _ (by omega)]; exact f27
  refine r_get kc2 X h b 13 (by omega) rfl f40 (by decide) kw_32 rfl dX2_begin_42 ?_
  have f41 : w1 (b + 11) = .inr (2, [.ref (ad (b + 12)), .int z3]) := by rw [e2, va_up_ne _ _ (by omega)]; exact pf11
  have f42 : w4 (b + 11) = .inr (2, [.ref (ad (b + 12)), .int z3]) := by rw [e5, va_up_ne _ _ (by omega)]; exact f41
  have f43 : w7 (b + 11) = .inr (2, [.ref (ad (b + 12)), .int z3]) := by rw [e8, va_up_ne _ _ (by omega)]; exact f42
  have f44 : w10 (b + 11) = .inr (2, [.ref (ad (b + 12)), .int z3]) := by rw [e11, va_up_ne _ _ (by omega)]; exact f43
  have f45 : w13 (b + 11) = .inr (2, [.ref (ad (b + 12)), .int z3]) := by rw [e14, va_up_ne _ _ (by omega)]; exact f44
  have f46 : w22 (b + 11) = .inr (2, [.ref (ad (b + 12)), .int z3]) := by rw [e24, va_up_ne _ _ (by omega)]; exact f45
  have f47 : w35 (b + 11) = .inr (2, [.ref (ad (b + 12)), .int z3]) := by rw [e37, va_up_ne _ _ (by omega)]; exact f46
  refine q_Vv (na := 0) (As := []) (rest := []) X hD hN h rfl (c_P_empty l G cI cB cZ cO ad w35 (b + 11) _ _ (by omega) f47) ⟨kw_33, kw_34, kw_35, kw_36, kw_37⟩ rfl ⟨by decide, by decide, by decide⟩ ⟨Nat.le_of_ble_eq_true rfl, Nat.le_of_ble_eq_true rfl⟩ ⟨Nat.zero_le _, Nat.zero_le _⟩ (by omega) f47 rfl rfl hl.1 rfl (Nat.le_of_ble_eq_true rfl) dX2_begin_45 (fun w49 H locs hp50 h => ?_)
  have e51 := hp50
  have f52 : w49 (b + 11) = .inr (2, [.ref (ad (b + 12)), .int 0]) := (congrFun e51 _).trans (va_up_self _ _ _)
  have f53 : w49 b = .inr (1, [.int t, .int 0, .int 0, .int 0, .int 0, .ref (ad (b + 1)), .ref (ad (b + 2)), .ref (ad (b + 3)), .ref (ad (b + 4)), .ref (ad (b + 5)), .ref (ad (b + 6)), .ref (ad (b + 7)), .ref (ad (b + 9)), .ref (ad (b + 11))]) := by rw [e51, va_up_ne _ _ (by omega)]; exact f40
  have f54 : w35 (b + 7) = .inr (4, [.ref (ad (b + 8)), .int 0]) := by rw [e37, va_up_ne _ _ (by omega)]; exact f25
  have f55 : w49 (b + 7) = .inr (4, [.ref (ad (b + 8)), .int 0]) := by rw [e51, va_up_ne _ _ (by omega)]; exact f54
  have f56 : w49 (b + 9) = .inr (4, [.ref (ad (b + 10)), .int 0]) := by rw [e51, va_up_ne _ _ (by omega)]; exact f38
  exact e_v X h hr hlk dX2_begin_48 ⟨f53, f55, f56, f52, fun k h1 h2 h3 h4 => ((congrFun e51 k).trans (va_up_ne _ _ (by omega))).trans (((congrFun e37 k).trans (va_up_ne _ _ (by omega))).trans (((congrFun e24 k).trans (va_up_ne _ _ (by omega))).trans (((congrFun e14 k).trans (va_up_ne _ _ (by omega))).trans (((congrFun e11 k).trans (va_up_ne _ _ (by omega))).trans (((congrFun e8 k).trans (va_up_ne _ _ (by omega))).trans (((congrFun e5 k).trans (va_up_ne _ _ (by omega))).trans ((congrFun e2 k).trans (va_up_ne _ _ (by omega)))))))))⟩

set_option maxHeartbeats 4000000 in
set_option maxRecDepth 100000 in
theorem c_addCaster (l : Launch) (G : va_G) (cI cB cZ cO : ClassId) (ad : Nat → Nat) (w : Nat → va_E) (x y z : Int32) (pf1 : w 1 = .inr (1, [.int 0, .int 0, .int 0, .int 0, .int 0, .ref (ad 2), .ref (ad 3), .ref (ad 4), .ref (ad 5), .ref (ad 6), .ref (ad 7), .ref (ad 8), .ref (ad 10), .ref (ad 12)])) (pf2 : w 2 = .inl (cI, 7, .inl (fun _ => 0))) (pf3 : w 3 = .inl (cI, 7, .inl (fun _ => 0))) (pf4 : w 4 = .inl (cI, 7, .inl (fun _ => 0))) : MI l G (tyq cI cB cZ cO) yX2_addCaster cX2_addCaster 4 (some .int) 0 0 74 ad w [.ref (ad 1), .int x, .int y, .int z] (fun r w1 => r = 0 ∧ ∀ k, 64 ≤ k → w1 k = w k) := by
  refine mk_i (own := "NoonShade$Isle") rfl (by decide) (Nat.le_of_ble_eq_true rfl) ?_
  intro p e s m below meth c ls X hD hN hr hlk h hl
  have hx := X.1.1
  have hb := X.1.2.1
  have hown := X.1.2.2.2.1
  have hts := X.1.2.2.2.2
  have hl : lv_has ls 4 [(0, .ref (ad 1)), (1, .int x), (2, .int y), (3, .int z)] := hl
  refine lv_aload_n hx hb dX2_addCaster_0 rfl (lv_at hl 0 rfl) ?_
  refine r_get kc2 X h 1 3 (by decide) rfl pf1 (by decide) kw_0 rfl dX2_addCaster_1 ?_
  refine lv_bipush (v := 7) hx hb dX2_addCaster_4 (by decide) ?_
  refine lv_icmp_lt (tgt := 12) hx hb dX2_addCaster_6 (by decide) (fun _ => ?_) (fun hc => absurd (by decide) hc)
  refine lv_aload_n hx hb dX2_addCaster_12 rfl (lv_at hl 0 rfl) ?_
  refine r_get kc2 X h 1 5 (by decide) rfl pf1 (by decide) kw_46 rfl dX2_addCaster_13 ?_
  refine lv_aload_n hx hb dX2_addCaster_16 rfl (lv_at hl 0 rfl) ?_
  refine r_get kc2 X h 1 3 (by decide) rfl pf1 (by decide) kw_0 rfl dX2_addCaster_17 ?_
  refine lv_iload_n hx hb dX2_addCaster_20 rfl (lv_at hl 1 rfl) ?_
  refine o_iast (f1 := upd (fun _ => 0) 0 x) X hD h 2 0 (by decide) rfl pf2 rfl (by unfold vp_in; decide) rfl dX2_addCaster_21 (fun H locs w1 e2 h => ?_)
  have f3 : w1 2 = .inl (cI, 7, .inl (upd (fun _ => 0) 0 x)) := (congrFun e2 _).trans (va_up_self _ _ _)
  refine lv_aload_n hx hb dX2_addCaster_22 rfl (lv_at hl 0 rfl) ?_
  have f4 : w1 1 = .inr (1, [.int 0, .int 0, .int 0, .int 0, .int 0, .ref (ad 2), .ref (ad 3), .ref (ad 4), .ref (ad 5), .ref (ad 6), .ref (ad 7), .ref (ad 8), .ref (ad 10), .ref (ad 12)]) := by rw [e2, va_up_ne _ _ (by decide)]; exact pf1
  refine r_get kc2 X h 1 6 (by decide) rfl f4 (by decide) kw_47 rfl dX2_addCaster_23 ?_
  refine lv_aload_n hx hb dX2_addCaster_26 rfl (lv_at hl 0 rfl) ?_
  refine r_get kc2 X h 1 3 (by decide) rfl f4 (by decide) kw_0 rfl dX2_addCaster_27 ?_
  refine lv_iload_n hx hb dX2_addCaster_30 rfl (lv_at hl 2 rfl) ?_
  have f5 : w1 3 = .inl (cI, 7, .inl (fun _ => 0)) := by rw [e2, va_up_ne _ _ (by decide)]; exact pf3
  refine o_iast (f1 := upd (fun _ => 0) 0 y) X hD h 3 0 (by decide) rfl f5 rfl (by unfold vp_in; decide) rfl dX2_addCaster_31 (fun H locs w6 e7 h => ?_)
  have f8 : w6 3 = .inl (cI, 7, .inl (upd (fun _ => 0) 0 y)) := (congrFun e7 _).trans (va_up_self _ _ _)
  refine lv_aload_n hx hb dX2_addCaster_32 rfl (lv_at hl 0 rfl) ?_
  have f9 : w6 1 = .inr (1, [.int 0, .int 0, .int 0, .int 0, .int 0, .ref (ad 2), .ref (ad 3), .ref (ad 4), .ref (ad 5), .ref (ad 6), .ref (ad 7), .ref (ad 8), .ref (ad 10), .ref (ad 12)]) := by rw [e7, va_up_ne _ _ (by decide)]; exact f4
  refine r_get kc2 X h 1 7 (by decide) rfl f9 (by decide) kw_48 rfl dX2_addCaster_33 ?_
  refine lv_aload_n hx hb dX2_addCaster_36 rfl (lv_at hl 0 rfl) ?_
  refine r_get kc2 X h 1 3 (by decide) rfl f9 (by decide) kw_0 rfl dX2_addCaster_37 ?_
  refine lv_iload_n hx hb dX2_addCaster_40 rfl (lv_at hl 3 rfl) ?_
  have f10 : w1 4 = .inl (cI, 7, .inl (fun _ => 0)) := by rw [e2, va_up_ne _ _ (by decide)]; exact pf4
  have f11 : w6 4 = .inl (cI, 7, .inl (fun _ => 0)) := by rw [e7, va_up_ne _ _ (by decide)]; exact f10
  refine o_iast (f1 := upd (fun _ => 0) 0 z) X hD h 4 0 (by decide) rfl f11 rfl (by unfold vp_in; decide) rfl dX2_addCaster_41 (fun H locs w12 e13 h => ?_)
  have f14 : w12 4 = .inl (cI, 7, .inl (upd (fun _ => 0) 0 z)) := (congrFun e13 _).trans (va_up_self _ _ _)
  refine lv_aload_n hx hb dX2_addCaster_42 rfl (lv_at hl 0 rfl) ?_
  refine lv_dup hx hb dX2_addCaster_43 rfl ?_
  have f15 : w12 1 = .inr (1, [.int 0, .int 0, .int 0, .int 0, .int 0, .ref (ad 2), .ref (ad 3), .ref (ad 4), .ref (ad 5), .ref (ad 6), .ref (ad 7), .ref (ad 8), .ref (ad 10), .ref (ad 12)]) := by rw [e13, va_up_ne _ _ (by decide)]; exact f9
  refine r_get kc2 X h 1 3 (by decide) rfl f15 (by decide) kw_0 rfl dX2_addCaster_44 ?_
  refine lv_iconst (v := 1) hx hb dX2_addCaster_47 (by decide) ?_
  refine o_iadd (z := 1) hx hb dX2_addCaster_48 rfl ?_
  refine r_put kc2 X hD h 1 3 (by decide) rfl f15 (by decide) kw_0 rfl rfl rfl (Nat.le_of_ble_eq_true rfl) dX2_addCaster_49 (fun H locs w16 e17 h => ?_)
  have f18 : w16 1 = .inr (1, [.int 0, .int 0, .int 0, .int 1, .int 0, .ref (ad 2), .ref (ad 3), .ref (ad 4), .ref (ad 5), .ref (ad 6), .ref (ad 7), .ref (ad 8), .ref (ad 10), .ref (ad 12)]) := (congrFun e17 _).trans (va_up_self _ _ _)
  refine lv_aload_n hx hb dX2_addCaster_52 rfl (lv_at hl 0 rfl) ?_
  refine r_get kc2 X h 1 3 (by decide) rfl f18 (by decide) kw_0 rfl dX2_addCaster_53 ?_
  refine lv_iconst (v := 1) hx hb dX2_addCaster_56 (by decide) ?_
  refine o_isub (z := 0) hx hb dX2_addCaster_57 rfl ?_
  exact e_i X h hr hlk dX2_addCaster_58 ⟨rfl, fun k hk => ((congrFun e17 k).trans (va_up_ne _ _ (by omega))).trans (((congrFun e13 k).trans (va_up_ne _ _ (by omega))).trans (((congrFun e7 k).trans (va_up_ne _ _ (by omega))).trans ((congrFun e2 k).trans (va_up_ne _ _ (by omega)))))⟩

set_option maxHeartbeats 4000000 in
set_option maxRecDepth 100000 in
theorem c_addJar (l : Launch) (G : va_G) (cI cB cZ cO : ClassId) (ad : Nat → Nat) (w : Nat → va_E) (x : Int32) (pf1 : w 1 = .inr (1, [.int 0, .int 0, .int 0, .int 0, .int 0, .ref (ad 2), .ref (ad 3), .ref (ad 4), .ref (ad 5), .ref (ad 6), .ref (ad 7), .ref (ad 8), .ref (ad 10), .ref (ad 12)])) (pf5 : w 5 = .inl (cI, 4, .inl (fun _ => 0))) (pf6 : w 6 = .inl (cI, 4, .inl (fun _ => 0))) (pf7 : w 7 = .inl (cI, 4, .inl (fun _ => 0))) : MI l G (tyq cI cB cZ cO) yX2_addJar cX2_addJar 2 (some .int) 0 0 74 ad w [.ref (ad 1), .int x] (fun r w1 => r = 0 ∧ ∀ k, 64 ≤ k → w1 k = w k) := by
  refine mk_i (own := "NoonShade$Isle") rfl (by decide) (Nat.le_of_ble_eq_true rfl) ?_
  intro p e s m below meth c ls X hD hN hr hlk h hl
  have hx := X.1.1
  have hb := X.1.2.1
  have hown := X.1.2.2.2.1
  have hts := X.1.2.2.2.2
  have hl : lv_has ls 2 [(0, .ref (ad 1)), (1, .int x)] := hl
  refine lv_aload_n hx hb dX2_addJar_0 rfl (lv_at hl 0 rfl) ?_
  refine r_get kc2 X h 1 4 (by decide) rfl pf1 (by decide) kw_1 rfl dX2_addJar_1 ?_
  refine lv_iconst (v := 4) hx hb dX2_addJar_4 (by decide) ?_
  refine lv_icmp_lt (tgt := 11) hx hb dX2_addJar_5 (by decide) (fun _ => ?_) (fun hc => absurd (by decide) hc)
  refine lv_aload_n hx hb dX2_addJar_11 rfl (lv_at hl 0 rfl) ?_
  refine r_get kc2 X h 1 8 (by decide) rfl pf1 (by decide) kw_49 rfl dX2_addJar_12 ?_
  refine lv_aload_n hx hb dX2_addJar_15 rfl (lv_at hl 0 rfl) ?_
  refine r_get kc2 X h 1 4 (by decide) rfl pf1 (by decide) kw_1 rfl dX2_addJar_16 ?_
  refine lv_iload_n hx hb dX2_addJar_19 rfl (lv_at hl 1 rfl) ?_
  refine o_iast (f1 := upd (fun _ => 0) 0 x) X hD h 5 0 (by decide) rfl pf5 rfl (by unfold vp_in; decide) rfl dX2_addJar_20 (fun H locs w1 e2 h => ?_)
  have f3 : w1 5 = .inl (cI, 4, .inl (upd (fun _ => 0) 0 x)) := (congrFun e2 _).trans (va_up_self _ _ _)
  refine lv_aload_n hx hb dX2_addJar_21 rfl (lv_at hl 0 rfl) ?_
  have f4 : w1 1 = .inr (1, [.int 0, .int 0, .int 0, .int 0, .int 0, .ref (ad 2), .ref (ad 3), .ref (ad 4), .ref (ad 5), .ref (ad 6), .ref (ad 7), .ref (ad 8), .ref (ad 10), .ref (ad 12)]) := by rw [e2, va_up_ne _ _ (by decide)]; exact pf1
  refine r_get kc2 X h 1 9 (by decide) rfl f4 (by decide) kw_50 rfl dX2_addJar_22 ?_
  refine lv_aload_n hx hb dX2_addJar_25 rfl (lv_at hl 0 rfl) ?_
  refine r_get kc2 X h 1 4 (by decide) rfl f4 (by decide) kw_1 rfl dX2_addJar_26 ?_
  refine lv_iconst (v := 0) hx hb dX2_addJar_29 (by decide) ?_
  have f5 : w1 6 = .inl (cI, 4, .inl (fun _ => 0)) := by rw [e2, va_up_ne _ _ (by decide)]; exact pf6
  refine o_iast (f1 := fun _ => 0) X hD h 6 0 (by decide) rfl f5 rfl (by unfold vp_in; decide) (upd0 _) dX2_addJar_30 (fun H locs w6 e7 h => ?_)
  have f8 : w6 6 = .inl (cI, 4, .inl (fun _ => 0)) := (congrFun e7 _).trans (va_up_self _ _ _)
  refine lv_aload_n hx hb dX2_addJar_31 rfl (lv_at hl 0 rfl) ?_
  have f9 : w6 1 = .inr (1, [.int 0, .int 0, .int 0, .int 0, .int 0, .ref (ad 2), .ref (ad 3), .ref (ad 4), .ref (ad 5), .ref (ad 6), .ref (ad 7), .ref (ad 8), .ref (ad 10), .ref (ad 12)]) := by rw [e7, va_up_ne _ _ (by decide)]; exact f4
  refine r_get kc2 X h 1 10 (by decide) rfl f9 (by decide) kw_51 rfl dX2_addJar_32 ?_
  refine lv_aload_n hx hb dX2_addJar_35 rfl (lv_at hl 0 rfl) ?_
  refine r_get kc2 X h 1 4 (by decide) rfl f9 (by decide) kw_1 rfl dX2_addJar_36 ?_
  refine lv_iconst (v := (-1)) hx hb dX2_addJar_39 (by decide) ?_
  have f10 : w1 7 = .inl (cI, 4, .inl (fun _ => 0)) := by rw [e2, va_up_ne _ _ (by decide)]; exact pf7
  have f11 : w6 7 = .inl (cI, 4, .inl (fun _ => 0)) := by rw [e7, va_up_ne _ _ (by decide)]; exact f10
  refine o_iast (f1 := upd (fun _ => 0) 0 (-1)) X hD h 7 0 (by decide) rfl f11 rfl (by unfold vp_in; decide) rfl dX2_addJar_40 (fun H locs w12 e13 h => ?_)
  have f14 : w12 7 = .inl (cI, 4, .inl (upd (fun _ => 0) 0 (-1))) := (congrFun e13 _).trans (va_up_self _ _ _)
  refine lv_aload_n hx hb dX2_addJar_41 rfl (lv_at hl 0 rfl) ?_
  refine lv_dup hx hb dX2_addJar_42 rfl ?_
  have f15 : w12 1 = .inr (1, [.int 0, .int 0, .int 0, .int 0, .int 0, .ref (ad 2), .ref (ad 3), .ref (ad 4), .ref (ad 5), .ref (ad 6), .ref (ad 7), .ref (ad 8), .ref (ad 10), .ref (ad 12)]) := by rw [e13, va_up_ne _ _ (by decide)]; exact f9
  refine r_get kc2 X h 1 4 (by decide) rfl f15 (by decide) kw_1 rfl dX2_addJar_43 ?_
  refine lv_iconst (v := 1) hx hb dX2_addJar_46 (by decide) ?_
  refine o_iadd (z := 1) hx hb dX2_addJar_47 rfl ?_
  refine r_put kc2 X hD h 1 4 (by decide) rfl f15 (by decide) kw_1 rfl rfl rfl (Nat.le_of_ble_eq_true rfl) dX2_addJar_48 (fun H locs w16 e17 h => ?_)
  have f18 : w16 1 = .inr (1, [.int 0, .int 0, .int 0, .int 0, .int 1, .ref (ad 2), .ref (ad 3), .ref (ad 4), .ref (ad 5), .ref (ad 6), .ref (ad 7), .ref (ad 8), .ref (ad 10), .ref (ad 12)]) := (congrFun e17 _).trans (va_up_self _ _ _)
  refine lv_aload_n hx hb dX2_addJar_51 rfl (lv_at hl 0 rfl) ?_
  refine r_get kc2 X h 1 4 (by decide) rfl f18 (by decide) kw_1 rfl dX2_addJar_52 ?_
  refine lv_iconst (v := 1) hx hb dX2_addJar_55 (by decide) ?_
  refine o_isub (z := 0) hx hb dX2_addJar_56 rfl ?_
  exact e_i X h hr hlk dX2_addJar_57 ⟨rfl, fun k hk => ((congrFun e17 k).trans (va_up_ne _ _ (by omega))).trans (((congrFun e13 k).trans (va_up_ne _ _ (by omega))).trans (((congrFun e7 k).trans (va_up_ne _ _ (by omega))).trans ((congrFun e2 k).trans (va_up_ne _ _ (by omega)))))⟩

set_option maxHeartbeats 4000000 in
set_option maxRecDepth 100000 in
theorem c_T_isFull (l : Launch) (G : va_G) (cI cB cZ cO : ClassId) (ad : Nat → Nat) (w : Nat → va_E)  (pf55 : w 55 = .inr (5, [.ref (ad 56), .ref (ad 57), .int 0, .int 0, .int 0, .int 0, .int 0])) : MI l G (tyq cI cB cZ cO) yX7_isFull cX7_isFull 1 (some .boolean) 0 0 74 ad w [.ref (ad 55)] (fun r w1 => w1 = w ∧ r = 0) := by
  refine mk_i (own := "NoonShade$Text") rfl (by decide) (Nat.le_of_ble_eq_true rfl) ?_
  intro p e s m below meth c ls X hD hN hr hlk h hl
  have hx := X.1.1
  have hb := X.1.2.1
  have hown := X.1.2.2.2.1
  have hts := X.1.2.2.2.2
  have hl : lv_has ls 1 [(0, .ref (ad 55))] := hl
  refine lv_aload_n hx hb dX7_isFull_0 rfl (lv_at hl 0 rfl) ?_
  refine r_get kc7 X h 55 2 (by decide) rfl pf55 (by decide) kw_63 rfl dX7_isFull_1 ?_
  refine lv_sipush (v := 150) hx hb dX7_isFull_4 (by decide) ?_
  refine lv_icmp_lt (tgt := 14) hx hb dX7_isFull_7 (by decide) (fun _ => ?_) (fun hc => absurd (by decide) hc)
  refine lv_iconst (v := 0) hx hb dX7_isFull_14 (by decide) ?_
  exact e_z X h hr hlk rfl dX7_isFull_15 ⟨rfl, rfl⟩

set_option maxHeartbeats 4000000 in
set_option maxRecDepth 100000 in
theorem c_T_add (l : Launch) (G : va_G) (cI cB cZ cO : ClassId) (ad : Nat → Nat) (w : Nat → va_E) (x : Int32) (pf55 : w 55 = .inr (5, [.ref (ad 56), .ref (ad 57), .int 0, .int 0, .int 0, .int 0, .int 0])) (pf56 : w 56 = .inl (cB, 150, .inl (fun _ => 0))) : MI l G (tyq cI cB cZ cO) yX7_add cX7_add 2 (some .int) 1 20 74 ad w [.ref (ad 55), .int x] (fun r w1 => r = 1 ∧ ∀ k, 64 ≤ k → w1 k = w k) := by
  refine mk_i (own := "NoonShade$Text") rfl (by decide) (Nat.le_of_ble_eq_true rfl) ?_
  intro p e s m below meth c ls X hD hN hr hlk h hl
  have hx := X.1.1
  have hb := X.1.2.1
  have hown := X.1.2.2.2.1
  have hts := X.1.2.2.2.2
  have hl : lv_has ls 2 [(0, .ref (ad 55)), (1, .int x)] := hl
  refine lv_aload_n hx hb dX7_add_0 rfl (lv_at hl 0 rfl) ?_
  refine q_Vi (na := 0) (As := []) (rest := []) X hD hN h rfl (c_T_isFull l G cI cB cZ cO ad w  pf55) ⟨kw_64, kw_65, kw_66, kw_67, kw_68⟩ rfl ⟨by decide, by decide, by decide⟩ ⟨Nat.le_of_ble_eq_true rfl, Nat.le_of_ble_eq_true rfl⟩ ⟨Nat.zero_le _, Nat.zero_le _⟩ (by decide) pf55 rfl rfl hl.1 rfl (Nat.le_of_ble_eq_true rfl) dX7_add_1 (fun r1 w2 H locs hp3 h => ?_)
  obtain ⟨e4, rfl⟩ := hp3
  refine lv_if_eq (tgt := 10) hx hb dX7_add_4 (by decide) (fun _ => ?_) (fun hc => absurd (by decide) hc)
  refine lv_aload_n hx hb dX7_add_10 rfl (lv_at hl 0 rfl) ?_
  have f5 : w2 55 = .inr (5, [.ref (ad 56), .ref (ad 57), .int 0, .int 0, .int 0, .int 0, .int 0]) := by rw [e4]; exact pf55
  refine r_get kc7 X h 55 0 (by decide) rfl f5 (by decide) kw_69 rfl dX7_add_11 ?_
  refine lv_aload_n hx hb dX7_add_14 rfl (lv_at hl 0 rfl) ?_
  refine r_get kc7 X h 55 2 (by decide) rfl f5 (by decide) kw_63 rfl dX7_add_15 ?_
  refine lv_iload_n hx hb dX7_add_18 rfl (lv_at hl 1 rfl) ?_
  refine lv_i2b (v := x.toInt8.toInt32) hx hb dX7_add_19 rfl ?_
  have f6 : w2 56 = .inl (cB, 150, .inl (fun _ => 0)) := by rw [e4]; exact pf56
  refine o_bast (f1 := upd (fun _ => 0) 0 (vp_nar .byte x.toInt8.toInt32)) X hD h 56 1 (by decide) rfl f6 rfl (by unfold vp_in; decide) rfl dX7_add_20 (fun H locs w7 e8 h => ?_)
  have f9 : w7 56 = .inl (cB, 150, .inl (upd (fun _ => 0) 0 (vp_nar .byte x.toInt8.toInt32))) := (congrFun e8 _).trans (va_up_self _ _ _)
  refine lv_aload_n hx hb dX7_add_21 rfl (lv_at hl 0 rfl) ?_
  refine lv_dup hx hb dX7_add_22 rfl ?_
  have f10 : w7 55 = .inr (5, [.ref (ad 56), .ref (ad 57), .int 0, .int 0, .int 0, .int 0, .int 0]) := by rw [e8, va_up_ne _ _ (by decide)]; exact f5
  refine r_get kc7 X h 55 2 (by decide) rfl f10 (by decide) kw_63 rfl dX7_add_23 ?_
  refine lv_iconst (v := 1) hx hb dX7_add_26 (by decide) ?_
  refine o_iadd (z := 1) hx hb dX7_add_27 rfl ?_
  refine r_put kc7 X hD h 55 2 (by decide) rfl f10 (by decide) kw_63 rfl rfl rfl (Nat.le_of_ble_eq_true rfl) dX7_add_28 (fun H locs w11 e12 h => ?_)
  have f13 : w11 55 = .inr (5, [.ref (ad 56), .ref (ad 57), .int 1, .int 0, .int 0, .int 0, .int 0]) := (congrFun e12 _).trans (va_up_self _ _ _)
  refine lv_aload_n hx hb dX7_add_31 rfl (lv_at hl 0 rfl) ?_
  refine r_get kc7 X h 55 2 (by decide) rfl f13 (by decide) kw_63 rfl dX7_add_32 ?_
  exact e_i X h hr hlk dX7_add_35 ⟨rfl, fun k hk => ((congrFun e12 k).trans (va_up_ne _ _ (by omega))).trans (((congrFun e8 k).trans (va_up_ne _ _ (by omega))).trans (congrFun e4 k))⟩

set_option maxHeartbeats 4000000 in
set_option maxRecDepth 100000 in
theorem c_T_empty (l : Launch) (G : va_G) (cI cB cZ cO : ClassId) (ad : Nat → Nat) (w : Nat → va_E)  (pf55 : w 55 = .inr (5, [.ref (ad 56), .ref (ad 57), .int 0, .int 0, .int 0, .int 0, .int 0])) : MI l G (tyq cI cB cZ cO) yX7_empty cX7_empty 2 (some .int) 0 0 74 ad w [.ref (ad 55)] (fun r w1 => r = 0 ∧ ∀ k, 64 ≤ k → w1 k = w k) := by
  refine mk_i (own := "NoonShade$Text") rfl (by decide) (Nat.le_of_ble_eq_true rfl) ?_
  intro p e s m below meth c ls X hD hN hr hlk h hl
  have hx := X.1.1
  have hb := X.1.2.1
  have hown := X.1.2.2.2.1
  have hts := X.1.2.2.2.2
  have hl : lv_has ls 2 [(0, .ref (ad 55))] := hl
  refine lv_aload_n hx hb dX7_empty_0 rfl (lv_at hl 0 rfl) ?_
  refine r_get kc7 X h 55 2 (by decide) rfl pf55 (by decide) kw_63 rfl dX7_empty_1 ?_
  refine lv_istore_n (lv' := [(1, .int 0), (0, .ref (ad 55))]) hx hb dX7_empty_4 rfl hl (by decide) rfl (fun ls hl => ?_)
  refine lv_aload_n hx hb dX7_empty_5 rfl (lv_at hl 1 rfl) ?_
  refine lv_iconst (v := 0) hx hb dX7_empty_6 (by decide) ?_
  refine r_put kc7 X hD h 55 2 (by decide) rfl pf55 (by decide) kw_63 rfl rfl rfl (Nat.le_of_ble_eq_true rfl) dX7_empty_7 (fun H locs w1 e2 h => ?_)
  have f3 : w1 55 = .inr (5, [.ref (ad 56), .ref (ad 57), .int 0, .int 0, .int 0, .int 0, .int 0]) := (congrFun e2 _).trans (va_up_self _ _ _)
  refine lv_iload_n hx hb dX7_empty_10 rfl (lv_at hl 0 rfl) ?_
  exact e_i X h hr hlk dX7_empty_11 ⟨rfl, fun k hk => (congrFun e2 k).trans (va_up_ne _ _ (by omega))⟩

set_option maxHeartbeats 4000000 in
set_option maxRecDepth 100000 in
theorem c_T_step (l : Launch) (G : va_G) (cI cB cZ cO : ClassId) (ad : Nat → Nat) (w : Nat → va_E)  (pf55 : w 55 = .inr (5, [.ref (ad 56), .ref (ad 57), .int 0, .int 0, .int 0, .int 0, .int 0])) : MV l G (tyq cI cB cZ cO) yX7_step cX7_step 1 0 0 74 ad w [.ref (ad 55)] (fun w1 => w1 55 = .inr (5, [.ref (ad 56), .ref (ad 57), .int 0, .int 0, .int 0, .int 0, .int 0]) ∧ ∀ k, k ≠ 55 → w1 k = w k) := by
  refine mk_v (own := "NoonShade$Text") rfl (by decide) (Nat.le_of_ble_eq_true rfl) ?_
  intro p e s m below meth c ls X hD hN hr hlk h hl
  have hx := X.1.1
  have hb := X.1.2.1
  have hown := X.1.2.2.2.1
  have hts := X.1.2.2.2.2
  have hl : lv_has ls 1 [(0, .ref (ad 55))] := hl
  refine lv_aload_n hx hb dX7_step_0 rfl (lv_at hl 0 rfl) ?_
  refine r_get kc7 X h 55 4 (by decide) rfl pf55 (by decide) kw_80 rfl dX7_step_1 ?_
  refine lv_aload_n hx hb dX7_step_4 rfl (lv_at hl 0 rfl) ?_
  refine r_get kc7 X h 55 2 (by decide) rfl pf55 (by decide) kw_63 rfl dX7_step_5 ?_
  refine lv_icmp_ge (tgt := 38) hx hb dX7_step_8 (by decide) (fun _ => ?_) (fun hc => absurd (by decide) hc)
  refine lv_aload_n hx hb dX7_step_38 rfl (lv_at hl 0 rfl) ?_
  refine lv_aload_n hx hb dX7_step_39 rfl (lv_at hl 0 rfl) ?_
  refine r_get kc7 X h 55 4 (by decide) rfl pf55 (by decide) kw_80 rfl dX7_step_40 ?_
  refine r_put kc7 X hD h 55 3 (by decide) rfl pf55 (by decide) kw_81 rfl rfl rfl (Nat.le_of_ble_eq_true rfl) dX7_step_43 (fun H locs w1 e2 h => ?_)
  have f3 : w1 55 = .inr (5, [.ref (ad 56), .ref (ad 57), .int 0, .int 0, .int 0, .int 0, .int 0]) := (congrFun e2 _).trans (va_up_self _ _ _)
  refine lv_aload_n hx hb dX7_step_46 rfl (lv_at hl 0 rfl) ?_
  refine r_get kc7 X h 55 4 (by decide) rfl f3 (by decide) kw_80 rfl dX7_step_47 ?_
  refine lv_aload_n hx hb dX7_step_50 rfl (lv_at hl 0 rfl) ?_
  refine r_get kc7 X h 55 2 (by decide) rfl f3 (by decide) kw_63 rfl dX7_step_51 ?_
  refine lv_icmp_lt (tgt := 65) hx hb dX7_step_54 (by decide) (fun hc => absurd hc (by decide)) (fun _ => ?_)
  refine lv_aload_n hx hb dX7_step_57 rfl (lv_at hl 0 rfl) ?_
  refine lv_iconst (v := 0) hx hb dX7_step_58 (by decide) ?_
  refine r_put kc7 X hD h 55 5 (by decide) rfl f3 (by decide) kw_82 rfl rfl rfl (Nat.le_of_ble_eq_true rfl) dX7_step_59 (fun H locs w4 e5 h => ?_)
  have f6 : w4 55 = .inr (5, [.ref (ad 56), .ref (ad 57), .int 0, .int 0, .int 0, .int 0, .int 0]) := (congrFun e5 _).trans (va_up_self _ _ _)
  refine lv_goto (tgt := 179) hx hb dX7_step_62 (by decide) ?_
  exact e_v X h hr hlk dX7_step_179 ⟨f6, fun k hk => ((congrFun e5 k).trans (va_up_ne _ _ (by omega))).trans ((congrFun e2 k).trans (va_up_ne _ _ (by omega)))⟩

set_option maxHeartbeats 4000000 in
set_option maxRecDepth 100000 in
theorem c_T_mayBegin (l : Launch) (G : va_G) (cI cB cZ cO : ClassId) (ad : Nat → Nat) (w : Nat → va_E) (b : Nat) (z : Int32) : MI l G (tyq cI cB cZ cO) yX7_mayBegin cX7_mayBegin 3 (some .boolean) 0 0 74 ad w [.ref (ad b), .int (-1), .int z] (fun r w1 => w1 = w ∧ r = 0) := by
  refine mk_i (own := "NoonShade$Text") rfl (by decide) (Nat.le_of_ble_eq_true rfl) ?_
  intro p e s m below meth c ls X hD hN hr hlk h hl
  have hx := X.1.1
  have hb := X.1.2.1
  have hown := X.1.2.2.2.1
  have hts := X.1.2.2.2.2
  have hl : lv_has ls 3 [(0, .ref (ad b)), (1, .int (-1)), (2, .int z)] := hl
  refine lv_iload_n hx hb dX7_mayBegin_0 rfl (lv_at hl 1 rfl) ?_
  refine lv_tableIn (tgt := 32) (off := 31) hx hb dX7_mayBegin_1 (by decide) (by decide) (by decide) (by decide) ?_
  refine lv_iconst (v := 0) hx hb dX7_mayBegin_32 (by decide) ?_
  exact e_z X h hr hlk rfl dX7_mayBegin_33 ⟨rfl, rfl⟩

set_option maxHeartbeats 4000000 in
set_option maxRecDepth 100000 in
theorem c_T_tell (l : Launch) (G : va_G) (cI cB cZ cO : ClassId) (ad : Nat → Nat) (w : Nat → va_E)  (pf55 : w 55 = .inr (5, [.ref (ad 56), .ref (ad 57), .int 0, .int 0, .int 0, .int 0, .int 0])) (pf14 : w 14 = .inr (1, [.int 0, .int 0, .int 0, .int 0, .int 0, .ref (ad 15), .ref (ad 16), .ref (ad 17), .ref (ad 18), .ref (ad 19), .ref (ad 20), .ref (ad 21), .ref (ad 23), .ref (ad 25)])) (pf21 : w 21 = .inr (4, [.ref (ad 22), .int 0])) (pf23 : w 23 = .inr (4, [.ref (ad 24), .int 0])) (pf25 : w 25 = .inr (2, [.ref (ad 26), .int 0])) : MI l G (tyq cI cB cZ cO) yX7_tell cX7_tell 4 (some .int) 2 42 74 ad w [.ref (ad 55), .ref (ad 14)] (fun r w1 => r = -10 ∧ ∀ k, 64 ≤ k → w1 k = w k) := by
  refine mk_i (own := "NoonShade$Text") rfl (by decide) (Nat.le_of_ble_eq_true rfl) ?_
  intro p e s m below meth c ls X hD hN hr hlk h hl
  have hx := X.1.1
  have hb := X.1.2.1
  have hown := X.1.2.2.2.1
  have hts := X.1.2.2.2.2
  have hl : lv_has ls 4 [(0, .ref (ad 55)), (1, .ref (ad 14))] := hl
  refine lv_aload_n hx hb dX7_tell_0 rfl (lv_at hl 1 rfl) ?_
  refine lv_iconst (v := 0) hx hb dX7_tell_1 (by decide) ?_
  refine q_Vv (na := 1) (As := [.int 0]) (rest := []) X hD hN h rfl (c_begin l G cI cB cZ cO ad w 14 _ _ _ _ _ _ _ _ 0 (by decide) pf14 pf21 pf23 pf25) ⟨kw_83, kw_43, kw_44, kw_9, kw_45⟩ rfl ⟨by decide, by decide, by decide⟩ ⟨Nat.le_of_ble_eq_true rfl, Nat.le_of_ble_eq_true rfl⟩ ⟨Nat.zero_le _, Nat.zero_le _⟩ (by decide) pf14 rfl rfl hl.1 rfl (Nat.le_of_ble_eq_true rfl) dX7_tell_2 (fun w2 H locs hp3 h => ?_)
  obtain ⟨f4, f5, f6, f7, hf8⟩ := hp3
  refine lv_aload_n hx hb dX7_tell_5 rfl (lv_at hl 0 rfl) ?_
  refine lv_iconst (v := 0) hx hb dX7_tell_6 (by decide) ?_
  have f9 : w2 55 = .inr (5, [.ref (ad 56), .ref (ad 57), .int 0, .int 0, .int 0, .int 0, .int 0]) := (hf8 55 (by decide) (by decide) (by decide) (by decide)).trans pf55
  refine r_put kc7 X hD h 55 4 (by decide) rfl f9 (by decide) kw_80 rfl rfl rfl (Nat.le_of_ble_eq_true rfl) dX7_tell_7 (fun H locs w10 e11 h => ?_)
  have f12 : w10 55 = .inr (5, [.ref (ad 56), .ref (ad 57), .int 0, .int 0, .int 0, .int 0, .int 0]) := (congrFun e11 _).trans (va_up_self _ _ _)
  refine lv_iconst (v := 0) hx hb dX7_tell_10 (by decide) ?_
  refine lv_istore_n (lv' := [(2, .int 0), (0, .ref (ad 55)), (1, .ref (ad 14))]) hx hb dX7_tell_11 rfl hl (by decide) rfl (fun ls hl => ?_)
  refine lv_iload_n hx hb dX7_tell_12 rfl (lv_at hl 0 rfl) ?_
  refine lv_sipush (v := 150) hx hb dX7_tell_13 (by decide) ?_
  refine lv_icmp_gt (tgt := 94) hx hb dX7_tell_16 (by decide) (fun hc => absurd hc (by decide)) (fun _ => ?_)
  refine lv_aload_n hx hb dX7_tell_19 rfl (lv_at hl 1 rfl) ?_
  refine q_Vv (na := 0) (As := []) (rest := []) X hD hN h rfl (c_T_step l G cI cB cZ cO ad w10  f12) ⟨kw_84, kw_85, kw_86, kw_67, kw_87⟩ rfl ⟨by decide, by decide, by decide⟩ ⟨Nat.le_of_ble_eq_true rfl, Nat.le_of_ble_eq_true rfl⟩ ⟨Nat.zero_le _, Nat.zero_le _⟩ (by decide) f12 rfl rfl hl.1 rfl (Nat.le_of_ble_eq_true rfl) dX7_tell_20 (fun w14 H locs hp15 h => ?_)
  obtain ⟨f16, hf17⟩ := hp15
  refine lv_aload_n hx hb dX7_tell_23 rfl (lv_at hl 1 rfl) ?_
  refine r_get kc7 X h 55 5 (by decide) rfl f16 (by decide) kw_82 rfl dX7_tell_24 ?_
  refine lv_if_ne (tgt := 36) hx hb dX7_tell_27 (by decide) (fun hc => absurd (by decide) hc) (fun _ => ?_)
  refine lv_iload_n hx hb dX7_tell_30 rfl (lv_at hl 0 rfl) ?_
  refine lv_if_le (tgt := 36) hx hb dX7_tell_31 (by decide) (fun _ => ?_) (fun hc => absurd (by decide) hc)
  refine lv_aload_n hx hb dX7_tell_36 rfl (lv_at hl 1 rfl) ?_
  refine r_get kc7 X h 55 5 (by decide) rfl f16 (by decide) kw_82 rfl dX7_tell_37 ?_
  refine lv_iconst (v := 1) hx hb dX7_tell_40 (by decide) ?_
  refine lv_icmp_ne (tgt := 51) hx hb dX7_tell_41 (by decide) (fun _ => ?_) (fun hc => absurd hc (by decide))
  refine lv_iconst (v := (-1)) hx hb dX7_tell_51 (by decide) ?_
  refine lv_istore_n (lv' := [(3, .int (-1)), (2, .int 0), (0, .ref (ad 55)), (1, .ref (ad 14))]) hx hb dX7_tell_52 rfl hl (by decide) rfl (fun ls hl => ?_)
  refine lv_aload_n hx hb dX7_tell_53 rfl (lv_at hl 3 rfl) ?_
  refine lv_iload_n hx hb dX7_tell_54 rfl (lv_at hl 0 rfl) ?_
  refine lv_iload_n hx hb dX7_tell_55 rfl (lv_at hl 1 rfl) ?_
  refine lv_if_ne (tgt := 63) hx hb dX7_tell_56 (by decide) (fun hc => absurd (by decide) hc) (fun _ => ?_)
  refine lv_iconst (v := 1) hx hb dX7_tell_59 (by decide) ?_
  refine lv_goto (tgt := 64) hx hb dX7_tell_60 (by decide) ?_
  refine q_Si (na := 3) (As := [.ref (ad 14), .int (-1), .int 1]) (rest := []) X hD hN h (c_T_mayBegin l G cI cB cZ cO ad w14 14 1) ⟨kw_88, kw_89, kw_67, kw_90⟩ ⟨by decide, by decide, by decide⟩ ⟨Nat.le_of_ble_eq_true rfl, Nat.le_of_ble_eq_true rfl⟩ ⟨Nat.zero_le _, Nat.zero_le _⟩ rfl hl.1 rfl (Nat.le_of_ble_eq_true rfl) dX7_tell_64 (fun r18 w19 H locs hp20 h => ?_)
  obtain ⟨e21, rfl⟩ := hp20
  refine lv_if_eq (tgt := 94) hx hb dX7_tell_67 (by decide) (fun _ => ?_) (fun hc => absurd (by decide) hc)
  refine lv_bipush (v := (-10)) hx hb dX7_tell_94 (by decide) ?_
  refine lv_aload_n hx hb dX7_tell_96 rfl (lv_at hl 2 rfl) ?_
  have f22 : w19 55 = .inr (5, [.ref (ad 56), .ref (ad 57), .int 0, .int 0, .int 0, .int 0, .int 0]) := by rw [e21]; exact f16
  refine r_get kc7 X h 55 3 (by decide) rfl f22 (by decide) kw_81 rfl dX7_tell_97 ?_
  refine o_isub (z := (-10)) hx hb dX7_tell_100 rfl ?_
  exact e_i X h hr hlk dX7_tell_101 ⟨rfl, fun k hk => (congrFun e21 k).trans ((hf17 k (by omega)).trans (((congrFun e11 k).trans (va_up_ne _ _ (by omega))).trans (hf8 k (by omega) (by omega) (by omega) (by omega))))⟩

set_option maxHeartbeats 4000000 in
set_option maxRecDepth 100000 in
theorem c_bringBack (l : Launch) (G : va_G) (cI cB cZ cO : ClassId) (ad : Nat → Nat) (w : Nat → va_E) (pf12 : w 12 = .inr (2, [.ref (ad 13), .int 0])) : MI l G (tyq cI cB cZ cO) yX4_bringBack cX4_bringBack 3 (some .boolean) 0 0 74 ad w [.ref (ad 12), .ref (ad 1)] (fun r w1 => w1 = w ∧ r = 0) := by
  refine mk_i (own := "NoonShade$Past") rfl (by decide) (Nat.le_of_ble_eq_true rfl) ?_
  intro p e s m below meth c ls X hD hN hr hlk h hl
  have hx := X.1.1
  have hb := X.1.2.1
  have hown := X.1.2.2.2.1
  have hts := X.1.2.2.2.2
  have hl : lv_has ls 3 [(0, .ref (ad 12)), (1, .ref (ad 1))] := hl
  refine lv_aload_n hx hb dX4_bringBack_0 rfl (lv_at hl 0 rfl) ?_
  refine r_get kc4 X h 12 1 (by decide) rfl pf12 (by decide) kw_21 rfl dX4_bringBack_1 ?_
  refine lv_if_gt (tgt := 9) hx hb dX4_bringBack_4 (by decide) (fun hc => absurd hc (by decide)) (fun _ => ?_)
  refine lv_iconst (v := 0) hx hb dX4_bringBack_7 (by decide) ?_
  exact e_z X h hr hlk rfl dX4_bringBack_8 ⟨rfl, rfl⟩

set_option maxHeartbeats 4000000 in
set_option maxRecDepth 100000 in
theorem c_coolInAll (l : Launch) (G : va_G) (cI cB cZ cO : ClassId) (ad : Nat → Nat) (w : Nat → va_E)  (pf1 : w 1 = .inr (1, [.int 0, .int 0, .int 0, .int 0, .int 0, .ref (ad 2), .ref (ad 3), .ref (ad 4), .ref (ad 5), .ref (ad 6), .ref (ad 7), .ref (ad 8), .ref (ad 10), .ref (ad 12)])) : MI l G (tyq cI cB cZ cO) yX2_coolInAll cX2_coolInAll 3 (some .int) 0 0 74 ad w [.ref (ad 1)] (fun r w1 => w1 = w ∧ r = 0) := by
  refine mk_i (own := "NoonShade$Isle") rfl (by decide) (Nat.le_of_ble_eq_true rfl) ?_
  intro p e s m below meth c ls X hD hN hr hlk h hl
  have hx := X.1.1
  have hb := X.1.2.1
  have hown := X.1.2.2.2.1
  have hts := X.1.2.2.2.2
  have hl : lv_has ls 3 [(0, .ref (ad 1))] := hl
  refine lv_iconst (v := 0) hx hb dX2_coolInAll_0 (by decide) ?_
  refine lv_istore_n (lv' := [(1, .int 0), (0, .ref (ad 1))]) hx hb dX2_coolInAll_1 rfl hl (by decide) rfl (fun ls hl => ?_)
  refine lv_iconst (v := 0) hx hb dX2_coolInAll_2 (by decide) ?_
  refine lv_istore_n (lv' := [(2, .int 0), (1, .int 0), (0, .ref (ad 1))]) hx hb dX2_coolInAll_3 rfl hl (by decide) rfl (fun ls hl => ?_)
  refine lv_iload_n hx hb dX2_coolInAll_4 rfl (lv_at hl 0 rfl) ?_
  refine lv_aload_n hx hb dX2_coolInAll_5 rfl (lv_at hl 2 rfl) ?_
  refine r_get kc2 X h 1 4 (by decide) rfl pf1 (by decide) kw_1 rfl dX2_coolInAll_6 ?_
  refine lv_icmp_ge (tgt := 27) hx hb dX2_coolInAll_9 (by decide) (fun _ => ?_) (fun hc => absurd (by decide) hc)
  refine lv_iload_n hx hb dX2_coolInAll_27 rfl (lv_at hl 1 rfl) ?_
  exact e_i X h hr hlk dX2_coolInAll_28 ⟨rfl, rfl⟩

set_option maxHeartbeats 4000000 in
set_option maxRecDepth 100000 in
theorem c_bitCount (l : Launch) (G : va_G) (cI cB cZ cO : ClassId) (ad : Nat → Nat) (w : Nat → va_E)  : MI l G (tyq cI cB cZ cO) yJ6_bitCount_0f7a4 cJ6_bitCount_0f7a4 1 (some .int) 0 0 74 ad w [.int 0] (fun r w1 => w1 = w ∧ r = 0) := by
  refine mk_i (own := "java/lang/Integer") rfl (by decide) (Nat.le_of_ble_eq_true rfl) ?_
  intro p e s m below meth c ls X hD hN hr hlk h hl
  have hx := X.1.1
  have hb := X.1.2.1
  have hown := X.1.2.2.2.1
  have hts := X.1.2.2.2.2
  have hl : lv_has ls 1 [(0, .int 0)] := hl
  refine lv_iload_n hx hb dJ6_bitCount_0f7a4_0 rfl (lv_at hl 0 rfl) ?_
  refine lv_iload_n hx hb dJ6_bitCount_0f7a4_1 rfl (lv_at hl 0 rfl) ?_
  refine lv_iconst (v := 1) hx hb dJ6_bitCount_0f7a4_2 (by decide) ?_
  refine lv_iushr (v := 0) hx hb dJ6_bitCount_0f7a4_3 rfl ?_
  refine lv_ldcw (v := 1431655765) hx hb hown (hts _ kw_106) dJ6_bitCount_0f7a4_4 ?_
  refine o_iand (z := 0) hx hb dJ6_bitCount_0f7a4_7 rfl ?_
  refine o_isub (z := 0) hx hb dJ6_bitCount_0f7a4_8 rfl ?_
  refine lv_istore_n (lv' := [(0, .int 0)]) hx hb dJ6_bitCount_0f7a4_9 rfl hl (by decide) rfl (fun ls hl => ?_)
  refine lv_iload_n hx hb dJ6_bitCount_0f7a4_10 rfl (lv_at hl 0 rfl) ?_
  refine lv_ldcw (v := 858993459) hx hb hown (hts _ kw_107) dJ6_bitCount_0f7a4_11 ?_
  refine o_iand (z := 0) hx hb dJ6_bitCount_0f7a4_14 rfl ?_
  refine lv_iload_n hx hb dJ6_bitCount_0f7a4_15 rfl (lv_at hl 0 rfl) ?_
  refine lv_iconst (v := 2) hx hb dJ6_bitCount_0f7a4_16 (by decide) ?_
  refine lv_iushr (v := 0) hx hb dJ6_bitCount_0f7a4_17 rfl ?_
  refine lv_ldcw (v := 858993459) hx hb hown (hts _ kw_107) dJ6_bitCount_0f7a4_18 ?_
  refine o_iand (z := 0) hx hb dJ6_bitCount_0f7a4_21 rfl ?_
  refine o_iadd (z := 0) hx hb dJ6_bitCount_0f7a4_22 rfl ?_
  refine lv_istore_n (lv' := [(0, .int 0)]) hx hb dJ6_bitCount_0f7a4_23 rfl hl (by decide) rfl (fun ls hl => ?_)
  refine lv_iload_n hx hb dJ6_bitCount_0f7a4_24 rfl (lv_at hl 0 rfl) ?_
  refine lv_iload_n hx hb dJ6_bitCount_0f7a4_25 rfl (lv_at hl 0 rfl) ?_
  refine lv_iconst (v := 4) hx hb dJ6_bitCount_0f7a4_26 (by decide) ?_
  refine lv_iushr (v := 0) hx hb dJ6_bitCount_0f7a4_27 rfl ?_
  refine o_iadd (z := 0) hx hb dJ6_bitCount_0f7a4_28 rfl ?_
  refine lv_ldcw (v := 252645135) hx hb hown (hts _ kw_108) dJ6_bitCount_0f7a4_29 ?_
  refine o_iand (z := 0) hx hb dJ6_bitCount_0f7a4_32 rfl ?_
  refine lv_istore_n (lv' := [(0, .int 0)]) hx hb dJ6_bitCount_0f7a4_33 rfl hl (by decide) rfl (fun ls hl => ?_)
  refine lv_iload_n hx hb dJ6_bitCount_0f7a4_34 rfl (lv_at hl 0 rfl) ?_
  refine lv_iload_n hx hb dJ6_bitCount_0f7a4_35 rfl (lv_at hl 0 rfl) ?_
  refine lv_bipush (v := 8) hx hb dJ6_bitCount_0f7a4_36 (by decide) ?_
  refine lv_iushr (v := 0) hx hb dJ6_bitCount_0f7a4_38 rfl ?_
  refine o_iadd (z := 0) hx hb dJ6_bitCount_0f7a4_39 rfl ?_
  refine lv_istore_n (lv' := [(0, .int 0)]) hx hb dJ6_bitCount_0f7a4_40 rfl hl (by decide) rfl (fun ls hl => ?_)
  refine lv_iload_n hx hb dJ6_bitCount_0f7a4_41 rfl (lv_at hl 0 rfl) ?_
  refine lv_iload_n hx hb dJ6_bitCount_0f7a4_42 rfl (lv_at hl 0 rfl) ?_
  refine lv_bipush (v := 16) hx hb dJ6_bitCount_0f7a4_43 (by decide) ?_
  refine lv_iushr (v := 0) hx hb dJ6_bitCount_0f7a4_45 rfl ?_
  refine o_iadd (z := 0) hx hb dJ6_bitCount_0f7a4_46 rfl ?_
  refine lv_istore_n (lv' := [(0, .int 0)]) hx hb dJ6_bitCount_0f7a4_47 rfl hl (by decide) rfl (fun ls hl => ?_)
  refine lv_iload_n hx hb dJ6_bitCount_0f7a4_48 rfl (lv_at hl 0 rfl) ?_
  refine lv_bipush (v := 63) hx hb dJ6_bitCount_0f7a4_49 (by decide) ?_
  refine o_iand (z := 0) hx hb dJ6_bitCount_0f7a4_51 rfl ?_
  exact e_i X h hr hlk dJ6_bitCount_0f7a4_52 ⟨rfl, rfl⟩

set_option maxHeartbeats 4000000 in
set_option maxRecDepth 100000 in
theorem c_R_mixed8 (l : Launch) (G : va_G) (cI cB cZ cO : ClassId) (ad : Nat → Nat) (w : Nat → va_E) (x : Int64) (pf8 : w 8 = .inr (4, [.ref (ad 9), .int 0])) : ML l G (tyq cI cB cZ cO) yX6_mixed cX6_mixed 6 (some .long) 0 0 74 ad w [.ref (ad 8), .long x] (fun r w1 => w1 = w ∧ x = r) := by
  refine mk_l (own := "NoonShade$Rows") rfl (by decide) (Nat.le_of_ble_eq_true rfl) ?_
  intro p e s m below meth c ls X hD hN hr hlk h hl
  have hx := X.1.1
  have hb := X.1.2.1
  have hown := X.1.2.2.2.1
  have hts := X.1.2.2.2.2
  have hl : lv_has ls 6 [(0, .ref (ad 8)), (1, .long x)] := hl
  refine lv_lload_n hx hb dX6_mixed_0 rfl (lv_at hl 1 rfl) ?_
  refine lv_lstore_n (lv' := [(3, .long x), (0, .ref (ad 8)), (1, .long x)]) hx hb dX6_mixed_1 rfl hl (by decide) rfl (fun ls hl => ?_)
  refine lv_iconst (v := 0) hx hb dX6_mixed_2 (by decide) ?_
  refine lv_istore (lv' := [(5, .int 0), (3, .long x), (0, .ref (ad 8)), (1, .long x)]) hx hb dX6_mixed_3 hl (by decide) rfl (fun ls hl => ?_)
  refine lv_iload hx hb dX6_mixed_5 (lv_at hl 0 rfl) ?_
  refine lv_aload_n hx hb dX6_mixed_7 rfl (lv_at hl 2 rfl) ?_
  refine r_get kc6 X h 8 1 (by decide) rfl pf8 (by decide) kw_20 rfl dX6_mixed_8 ?_
  refine lv_iconst (v := 4) hx hb dX6_mixed_11 (by decide) ?_
  refine o_imul (z := 0) hx hb dX6_mixed_12 rfl ?_
  refine lv_icmp_ge (tgt := 37) hx hb dX6_mixed_13 (by decide) (fun _ => ?_) (fun hc => absurd (by decide) hc)
  refine lv_lload_n hx hb dX6_mixed_37 rfl (lv_at hl 1 rfl) ?_
  exact e_l X h hr hlk dX6_mixed_38 ⟨rfl, rfl⟩

set_option maxHeartbeats 4000000 in
set_option maxRecDepth 100000 in
theorem c_R_mixed10 (l : Launch) (G : va_G) (cI cB cZ cO : ClassId) (ad : Nat → Nat) (w : Nat → va_E) (x : Int64) (pf10 : w 10 = .inr (4, [.ref (ad 11), .int 0])) : ML l G (tyq cI cB cZ cO) yX6_mixed cX6_mixed 6 (some .long) 0 0 74 ad w [.ref (ad 10), .long x] (fun r w1 => w1 = w ∧ x = r) := by
  refine mk_l (own := "NoonShade$Rows") rfl (by decide) (Nat.le_of_ble_eq_true rfl) ?_
  intro p e s m below meth c ls X hD hN hr hlk h hl
  have hx := X.1.1
  have hb := X.1.2.1
  have hown := X.1.2.2.2.1
  have hts := X.1.2.2.2.2
  have hl : lv_has ls 6 [(0, .ref (ad 10)), (1, .long x)] := hl
  refine lv_lload_n hx hb dX6_mixed_0 rfl (lv_at hl 1 rfl) ?_
  refine lv_lstore_n (lv' := [(3, .long x), (0, .ref (ad 10)), (1, .long x)]) hx hb dX6_mixed_1 rfl hl (by decide) rfl (fun ls hl => ?_)
  refine lv_iconst (v := 0) hx hb dX6_mixed_2 (by decide) ?_
  refine lv_istore (lv' := [(5, .int 0), (3, .long x), (0, .ref (ad 10)), (1, .long x)]) hx hb dX6_mixed_3 hl (by decide) rfl (fun ls hl => ?_)
  refine lv_iload hx hb dX6_mixed_5 (lv_at hl 0 rfl) ?_
  refine lv_aload_n hx hb dX6_mixed_7 rfl (lv_at hl 2 rfl) ?_
  refine r_get kc6 X h 10 1 (by decide) rfl pf10 (by decide) kw_20 rfl dX6_mixed_8 ?_
  refine lv_iconst (v := 4) hx hb dX6_mixed_11 (by decide) ?_
  refine o_imul (z := 0) hx hb dX6_mixed_12 rfl ?_
  refine lv_icmp_ge (tgt := 37) hx hb dX6_mixed_13 (by decide) (fun _ => ?_) (fun hc => absurd (by decide) hc)
  refine lv_lload_n hx hb dX6_mixed_37 rfl (lv_at hl 1 rfl) ?_
  exact e_l X h hr hlk dX6_mixed_38 ⟨rfl, rfl⟩

set_option maxHeartbeats 4000000 in
set_option maxRecDepth 100000 in
theorem c_I_mixed (l : Launch) (G : va_G) (cI cB cZ cO : ClassId) (ad : Nat → Nat) (w : Nat → va_E) (x : Int64) (pf1 : w 1 = .inr (1, [.int 0, .int 0, .int 0, .int 0, .int 0, .ref (ad 2), .ref (ad 3), .ref (ad 4), .ref (ad 5), .ref (ad 6), .ref (ad 7), .ref (ad 8), .ref (ad 10), .ref (ad 12)])) (pf8 : w 8 = .inr (4, [.ref (ad 9), .int 0])) (pf10 : w 10 = .inr (4, [.ref (ad 11), .int 0])) : ML l G (tyq cI cB cZ cO) yX2_mixed cX2_mixed 6 (some .long) 1 25 74 ad w [.ref (ad 1), .long x] (fun r w1 => w1 = w ∧ x = r) := by
  refine mk_l (own := "NoonShade$Isle") rfl (by decide) (Nat.le_of_ble_eq_true rfl) ?_
  intro p e s m below meth c ls X hD hN hr hlk h hl
  have hx := X.1.1
  have hb := X.1.2.1
  have hown := X.1.2.2.2.1
  have hts := X.1.2.2.2.2
  have hl : lv_has ls 6 [(0, .ref (ad 1)), (1, .long x)] := hl
  refine lv_lload_n hx hb dX2_mixed_0 rfl (lv_at hl 1 rfl) ?_
  refine lv_lstore_n (lv' := [(3, .long x), (0, .ref (ad 1)), (1, .long x)]) hx hb dX2_mixed_1 rfl hl (by decide) rfl (fun ls hl => ?_)
  refine lv_iconst (v := 0) hx hb dX2_mixed_2 (by decide) ?_
  refine lv_istore (lv' := [(5, .int 0), (3, .long x), (0, .ref (ad 1)), (1, .long x)]) hx hb dX2_mixed_3 hl (by decide) rfl (fun ls hl => ?_)
  refine lv_iload hx hb dX2_mixed_5 (lv_at hl 0 rfl) ?_
  refine lv_aload_n hx hb dX2_mixed_7 rfl (lv_at hl 2 rfl) ?_
  refine r_get kc2 X h 1 3 (by decide) rfl pf1 (by decide) kw_0 rfl dX2_mixed_8 ?_
  refine lv_icmp_ge (tgt := 87) hx hb dX2_mixed_11 (by decide) (fun _ => ?_) (fun hc => absurd (by decide) hc)
  refine lv_iconst (v := 0) hx hb dX2_mixed_87 (by decide) ?_
  refine lv_istore (lv' := [(5, .int 0), (3, .long x), (0, .ref (ad 1)), (1, .long x)]) hx hb dX2_mixed_88 hl (by decide) rfl (fun ls hl => ?_)
  refine lv_iload hx hb dX2_mixed_90 (lv_at hl 0 rfl) ?_
  refine lv_aload_n hx hb dX2_mixed_92 rfl (lv_at hl 2 rfl) ?_
  refine r_get kc2 X h 1 4 (by decide) rfl pf1 (by decide) kw_1 rfl dX2_mixed_93 ?_
  refine lv_icmp_ge (tgt := 150) hx hb dX2_mixed_96 (by decide) (fun _ => ?_) (fun hc => absurd (by decide) hc)
  refine lv_aload_n hx hb dX2_mixed_150 rfl (lv_at hl 2 rfl) ?_
  refine r_get kc2 X h 1 12 (by decide) rfl pf1 (by decide) kw_31 rfl dX2_mixed_151 ?_
  refine lv_aload_n hx hb dX2_mixed_154 rfl (lv_at hl 2 rfl) ?_
  refine r_get kc2 X h 1 11 (by decide) rfl pf1 (by decide) kw_25 rfl dX2_mixed_155 ?_
  refine lv_lload_n hx hb dX2_mixed_158 rfl (lv_at hl 1 rfl) ?_
  refine q_Vl (na := 1) (As := [.long x]) (rest := [.ref (ad 10)]) X hD hN h rfl (c_R_mixed8 l G cI cB cZ cO ad w x pf8) ⟨kw_127, kw_128, kw_129, kw_29, kw_130⟩ rfl ⟨by decide, by decide, by decide⟩ ⟨Nat.le_of_ble_eq_true rfl, Nat.le_of_ble_eq_true rfl⟩ ⟨Nat.zero_le _, Nat.zero_le _⟩ (by decide) pf8 rfl rfl hl.1 rfl (Nat.le_of_ble_eq_true rfl) dX2_mixed_159 (fun r1 w2 H locs hp3 h => ?_)
  obtain ⟨e4, rfl⟩ := hp3
  have f5 : w2 10 = .inr (4, [.ref (ad 11), .int 0]) := by rw [e4]; exact pf10
  refine q_Vl (na := 1) (As := [.long x]) (rest := []) X hD hN h rfl (c_R_mixed10 l G cI cB cZ cO ad w2 x f5) ⟨kw_127, kw_128, kw_129, kw_29, kw_130⟩ rfl ⟨by decide, by decide, by decide⟩ ⟨Nat.le_of_ble_eq_true rfl, Nat.le_of_ble_eq_true rfl⟩ ⟨Nat.zero_le _, Nat.zero_le _⟩ (by decide) f5 rfl rfl hl.1 rfl (Nat.le_of_ble_eq_true rfl) dX2_mixed_162 (fun r6 w7 H locs hp8 h => ?_)
  obtain ⟨e9, rfl⟩ := hp8
  exact e_l X h hr hlk dX2_mixed_165 ⟨funext fun k => (congrFun e9 k).trans (congrFun e4 k), rfl⟩
