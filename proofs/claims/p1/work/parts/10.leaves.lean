set_option maxHeartbeats 4000000 in
set_option maxRecDepth 100000 in
theorem c_within (l : Launch) (G : va_G) (cI cB cZ cO : ClassId) (ad : Nat → Nat) (w : Nat → va_E) (v lo hi : Int32) (a b : Int) (ha : lo.toInt = a) (hb2 : hi.toInt = b) : MI l G (tyq cI cB cZ cO) yX8_within cX8_within 3 (some .boolean) 0 0 74 ad w [.int v, .int lo, .int hi] (fun r w1 => w1 = w ∧ ((a ≤ v.toInt ∧ v.toInt ≤ b ∧ r = 1) ∨ (¬ (a ≤ v.toInt ∧ v.toInt ≤ b) ∧ r = 0))) := by
  refine mk_i (own := "NoonShade") rfl (by decide) (Nat.le_of_ble_eq_true rfl) ?_
  intro p e s m below meth c ls X hD hN hr hlk h hl
  have hx := X.1.1
  have hb := X.1.2.1
  have hown := X.1.2.2.2.1
  have hts := X.1.2.2.2.2
  have hl : lv_has ls 3 [(0, .int v), (1, .int lo), (2, .int hi)] := hl
  refine lv_iload_n hx hb dX8_within_0 rfl (lv_at hl 0 rfl) ?_
  refine lv_iload_n hx hb dX8_within_1 rfl (lv_at hl 1 rfl) ?_
  refine lv_icmp_lt (tgt := 14) hx hb dX8_within_2 (by decide) (fun hc1 => ?_) (fun hc1 => ?_)
  · have hc1 : (v).toInt < a := i_lt hc1 rfl ha
    refine lv_iconst (v := 0) hx hb dX8_within_14 (by decide) ?_
    exact e_z X h hr hlk rfl dX8_within_15 ⟨rfl, Or.inr ⟨by omega, rfl⟩⟩
  · have hc1 : ¬ (v).toInt < a := i_nlt hc1 rfl ha
    refine lv_iload_n hx hb dX8_within_5 rfl (lv_at hl 0 rfl) ?_
    refine lv_iload_n hx hb dX8_within_6 rfl (lv_at hl 2 rfl) ?_
    refine lv_icmp_gt (tgt := 14) hx hb dX8_within_7 (by decide) (fun hc2 => ?_) (fun hc2 => ?_)
    · have hc2 : b < (v).toInt := i_lt hc2 hb2 rfl
      refine lv_iconst (v := 0) hx hb dX8_within_14 (by decide) ?_
      exact e_z X h hr hlk rfl dX8_within_15 ⟨rfl, Or.inr ⟨by omega, rfl⟩⟩
    · have hc2 : ¬ b < (v).toInt := i_nlt hc2 hb2 rfl
      refine lv_iconst (v := 1) hx hb dX8_within_10 (by decide) ?_
      refine lv_goto (tgt := 15) hx hb dX8_within_11 (by decide) ?_
      exact e_z X h hr hlk rfl dX8_within_15 ⟨rfl, Or.inl ⟨by omega, by omega, rfl⟩⟩

set_option maxHeartbeats 4000000 in
set_option maxRecDepth 100000 in
theorem c_hasCaster (l : Launch) (G : va_G) (cI cB cZ cO : ClassId) (ad : Nat → Nat) (w : Nat → va_E) (b : Nat) (q0 q1 q2 q3 q4 : Int32) (fs : List Value) (i : Int32) (a : Int) (ha : q3.toInt = a) (hb0 : b < 74) (f : w b = .inr (1, .int q0 :: .int q1 :: .int q2 :: .int q3 :: .int q4 :: fs)) : MI l G (tyq cI cB cZ cO) yX2_hasCaster cX2_hasCaster 2 (some .boolean) 0 0 74 ad w [.ref (ad b), .int i] (fun r w1 => w1 = w ∧ ((0 ≤ i.toInt ∧ i.toInt < a ∧ r = 1) ∨ (¬ (0 ≤ i.toInt ∧ i.toInt < a) ∧ r = 0))) := by
  refine mk_i (own := "NoonShade$Isle") rfl (by decide) (Nat.le_of_ble_eq_true rfl) ?_
  intro p e s m below meth c ls X hD hN hr hlk h hl
  have hx := X.1.1
  have hb := X.1.2.1
  have hown := X.1.2.2.2.1
  have hts := X.1.2.2.2.2
  have hl : lv_has ls 2 [(0, .ref (ad b)), (1, .int i)] := hl
  refine lv_iload_n hx hb dX2_hasCaster_0 rfl (lv_at hl 1 rfl) ?_
  refine lv_if_lt (tgt := 16) hx hb dX2_hasCaster_1 (by decide) (fun hc1 => ?_) (fun hc1 => ?_)
  · have hc1 : (i).toInt < 0 := i_lt hc1 rfl rfl
    refine lv_iconst (v := 0) hx hb dX2_hasCaster_16 (by decide) ?_
    exact e_z X h hr hlk rfl dX2_hasCaster_17 ⟨rfl, Or.inr ⟨by omega, rfl⟩⟩
  · have hc1 : ¬ (i).toInt < 0 := i_nlt hc1 rfl rfl
    refine lv_iload_n hx hb dX2_hasCaster_4 rfl (lv_at hl 1 rfl) ?_
    refine lv_aload_n hx hb dX2_hasCaster_5 rfl (lv_at hl 0 rfl) ?_
    refine r_get kc2 X h b 3 (by omega) rfl f (by decide) kw_0 rfl dX2_hasCaster_6 ?_
    refine lv_icmp_ge (tgt := 16) hx hb dX2_hasCaster_9 (by decide) (fun hc2 => ?_) (fun hc2 => ?_)
    · have hc2 : a ≤ (i).toInt := i_le hc2 ha rfl
      refine lv_iconst (v := 0) hx hb dX2_hasCaster_16 (by decide) ?_
      exact e_z X h hr hlk rfl dX2_hasCaster_17 ⟨rfl, Or.inr ⟨by omega, rfl⟩⟩
    · have hc2 : ¬ a ≤ (i).toInt := i_nle hc2 ha rfl
      refine lv_iconst (v := 1) hx hb dX2_hasCaster_12 (by decide) ?_
      refine lv_goto (tgt := 17) hx hb dX2_hasCaster_13 (by decide) ?_
      exact e_z X h hr hlk rfl dX2_hasCaster_17 ⟨rfl, Or.inl ⟨by omega, by omega, rfl⟩⟩

set_option maxHeartbeats 4000000 in
set_option maxRecDepth 100000 in
theorem c_hasJar (l : Launch) (G : va_G) (cI cB cZ cO : ClassId) (ad : Nat → Nat) (w : Nat → va_E) (b : Nat) (q0 q1 q2 q3 q4 : Int32) (fs : List Value) (i : Int32) (a : Int) (ha : q4.toInt = a) (hb0 : b < 74) (f : w b = .inr (1, .int q0 :: .int q1 :: .int q2 :: .int q3 :: .int q4 :: fs)) : MI l G (tyq cI cB cZ cO) yX2_hasJar cX2_hasJar 2 (some .boolean) 0 0 74 ad w [.ref (ad b), .int i] (fun r w1 => w1 = w ∧ ((0 ≤ i.toInt ∧ i.toInt < a ∧ r = 1) ∨ (¬ (0 ≤ i.toInt ∧ i.toInt < a) ∧ r = 0))) := by
  refine mk_i (own := "NoonShade$Isle") rfl (by decide) (Nat.le_of_ble_eq_true rfl) ?_
  intro p e s m below meth c ls X hD hN hr hlk h hl
  have hx := X.1.1
  have hb := X.1.2.1
  have hown := X.1.2.2.2.1
  have hts := X.1.2.2.2.2
  have hl : lv_has ls 2 [(0, .ref (ad b)), (1, .int i)] := hl
  refine lv_iload_n hx hb dX2_hasJar_0 rfl (lv_at hl 1 rfl) ?_
  refine lv_if_lt (tgt := 16) hx hb dX2_hasJar_1 (by decide) (fun hc1 => ?_) (fun hc1 => ?_)
  · have hc1 : (i).toInt < 0 := i_lt hc1 rfl rfl
    refine lv_iconst (v := 0) hx hb dX2_hasJar_16 (by decide) ?_
    exact e_z X h hr hlk rfl dX2_hasJar_17 ⟨rfl, Or.inr ⟨by omega, rfl⟩⟩
  · have hc1 : ¬ (i).toInt < 0 := i_nlt hc1 rfl rfl
    refine lv_iload_n hx hb dX2_hasJar_4 rfl (lv_at hl 1 rfl) ?_
    refine lv_aload_n hx hb dX2_hasJar_5 rfl (lv_at hl 0 rfl) ?_
    refine r_get kc2 X h b 4 (by omega) rfl f (by decide) kw_1 rfl dX2_hasJar_6 ?_
    refine lv_icmp_ge (tgt := 16) hx hb dX2_hasJar_9 (by decide) (fun hc2 => ?_) (fun hc2 => ?_)
    · have hc2 : a ≤ (i).toInt := i_le hc2 ha rfl
      refine lv_iconst (v := 0) hx hb dX2_hasJar_16 (by decide) ?_
      exact e_z X h hr hlk rfl dX2_hasJar_17 ⟨rfl, Or.inr ⟨by omega, rfl⟩⟩
    · have hc2 : ¬ a ≤ (i).toInt := i_nle hc2 ha rfl
      refine lv_iconst (v := 1) hx hb dX2_hasJar_12 (by decide) ?_
      refine lv_goto (tgt := 17) hx hb dX2_hasJar_13 (by decide) ?_
      exact e_z X h hr hlk rfl dX2_hasJar_17 ⟨rfl, Or.inl ⟨by omega, by omega, rfl⟩⟩

set_option maxHeartbeats 4000000 in
set_option maxRecDepth 100000 in
theorem c_refused (l : Launch) (G : va_G) (cI cB cZ cO : ClassId) (ad : Nat → Nat) (w : Nat → va_E) (v0 v1 v2 v3 v4 v5 v6 v7 v8 : Value) (bd no fu : Int32) (q : Int32) (f : w 0 = .inr (6, [v0, v1, v2, v3, v4, v5, v6, v7, v8, .int bd, .int no, .int fu])) : MI l G (tyq cI cB cZ cO) yX8_refused cX8_refused 2 (some .int) 0 0 74 ad w [.ref (ad 0), .int q] (fun r w1 => r = q ∧ ∃ x y z : Int32, w1 = va_up w 0 (.inr (6, [v0, v1, v2, v3, v4, v5, v6, v7, v8, .int x, .int y, .int z]))) := by
  refine mk_i (own := "NoonShade") rfl (by decide) (Nat.le_of_ble_eq_true rfl) ?_
  intro p e s m below meth c ls X hD hN hr hlk h hl
  have hx := X.1.1
  have hb := X.1.2.1
  have hown := X.1.2.2.2.1
  have hts := X.1.2.2.2.2
  have hl : lv_has ls 2 [(0, .ref (ad 0)), (1, .int q)] := hl
  refine lv_iload_n hx hb dX8_refused_0 rfl (lv_at hl 1 rfl) ?_
  refine lv_bipush (v := (-2)) hx hb dX8_refused_1 (by decide) ?_
  refine lv_icmp_ne (tgt := 19) hx hb dX8_refused_3 (by decide) (fun hc1 => ?_) (fun hc1 => ?_)
  · have hc1 : ¬ (q).toInt = (-2) := i_ne hc1 rfl rfl
    refine lv_iload_n hx hb dX8_refused_19 rfl (lv_at hl 1 rfl) ?_
    refine lv_bipush (v := (-3)) hx hb dX8_refused_20 (by decide) ?_
    refine lv_icmp_ne (tgt := 38) hx hb dX8_refused_22 (by decide) (fun hc2 => ?_) (fun hc2 => ?_)
    · have hc2 : ¬ (q).toInt = (-3) := i_ne hc2 rfl rfl
      refine lv_aload_n hx hb dX8_refused_38 rfl (lv_at hl 0 rfl) ?_
      refine lv_dup hx hb dX8_refused_39 rfl ?_
      refine r_get kc8 X h 0 11 (by decide) rfl f (by decide) kw_2 rfl dX8_refused_40 ?_
      refine lv_iconst (v := 1) hx hb dX8_refused_43 (by decide) ?_
      refine o_iadd (z := fu + 1) hx hb dX8_refused_44 rfl ?_
      refine r_put kc8 X hD h 0 11 (by decide) rfl f (by decide) kw_2 rfl rfl rfl (Nat.le_of_ble_eq_true rfl) dX8_refused_45 (fun H locs w3 e4 h => ?_)
      have f5 : w3 0 = .inr (6, [v0, v1, v2, v3, v4, v5, v6, v7, v8, .int bd, .int no, .int (fu + 1)]) := (congrFun e4 _).trans (va_up_self _ _ _)
      refine lv_iload_n hx hb dX8_refused_48 rfl (lv_at hl 1 rfl) ?_
      exact e_i X h hr hlk dX8_refused_49 ⟨rfl, _, _, _, e4⟩
    · have hc2 : (q).toInt = (-3) := i_eq hc2 rfl rfl
      refine lv_aload_n hx hb dX8_refused_25 rfl (lv_at hl 0 rfl) ?_
      refine lv_dup hx hb dX8_refused_26 rfl ?_
      refine r_get kc8 X h 0 10 (by decide) rfl f (by decide) kw_3 rfl dX8_refused_27 ?_
      refine lv_iconst (v := 1) hx hb dX8_refused_30 (by decide) ?_
      refine o_iadd (z := no + 1) hx hb dX8_refused_31 rfl ?_
      refine r_put kc8 X hD h 0 10 (by decide) rfl f (by decide) kw_3 rfl rfl rfl (Nat.le_of_ble_eq_true rfl) dX8_refused_32 (fun H locs w6 e7 h => ?_)
      have f8 : w6 0 = .inr (6, [v0, v1, v2, v3, v4, v5, v6, v7, v8, .int bd, .int (no + 1), .int fu]) := (congrFun e7 _).trans (va_up_self _ _ _)
      refine lv_goto (tgt := 48) hx hb dX8_refused_35 (by decide) ?_
      refine lv_iload_n hx hb dX8_refused_48 rfl (lv_at hl 1 rfl) ?_
      exact e_i X h hr hlk dX8_refused_49 ⟨rfl, _, _, _, e7⟩
  · have hc1 : (q).toInt = (-2) := i_eq hc1 rfl rfl
    refine lv_aload_n hx hb dX8_refused_6 rfl (lv_at hl 0 rfl) ?_
    refine lv_dup hx hb dX8_refused_7 rfl ?_
    refine r_get kc8 X h 0 9 (by decide) rfl f (by decide) kw_4 rfl dX8_refused_8 ?_
    refine lv_iconst (v := 1) hx hb dX8_refused_11 (by decide) ?_
    refine o_iadd (z := bd + 1) hx hb dX8_refused_12 rfl ?_
    refine r_put kc8 X hD h 0 9 (by decide) rfl f (by decide) kw_4 rfl rfl rfl (Nat.le_of_ble_eq_true rfl) dX8_refused_13 (fun H locs w9 e10 h => ?_)
    have f11 : w9 0 = .inr (6, [v0, v1, v2, v3, v4, v5, v6, v7, v8, .int (bd + 1), .int no, .int fu]) := (congrFun e10 _).trans (va_up_self _ _ _)
    refine lv_goto (tgt := 48) hx hb dX8_refused_16 (by decide) ?_
    refine lv_iload_n hx hb dX8_refused_48 rfl (lv_at hl 1 rfl) ?_
    exact e_i X h hr hlk dX8_refused_49 ⟨rfl, _, _, _, e10⟩
