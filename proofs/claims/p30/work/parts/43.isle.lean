set_option maxHeartbeats 4000000 in
set_option maxRecDepth 100000 in
theorem c_hasCaster (l : Launch) (G : va_G) (cI cB cZ cO : ClassId) (ad : Nat → Nat) (w : Nat → va_E) (b : Nat) (hbB : isB b) (ok : OK cI cB cZ cO ad w) (i : Int32)   : NI l G (tyq cI cB cZ cO) yX2_hasCaster cX2_hasCaster 2 (some .boolean) 0 0 74 ad w [.ref (ad b), .int i] (fun r w1 => w = w1 ∧ ((0 ≤ i.toInt ∧ i.toInt ≤ 6 ∧ r = 1) ∨ r = 0)) := by
  refine nk_i (own := "NoonShade$Isle") rfl (by decide) (Nat.le_of_ble_eq_true rfl) ?_
  intro p e s m below meth c ls X hD hN hr hlk h hl
  have hx := X.1.1
  have hb := X.1.2.1
  have hown := X.1.2.2.2.1
  have hts := X.1.2.2.2.2
  have hl : lv_has ls 2 [(0, .ref (ad b)), (1, .int i)] := hl
  refine lv_iload_n hx hb dX2_hasCaster_0 rfl (lv_at hl 1 rfl) ?_
  refine lv_if_lt (tgt := 16) hx hb dX2_hasCaster_1 (by decide) (fun hc1 => ?_) (fun hc1 => ?_)
  · have hc1 : (i).toInt < 0 := i_lt hc1 rfl rfl
    refine lv_iconst (v := 0) hx hb dX2_hasCaster_16 (by decide) ?_
    exact e_n X h hr hlk rfl dX2_hasCaster_17 ⟨rfl, Or.inr rfl⟩
  · have hc1 : ¬ (i).toInt < 0 := i_nlt hc1 rfl rfl
    refine lv_iload_n hx hb dX2_hasCaster_4 rfl (lv_at hl 1 rfl) ?_
    refine lv_aload_n hx hb dX2_hasCaster_5 rfl (lv_at hl 0 rfl) ?_
    obtain ⟨q3, q4, q5, q6, q7, f2, h8, h9, h10, h11⟩ := (show sI ad b (w b) from ok.b0 hbB)
    have f12 : w b = .inr (1, [.int q3, .int q4, .int q5, .int q6, .int q7, .ref (ad (b + 1)), .ref (ad (b + 2)), .ref (ad (b + 3)), .ref (ad (b + 4)), .ref (ad (b + 5)), .ref (ad (b + 6)), .ref (ad (b + 7)), .ref (ad (b + 9)), .ref (ad (b + 11))]) := f2
    refine r_get kc2 X h b 3 (by have := isB.lt hbB; omega) rfl f12 (by decide) kv_17 rfl dX2_hasCaster_6 ?_
    refine lv_icmp_ge (tgt := 16) hx hb dX2_hasCaster_9 (by decide) (fun hc13 => ?_) (fun hc13 => ?_)
    · have hc13 : (q6).toInt ≤ (i).toInt := i_le hc13 rfl rfl
      refine lv_iconst (v := 0) hx hb dX2_hasCaster_16 (by decide) ?_
      exact e_n X h hr hlk rfl dX2_hasCaster_17 ⟨rfl, Or.inr rfl⟩
    · have hc13 : ¬ (q6).toInt ≤ (i).toInt := i_nle hc13 rfl rfl
      refine lv_iconst (v := 1) hx hb dX2_hasCaster_12 (by decide) ?_
      refine lv_goto (tgt := 17) hx hb dX2_hasCaster_13 (by decide) ?_
      exact e_n X h hr hlk rfl dX2_hasCaster_17 ⟨rfl, Or.inl ⟨by omega, by omega, rfl⟩⟩

set_option maxHeartbeats 4000000 in
set_option maxRecDepth 100000 in
theorem c_hasJar (l : Launch) (G : va_G) (cI cB cZ cO : ClassId) (ad : Nat → Nat) (w : Nat → va_E) (b : Nat) (hbB : isB b) (ok : OK cI cB cZ cO ad w) (i : Int32)   : NI l G (tyq cI cB cZ cO) yX2_hasJar cX2_hasJar 2 (some .boolean) 0 0 74 ad w [.ref (ad b), .int i] (fun r w1 => w = w1 ∧ ((0 ≤ i.toInt ∧ i.toInt ≤ 3 ∧ r = 1) ∨ r = 0)) := by
  refine nk_i (own := "NoonShade$Isle") rfl (by decide) (Nat.le_of_ble_eq_true rfl) ?_
  intro p e s m below meth c ls X hD hN hr hlk h hl
  have hx := X.1.1
  have hb := X.1.2.1
  have hown := X.1.2.2.2.1
  have hts := X.1.2.2.2.2
  have hl : lv_has ls 2 [(0, .ref (ad b)), (1, .int i)] := hl
  refine lv_iload_n hx hb dX2_hasJar_0 rfl (lv_at hl 1 rfl) ?_
  refine lv_if_lt (tgt := 16) hx hb dX2_hasJar_1 (by decide) (fun hc1 => ?_) (fun hc1 => ?_)
  · have hc1 : (i).toInt < 0 := i_lt hc1 rfl rfl
    refine lv_iconst (v := 0) hx hb dX2_hasJar_16 (by decide) ?_
    exact e_n X h hr hlk rfl dX2_hasJar_17 ⟨rfl, Or.inr rfl⟩
  · have hc1 : ¬ (i).toInt < 0 := i_nlt hc1 rfl rfl
    refine lv_iload_n hx hb dX2_hasJar_4 rfl (lv_at hl 1 rfl) ?_
    refine lv_aload_n hx hb dX2_hasJar_5 rfl (lv_at hl 0 rfl) ?_
    obtain ⟨q3, q4, q5, q6, q7, f2, h8, h9, h10, h11⟩ := (show sI ad b (w b) from ok.b0 hbB)
    have f12 : w b = .inr (1, [.int q3, .int q4, .int q5, .int q6, .int q7, .ref (ad (b + 1)), .ref (ad (b + 2)), .ref (ad (b + 3)), .ref (ad (b + 4)), .ref (ad (b + 5)), .ref (ad (b + 6)), .ref (ad (b + 7)), .ref (ad (b + 9)), .ref (ad (b + 11))]) := f2
    refine r_get kc2 X h b 4 (by have := isB.lt hbB; omega) rfl f12 (by decide) kv_18 rfl dX2_hasJar_6 ?_
    refine lv_icmp_ge (tgt := 16) hx hb dX2_hasJar_9 (by decide) (fun hc13 => ?_) (fun hc13 => ?_)
    · have hc13 : (q7).toInt ≤ (i).toInt := i_le hc13 rfl rfl
      refine lv_iconst (v := 0) hx hb dX2_hasJar_16 (by decide) ?_
      exact e_n X h hr hlk rfl dX2_hasJar_17 ⟨rfl, Or.inr rfl⟩
    · have hc13 : ¬ (q7).toInt ≤ (i).toInt := i_nle hc13 rfl rfl
      refine lv_iconst (v := 1) hx hb dX2_hasJar_12 (by decide) ?_
      refine lv_goto (tgt := 17) hx hb dX2_hasJar_13 (by decide) ?_
      exact e_n X h hr hlk rfl dX2_hasJar_17 ⟨rfl, Or.inl ⟨by omega, by omega, rfl⟩⟩

set_option maxHeartbeats 4000000 in
set_option maxRecDepth 100000 in
theorem c_isMilked (l : Launch) (G : va_G) (cI cB cZ cO : ClassId) (ad : Nat → Nat) (w : Nat → va_E) (b : Nat) (hbB : isB b) (ok : OK cI cB cZ cO ad w) (i : Int32)   : NI l G (tyq cI cB cZ cO) yX2_isMilked cX2_isMilked 2 (some .boolean) 0 0 74 ad w [.ref (ad b), .int i] (fun r w1 => w = w1 ∧ (r = 1 ∨ r = 0)) := by
  refine nk_i (own := "NoonShade$Isle") rfl (by decide) (Nat.le_of_ble_eq_true rfl) ?_
  intro p e s m below meth c ls X hD hN hr hlk h hl
  have hx := X.1.1
  have hb := X.1.2.1
  have hown := X.1.2.2.2.1
  have hts := X.1.2.2.2.2
  have hl : lv_has ls 2 [(0, .ref (ad b)), (1, .int i)] := hl
  refine lv_aload_n hx hb dX2_isMilked_0 rfl (lv_at hl 0 rfl) ?_
  obtain ⟨q2, q3, q4, q5, q6, f1, h7, h8, h9, h10⟩ := (show sI ad b (w b) from ok.b0 hbB)
  have f11 : w b = .inr (1, [.int q2, .int q3, .int q4, .int q5, .int q6, .ref (ad (b + 1)), .ref (ad (b + 2)), .ref (ad (b + 3)), .ref (ad (b + 4)), .ref (ad (b + 5)), .ref (ad (b + 6)), .ref (ad (b + 7)), .ref (ad (b + 9)), .ref (ad (b + 11))]) := f1
  refine r_get kc2 X h b 2 (by have := isB.lt hbB; omega) rfl f11 (by decide) kv_19 rfl dX2_isMilked_1 ?_
  refine lv_iload_n hx hb dX2_isMilked_4 rfl (lv_at hl 1 rfl) ?_
  obtain ⟨z14, e12⟩ : ∃ z : Int32, q4 >>> (i &&& 31) = z := ⟨_, rfl⟩
  refine o_ishr (z := z14) hx hb dX2_isMilked_5 e12 ?_
  refine lv_iconst (v := 1) hx hb dX2_isMilked_6 (by decide) ?_
  obtain ⟨z17, e15⟩ : ∃ z : Int32, z14 &&& (1 : Int32) = z := ⟨_, rfl⟩
  refine o_iand (z := z17) hx hb dX2_isMilked_7 e15 ?_
  refine lv_if_eq (tgt := 15) hx hb dX2_isMilked_8 (by decide) (fun hc18 => ?_) (fun hc18 => ?_)
  · have hc18 : (z17).toInt = 0 := i_eq hc18 rfl rfl
    refine lv_iconst (v := 0) hx hb dX2_isMilked_15 (by decide) ?_
    exact e_n X h hr hlk rfl dX2_isMilked_16 ⟨rfl, Or.inr rfl⟩
  · have hc18 : ¬ (z17).toInt = 0 := i_ne hc18 rfl rfl
    refine lv_iconst (v := 1) hx hb dX2_isMilked_11 (by decide) ?_
    refine lv_goto (tgt := 16) hx hb dX2_isMilked_12 (by decide) ?_
    exact e_n X h hr hlk rfl dX2_isMilked_16 ⟨rfl, Or.inl rfl⟩

set_option maxHeartbeats 4000000 in
set_option maxRecDepth 100000 in
theorem c_givenBehind (l : Launch) (G : va_G) (cI cB cZ cO : ClassId) (ad : Nat → Nat) (w : Nat → va_E) (b : Nat) (hbB : isB b) (ok : OK cI cB cZ cO ad w) (i : Int32) (n : Int32) (hl_i : 0 ≤ i.toInt) (hh_i : i.toInt ≤ 6)  : NI l G (tyq cI cB cZ cO) yX2_givenBehind cX2_givenBehind 3 (some .int) 2 45 74 ad w [.ref (ad b), .int i, .int n] (fun r w1 => w = w1 ∧ 0 ≤ r.toInt ∧ r.toInt ≤ 30) := by
  refine nk_i (own := "NoonShade$Isle") rfl (by decide) (Nat.le_of_ble_eq_true rfl) ?_
  intro p e s m below meth c ls X hD hN hr hlk h hl
  have hx := X.1.1
  have hb := X.1.2.1
  have hown := X.1.2.2.2.1
  have hts := X.1.2.2.2.2
  have hl : lv_has ls 3 [(0, .ref (ad b)), (1, .int i), (2, .int n)] := hl
  refine lv_aload_n hx hb dX2_givenBehind_0 rfl (lv_at hl 0 rfl) ?_
  obtain ⟨q2, q3, q4, q5, q6, f1, h7, h8, h9, h10⟩ := (show sI ad b (w b) from ok.b0 hbB)
  have f11 : w b = .inr (1, [.int q2, .int q3, .int q4, .int q5, .int q6, .ref (ad (b + 1)), .ref (ad (b + 2)), .ref (ad (b + 3)), .ref (ad (b + 4)), .ref (ad (b + 5)), .ref (ad (b + 6)), .ref (ad (b + 7)), .ref (ad (b + 9)), .ref (ad (b + 11))]) := f1
  refine r_get kc2 X h b 5 (by have := isB.lt hbB; omega) rfl f11 (by decide) kv_20 rfl dX2_givenBehind_1 ?_
  refine lv_iload_n hx hb dX2_givenBehind_4 rfl (lv_at hl 1 rfl) ?_
  obtain ⟨g13, f12, p14⟩ := (show sA cI 7 (anyA) (w (b + 1)) from ok.b1 hbB)
  have f15 : w (b + 1) = .inl (cI, 7, .inl g13) := f12
  obtain ⟨v16, e17⟩ : ∃ z : Int32, g13 (i).toNatClampNeg = z := ⟨_, rfl⟩
  refine o_iald (v := v16) X h (b + 1) 0 (by have := isB.lt hbB; omega) rfl f15 rfl (in_of (by omega) (by omega)) e17 dX2_givenBehind_5 ?_
  refine lv_aload_n hx hb dX2_givenBehind_6 rfl (lv_at hl 0 rfl) ?_
  refine r_get kc2 X h b 6 (by have := isB.lt hbB; omega) rfl f11 (by decide) kv_21 rfl dX2_givenBehind_7 ?_
  refine lv_iload_n hx hb dX2_givenBehind_10 rfl (lv_at hl 1 rfl) ?_
  obtain ⟨g20, f19, p21⟩ := (show sA cI 7 (rgA 0 9) (w (b + 2)) from ok.b2 hbB)
  have f22 : w (b + 2) = .inl (cI, 7, .inl g20) := f19
  obtain ⟨v23, e24⟩ : ∃ z : Int32, g20 (i).toNatClampNeg = z := ⟨_, rfl⟩
  have h25 := rgA_rd p21 e24
  refine o_iald (v := v23) X h (b + 2) 0 (by have := isB.lt hbB; omega) rfl f22 rfl (in_of (by omega) (by omega)) e24 dX2_givenBehind_11 ?_
  refine lv_aload_n hx hb dX2_givenBehind_12 rfl (lv_at hl 0 rfl) ?_
  refine r_get kc2 X h b 0 (by have := isB.lt hbB; omega) rfl f11 (by decide) kv_26 rfl dX2_givenBehind_13 ?_
  refine lv_iload_n hx hb dX2_givenBehind_16 rfl (lv_at hl 2 rfl) ?_
  obtain ⟨z28, e26⟩ : ∃ z : Int32, q2 + n = z := ⟨_, rfl⟩
  refine o_iadd (z := z28) hx hb dX2_givenBehind_17 e26 ?_
  refine lv_bipush (v := 24) hx hb dX2_givenBehind_18 (by decide) ?_
  obtain ⟨z31, e29, t30, t30b⟩ := x_rem24 z28
  refine o_irem (z := z31) hx hb dX2_givenBehind_20 (by decide) e29 ?_
  refine n_Si (na := 3) (As := [.int v16, .int v23, .int z31]) (rest := []) X hD hN h (c_given l G cI cB cZ cO ad w   v16 v23 z31 (by omega) (by omega) (by omega) (by omega) ) ⟨kv_27, kv_28, kv_29, kv_30⟩ ⟨by decide, by decide, by decide⟩ ⟨Nat.le_of_ble_eq_true rfl, Nat.le_of_ble_eq_true rfl⟩ ⟨Nat.zero_le _, Nat.zero_le _⟩ rfl hl.1 rfl (Nat.le_of_ble_eq_true rfl) dX2_givenBehind_21 (fun r32 w33 H locs hp34 h => ?_)
  obtain ⟨rfl, hr35⟩ := hp34
  obtain ⟨h36, h37⟩ := hr35
  exact e_i X h hr hlk dX2_givenBehind_24 ⟨rfl, ⟨by omega, by omega⟩⟩

set_option maxHeartbeats 4000000 in
set_option maxRecDepth 100000 in
theorem c_coolBehind (l : Launch) (G : va_G) (cI cB cZ cO : ClassId) (ad : Nat → Nat) (w : Nat → va_E) (b : Nat) (hbB : isB b) (ok : OK cI cB cZ cO ad w) (j : Int32) (n : Int32) (hl_j : 0 ≤ j.toInt) (hh_j : j.toInt ≤ 3) (hl_n : 0 ≤ n.toInt) (hh_n : n.toInt ≤ 60)  : NI l G (tyq cI cB cZ cO) yX2_coolBehind cX2_coolBehind 3 (some .int) 3 72 74 ad w [.ref (ad b), .int j, .int n] (fun r w1 => w = w1 ∧ 0 ≤ r.toInt ∧ r.toInt ≤ 60) := by
  refine nk_i (own := "NoonShade$Isle") rfl (by decide) (Nat.le_of_ble_eq_true rfl) ?_
  intro p e s m below meth c ls X hD hN hr hlk h hl
  have hx := X.1.1
  have hb := X.1.2.1
  have hown := X.1.2.2.2.1
  have hts := X.1.2.2.2.2
  have hl : lv_has ls 3 [(0, .ref (ad b)), (1, .int j), (2, .int n)] := hl
  refine lv_aload_n hx hb dX2_coolBehind_0 rfl (lv_at hl 0 rfl) ?_
  obtain ⟨q2, q3, q4, q5, q6, f1, h7, h8, h9, h10⟩ := (show sI ad b (w b) from ok.b0 hbB)
  have f11 : w b = .inr (1, [.int q2, .int q3, .int q4, .int q5, .int q6, .ref (ad (b + 1)), .ref (ad (b + 2)), .ref (ad (b + 3)), .ref (ad (b + 4)), .ref (ad (b + 5)), .ref (ad (b + 6)), .ref (ad (b + 7)), .ref (ad (b + 9)), .ref (ad (b + 11))]) := f1
  refine r_get kc2 X h b 8 (by have := isB.lt hbB; omega) rfl f11 (by decide) kv_23 rfl dX2_coolBehind_1 ?_
  refine lv_iload_n hx hb dX2_coolBehind_4 rfl (lv_at hl 1 rfl) ?_
  obtain ⟨g13, f12, p14⟩ := (show sA cI 4 (anyA) (w (b + 4)) from ok.b4 hbB)
  have f15 : w (b + 4) = .inl (cI, 4, .inl g13) := f12
  obtain ⟨v16, e17⟩ : ∃ z : Int32, g13 (j).toNatClampNeg = z := ⟨_, rfl⟩
  refine o_iald (v := v16) X h (b + 4) 0 (by have := isB.lt hbB; omega) rfl f15 rfl (in_of (by omega) (by omega)) e17 dX2_coolBehind_5 ?_
  refine lv_aload_n hx hb dX2_coolBehind_6 rfl (lv_at hl 0 rfl) ?_
  refine r_get kc2 X h b 9 (by have := isB.lt hbB; omega) rfl f11 (by decide) kv_24 rfl dX2_coolBehind_7 ?_
  refine lv_iload_n hx hb dX2_coolBehind_10 rfl (lv_at hl 1 rfl) ?_
  obtain ⟨g20, f19, p21⟩ := (show sA cI 4 (rgA 0 60) (w (b + 5)) from ok.b5 hbB)
  have f22 : w (b + 5) = .inl (cI, 4, .inl g20) := f19
  obtain ⟨v23, e24⟩ : ∃ z : Int32, g20 (j).toNatClampNeg = z := ⟨_, rfl⟩
  have h25 := rgA_rd p21 e24
  refine o_iald (v := v23) X h (b + 5) 0 (by have := isB.lt hbB; omega) rfl f22 rfl (in_of (by omega) (by omega)) e24 dX2_coolBehind_11 ?_
  refine lv_aload_n hx hb dX2_coolBehind_12 rfl (lv_at hl 0 rfl) ?_
  refine r_get kc2 X h b 0 (by have := isB.lt hbB; omega) rfl f11 (by decide) kv_26 rfl dX2_coolBehind_13 ?_
  refine lv_iload_n hx hb dX2_coolBehind_16 rfl (lv_at hl 2 rfl) ?_
  refine n_Si (na := 4) (As := [.int v16, .int v23, .int q2, .int n]) (rest := []) X hD hN h (c_keptBehind l G cI cB cZ cO ad w   v16 v23 q2 n (by omega) (by omega) (by omega) (by omega) ) ⟨kv_31, kv_32, kv_9, kv_33⟩ ⟨by decide, by decide, by decide⟩ ⟨Nat.le_of_ble_eq_true rfl, Nat.le_of_ble_eq_true rfl⟩ ⟨Nat.zero_le _, Nat.zero_le _⟩ rfl hl.1 rfl (Nat.le_of_ble_eq_true rfl) dX2_coolBehind_17 (fun r26 w27 H locs hp28 h => ?_)
  obtain ⟨rfl, hr29⟩ := hp28
  obtain ⟨h30, h31⟩ := hr29
  exact e_i X h hr hlk dX2_coolBehind_20 ⟨rfl, ⟨by omega, by omega⟩⟩

set_option maxHeartbeats 4000000 in
set_option maxRecDepth 100000 in
theorem c_mayDraw (l : Launch) (G : va_G) (cI cB cZ cO : ClassId) (ad : Nat → Nat) (w : Nat → va_E) (b : Nat) (hbB : isB b) (ok : OK cI cB cZ cO ad w) (x : Int32) (t : Int32)   : NI l G (tyq cI cB cZ cO) yX2_mayDraw cX2_mayDraw 4 (some .boolean) 1 21 74 ad w [.ref (ad b), .int x, .int t] (fun r w1 => w = w1 ∧ (r = 1 ∨ r = 0)) := by
  refine nk_i (own := "NoonShade$Isle") rfl (by decide) (Nat.le_of_ble_eq_true rfl) ?_
  intro p e s m below meth c ls X hD hN hr hlk h hl
  have hx := X.1.1
  have hb := X.1.2.1
  have hown := X.1.2.2.2.1
  have hts := X.1.2.2.2.2
  have hl : lv_has ls 4 [(0, .ref (ad b)), (1, .int x), (2, .int t)] := hl
  refine lv_iconst (v := 0) hx hb dX2_mayDraw_0 (by decide) ?_
  refine lv_istore_n (lv' := [(3, .int 0), (0, .ref (ad b)), (1, .int x), (2, .int t)]) hx hb dX2_mayDraw_1 rfl hl (by decide) rfl (fun ls hl => ?_)
  have hloop2 : ∀ (d3 : Nat) (L1 : Int32) (H : Heap) (locs : List Loc) (ls : Array Slot), 0 ≤ L1.toInt → L1.toInt ≤ 7 → 7 - L1.toInt < (d3 : Int) → St G 74 ad (wA 74 ad s.heap.size) s.heap w H locs → lv_has ls 4 [(3, .int L1), (0, .ref (ad b)), (1, .int x), (2, .int t)] → W p l e { frames := 1, cells := 0, slots := 0, locals := 21 } s m [.ref (ad b), .int x, .int t].toArray below meth c H locs 0 0 (MQ below (va_Qi (fun r w1 => w = w1 ∧ (r = 1 ∨ r = 0)) (Aft G 74 ad) (wA 74 ad s.heap.size)) [.ref (ad b), .int x, .int t].toArray s 0 0 (wA 74 ad s.heap.size)) (F0 m 2 ls []) := by
    intro d3
    induction d3 with
    | zero => intro L1 H locs ls hi6 hi7 hm5 h hl; exfalso; omega
    | succ d3 ih4 =>
      intro L1 H locs ls hi6 hi7 hm5 h hl
      refine lv_iload_n hx hb dX2_mayDraw_2 rfl (lv_at hl 0 rfl) ?_
      refine lv_aload_n hx hb dX2_mayDraw_3 rfl (lv_at hl 1 rfl) ?_
      obtain ⟨q12, q13, q14, q15, q16, f11, h17, h18, h19, h20⟩ := (show sI ad b (w b) from ok.b0 hbB)
      have f21 : w b = .inr (1, [.int q12, .int q13, .int q14, .int q15, .int q16, .ref (ad (b + 1)), .ref (ad (b + 2)), .ref (ad (b + 3)), .ref (ad (b + 4)), .ref (ad (b + 5)), .ref (ad (b + 6)), .ref (ad (b + 7)), .ref (ad (b + 9)), .ref (ad (b + 11))]) := f11
      refine r_get kc2 X h b 3 (by have := isB.lt hbB; omega) rfl f21 (by decide) kv_17 rfl dX2_mayDraw_4 ?_
      refine lv_icmp_ge (tgt := 44) hx hb dX2_mayDraw_7 (by decide) (fun hc22 => ?_) (fun hc22 => ?_)
      · have hc22 : (q15).toInt ≤ (L1).toInt := i_le hc22 rfl rfl
        refine lv_iconst (v := 1) hx hb dX2_mayDraw_44 (by decide) ?_
        exact e_n X h hr hlk rfl dX2_mayDraw_45 ⟨rfl, Or.inl rfl⟩
      · have hc22 : ¬ (q15).toInt ≤ (L1).toInt := i_nle hc22 rfl rfl
        refine lv_iload_n hx hb dX2_mayDraw_10 rfl (lv_at hl 2 rfl) ?_
        refine lv_iload_n hx hb dX2_mayDraw_11 rfl (lv_at hl 0 rfl) ?_
        obtain ⟨z25, e23⟩ : ∃ z : Int32, x >>> (L1 &&& 31) = z := ⟨_, rfl⟩
        refine o_ishr (z := z25) hx hb dX2_mayDraw_12 e23 ?_
        refine lv_iconst (v := 1) hx hb dX2_mayDraw_13 (by decide) ?_
        obtain ⟨z28, e26⟩ : ∃ z : Int32, z25 &&& (1 : Int32) = z := ⟨_, rfl⟩
        refine o_iand (z := z28) hx hb dX2_mayDraw_14 e26 ?_
        refine lv_if_eq (tgt := 38) hx hb dX2_mayDraw_15 (by decide) (fun hc29 => ?_) (fun hc29 => ?_)
        · have hc29 : (z28).toInt = 0 := i_eq hc29 rfl rfl
          obtain ⟨z30, e31, t32⟩ := x_add (x := L1) (y := 1) (a := L1.toInt) (b := 1) rfl rfl (by omega) (by omega)
          refine lv_iinc (v := z30) (lv' := [(3, .int z30), (0, .ref (ad b)), (1, .int x), (2, .int t)]) hx hb dX2_mayDraw_38 hl (k := 0) rfl e31 (by decide) rfl (fun ls hl => ?_)
          refine lv_goto (tgt := 2) hx hb dX2_mayDraw_41 (by decide) ?_
          exact ih4  z30  _ _ _ (by omega) (by omega)  (by omega) h (lv_sub hl [0, 1, 2, 3] rfl)
        · have hc29 : ¬ (z28).toInt = 0 := i_ne hc29 rfl rfl
          refine lv_aload_n hx hb dX2_mayDraw_18 rfl (lv_at hl 1 rfl) ?_
          refine lv_iload_n hx hb dX2_mayDraw_19 rfl (lv_at hl 0 rfl) ?_
          refine n_Vi (na := 1) (As := [.int L1]) (rest := []) X hD hN h rfl (c_isMilked l G cI cB cZ cO ad w b hbB ok L1  ) ⟨kv_34, kv_35, kv_36, kv_37, kv_38⟩ rfl ⟨by decide, by decide, by decide⟩ ⟨Nat.le_of_ble_eq_true rfl, Nat.le_of_ble_eq_true rfl⟩ ⟨Nat.zero_le _, Nat.zero_le _⟩ (by have := isB.lt hbB; omega) f21 rfl rfl hl.1 rfl (Nat.le_of_ble_eq_true rfl) dX2_mayDraw_20 (fun r33 w34 H locs hp35 h => ?_)
          obtain ⟨rfl, hr36⟩ := hp35
          rcases hr36 with rfl | rfl
          · refine lv_if_ne (tgt := 36) hx hb dX2_mayDraw_23 (by decide) (fun _ => ?_) (fun hc => absurd hc (by decide))
            refine lv_iconst (v := 0) hx hb dX2_mayDraw_36 (by decide) ?_
            exact e_n X h hr hlk rfl dX2_mayDraw_37 ⟨rfl, Or.inr rfl⟩
          · refine lv_if_ne (tgt := 36) hx hb dX2_mayDraw_23 (by decide) (fun hc => absurd (by decide) hc) (fun _ => ?_)
            refine lv_aload_n hx hb dX2_mayDraw_26 rfl (lv_at hl 1 rfl) ?_
            refine r_get kc2 X h b 7 (by have := isB.lt hbB; omega) rfl f21 (by decide) kv_22 rfl dX2_mayDraw_27 ?_
            refine lv_iload_n hx hb dX2_mayDraw_30 rfl (lv_at hl 0 rfl) ?_
            obtain ⟨g38, f37, p39⟩ := (show sA cI 7 (anyA) (w (b + 3)) from ok.b3 hbB)
            have f40 : w (b + 3) = .inl (cI, 7, .inl g38) := f37
            obtain ⟨v41, e42⟩ : ∃ z : Int32, g38 (L1).toNatClampNeg = z := ⟨_, rfl⟩
            refine o_iald (v := v41) X h (b + 3) 0 (by have := isB.lt hbB; omega) rfl f40 rfl (in_of (by omega) (by omega)) e42 dX2_mayDraw_31 ?_
            refine lv_iload_n hx hb dX2_mayDraw_32 rfl (lv_at hl 3 rfl) ?_
            refine lv_icmp_eq (tgt := 38) hx hb dX2_mayDraw_33 (by decide) (fun hc44 => ?_) (fun hc44 => ?_)
            · have hc44 : (v41).toInt = (t).toInt := i_eq hc44 rfl rfl
              obtain ⟨z45, e46, t47⟩ := x_add (x := L1) (y := 1) (a := L1.toInt) (b := 1) rfl rfl (by omega) (by omega)
              refine lv_iinc (v := z45) (lv' := [(3, .int z45), (0, .ref (ad b)), (1, .int x), (2, .int t)]) hx hb dX2_mayDraw_38 hl (k := 0) rfl e46 (by decide) rfl (fun ls hl => ?_)
              refine lv_goto (tgt := 2) hx hb dX2_mayDraw_41 (by decide) ?_
              exact ih4  z45  _ _ _ (by omega) (by omega)  (by omega) h (lv_sub hl [0, 1, 2, 3] rfl)
            · have hc44 : ¬ (v41).toInt = (t).toInt := i_ne hc44 rfl rfl
              refine lv_iconst (v := 0) hx hb dX2_mayDraw_36 (by decide) ?_
              exact e_n X h hr hlk rfl dX2_mayDraw_37 ⟨rfl, Or.inr rfl⟩
  exact hloop2 8 (0 : Int32)  _ _ _ (by have q0 : (0 : Int32).toInt = 0 := rfl; omega) (by have q0 : (0 : Int32).toInt = 0 := rfl; omega)  (by have q0 : (0 : Int32).toInt = 0 := rfl; omega) h (lv_sub hl [0, 1, 2, 3] rfl)

set_option maxHeartbeats 4000000 in
set_option maxRecDepth 100000 in
theorem c_givenBy (l : Launch) (G : va_G) (cI cB cZ cO : ClassId) (ad : Nat → Nat) (w : Nat → va_E) (b : Nat) (hbB : isB b) (ok : OK cI cB cZ cO ad w) (x : Int32)   : NI l G (tyq cI cB cZ cO) yX2_givenBy cX2_givenBy 4 (some .int) 3 67 74 ad w [.ref (ad b), .int x] (fun r w1 => w = w1 ∧ True) := by
  refine nk_i (own := "NoonShade$Isle") rfl (by decide) (Nat.le_of_ble_eq_true rfl) ?_
  intro p e s m below meth c ls X hD hN hr hlk h hl
  have hx := X.1.1
  have hb := X.1.2.1
  have hown := X.1.2.2.2.1
  have hts := X.1.2.2.2.2
  have hl : lv_has ls 4 [(0, .ref (ad b)), (1, .int x)] := hl
  refine lv_iconst (v := 0) hx hb dX2_givenBy_0 (by decide) ?_
  refine lv_istore_n (lv' := [(2, .int 0), (0, .ref (ad b)), (1, .int x)]) hx hb dX2_givenBy_1 rfl hl (by decide) rfl (fun ls hl => ?_)
  refine lv_iconst (v := 0) hx hb dX2_givenBy_2 (by decide) ?_
  refine lv_istore_n (lv' := [(3, .int 0), (2, .int 0), (0, .ref (ad b)), (1, .int x)]) hx hb dX2_givenBy_3 rfl hl (by decide) rfl (fun ls hl => ?_)
  have hloop3 : ∀ (d4 : Nat) (L1 : Int32) (L2 : Int32) (H : Heap) (locs : List Loc) (ls : Array Slot), 0 ≤ L1.toInt → L1.toInt ≤ 7 → 7 - L1.toInt < (d4 : Int) → St G 74 ad (wA 74 ad s.heap.size) s.heap w H locs → lv_has ls 4 [(3, .int L1), (2, .int L2), (0, .ref (ad b)), (1, .int x)] → W p l e { frames := 3, cells := 0, slots := 0, locals := 67 } s m [.ref (ad b), .int x].toArray below meth c H locs 0 0 (MQ below (va_Qi (fun r w1 => w = w1 ∧ True) (Aft G 74 ad) (wA 74 ad s.heap.size)) [.ref (ad b), .int x].toArray s 0 0 (wA 74 ad s.heap.size)) (F0 m 4 ls []) := by
    intro d4
    induction d4 with
    | zero => intro L1 L2 H locs ls hi7 hi8 hm6 h hl; exfalso; omega
    | succ d4 ih5 =>
      intro L1 L2 H locs ls hi7 hi8 hm6 h hl
      refine lv_iload_n hx hb dX2_givenBy_4 rfl (lv_at hl 0 rfl) ?_
      refine lv_aload_n hx hb dX2_givenBy_5 rfl (lv_at hl 2 rfl) ?_
      obtain ⟨q13, q14, q15, q16, q17, f12, h18, h19, h20, h21⟩ := (show sI ad b (w b) from ok.b0 hbB)
      have f22 : w b = .inr (1, [.int q13, .int q14, .int q15, .int q16, .int q17, .ref (ad (b + 1)), .ref (ad (b + 2)), .ref (ad (b + 3)), .ref (ad (b + 4)), .ref (ad (b + 5)), .ref (ad (b + 6)), .ref (ad (b + 7)), .ref (ad (b + 9)), .ref (ad (b + 11))]) := f12
      refine r_get kc2 X h b 3 (by have := isB.lt hbB; omega) rfl f22 (by decide) kv_17 rfl dX2_givenBy_6 ?_
      refine lv_icmp_ge (tgt := 35) hx hb dX2_givenBy_9 (by decide) (fun hc23 => ?_) (fun hc23 => ?_)
      · have hc23 : (q16).toInt ≤ (L1).toInt := i_le hc23 rfl rfl
        refine lv_iload_n hx hb dX2_givenBy_35 rfl (lv_at hl 1 rfl) ?_
        exact e_i X h hr hlk dX2_givenBy_36 ⟨rfl, trivial⟩
      · have hc23 : ¬ (q16).toInt ≤ (L1).toInt := i_nle hc23 rfl rfl
        refine lv_iload_n hx hb dX2_givenBy_12 rfl (lv_at hl 3 rfl) ?_
        refine lv_iload_n hx hb dX2_givenBy_13 rfl (lv_at hl 0 rfl) ?_
        obtain ⟨z26, e24⟩ : ∃ z : Int32, x >>> (L1 &&& 31) = z := ⟨_, rfl⟩
        refine o_ishr (z := z26) hx hb dX2_givenBy_14 e24 ?_
        refine lv_iconst (v := 1) hx hb dX2_givenBy_15 (by decide) ?_
        obtain ⟨z29, e27⟩ : ∃ z : Int32, z26 &&& (1 : Int32) = z := ⟨_, rfl⟩
        refine o_iand (z := z29) hx hb dX2_givenBy_16 e27 ?_
        refine lv_if_eq (tgt := 29) hx hb dX2_givenBy_17 (by decide) (fun hc30 => ?_) (fun hc30 => ?_)
        · have hc30 : (z29).toInt = 0 := i_eq hc30 rfl rfl
          obtain ⟨z31, e32, t33⟩ := x_add (x := L1) (y := 1) (a := L1.toInt) (b := 1) rfl rfl (by omega) (by omega)
          refine lv_iinc (v := z31) (lv' := [(3, .int z31), (2, .int L2), (0, .ref (ad b)), (1, .int x)]) hx hb dX2_givenBy_29 hl (k := 0) rfl e32 (by decide) rfl (fun ls hl => ?_)
          refine lv_goto (tgt := 4) hx hb dX2_givenBy_32 (by decide) ?_
          exact ih5  z31 L2  _ _ _ (by omega) (by omega)  (by omega) h (lv_sub hl [0, 1, 2, 3] rfl)
        · have hc30 : ¬ (z29).toInt = 0 := i_ne hc30 rfl rfl
          refine lv_iload_n hx hb dX2_givenBy_20 rfl (lv_at hl 1 rfl) ?_
          refine lv_aload_n hx hb dX2_givenBy_21 rfl (lv_at hl 2 rfl) ?_
          refine lv_iload_n hx hb dX2_givenBy_22 rfl (lv_at hl 0 rfl) ?_
          refine lv_iconst (v := 0) hx hb dX2_givenBy_23 (by decide) ?_
          refine n_Vi (na := 2) (As := [.int L1, .int 0]) (rest := [.int L2]) X hD hN h rfl (c_givenBehind l G cI cB cZ cO ad w b hbB ok L1 (0 : Int32) (by omega) (by omega) ) ⟨kv_39, kv_40, kv_41, kv_37, kv_42⟩ rfl ⟨by decide, by decide, by decide⟩ ⟨Nat.le_of_ble_eq_true rfl, Nat.le_of_ble_eq_true rfl⟩ ⟨Nat.zero_le _, Nat.zero_le _⟩ (by have := isB.lt hbB; omega) f22 rfl rfl hl.1 rfl (Nat.le_of_ble_eq_true rfl) dX2_givenBy_24 (fun r34 w35 H locs hp36 h => ?_)
          obtain ⟨rfl, hr37⟩ := hp36
          obtain ⟨h38, h39⟩ := hr37
          obtain ⟨z42, e40⟩ : ∃ z : Int32, L2 + r34 = z := ⟨_, rfl⟩
          refine o_iadd (z := z42) hx hb dX2_givenBy_27 e40 ?_
          refine lv_istore_n (lv' := [(2, .int z42), (3, .int L1), (0, .ref (ad b)), (1, .int x)]) hx hb dX2_givenBy_28 rfl hl (by decide) rfl (fun ls hl => ?_)
          obtain ⟨z43, e44, t45⟩ := x_add (x := L1) (y := 1) (a := L1.toInt) (b := 1) rfl rfl (by omega) (by omega)
          refine lv_iinc (v := z43) (lv' := [(3, .int z43), (2, .int z42), (0, .ref (ad b)), (1, .int x)]) hx hb dX2_givenBy_29 hl (k := 1) rfl e44 (by decide) rfl (fun ls hl => ?_)
          refine lv_goto (tgt := 4) hx hb dX2_givenBy_32 (by decide) ?_
          exact ih5  z43 z42  _ _ _ (by omega) (by omega)  (by omega) h (lv_sub hl [0, 1, 2, 3] rfl)
  exact hloop3 8 (0 : Int32) (0 : Int32)  _ _ _ (by have q0 : (0 : Int32).toInt = 0 := rfl; omega) (by have q0 : (0 : Int32).toInt = 0 := rfl; omega)  (by have q0 : (0 : Int32).toInt = 0 := rfl; omega) h (lv_sub hl [0, 1, 2, 3] rfl)

set_option maxHeartbeats 4000000 in
set_option maxRecDepth 100000 in
theorem c_coolInAll (l : Launch) (G : va_G) (cI cB cZ cO : ClassId) (ad : Nat → Nat) (w : Nat → va_E) (b : Nat) (hbB : isB b) (ok : OK cI cB cZ cO ad w)    : NI l G (tyq cI cB cZ cO) yX2_coolInAll cX2_coolInAll 3 (some .int) 0 0 74 ad w [.ref (ad b)] (fun r w1 => w = w1 ∧ True) := by
  refine nk_i (own := "NoonShade$Isle") rfl (by decide) (Nat.le_of_ble_eq_true rfl) ?_
  intro p e s m below meth c ls X hD hN hr hlk h hl
  have hx := X.1.1
  have hb := X.1.2.1
  have hown := X.1.2.2.2.1
  have hts := X.1.2.2.2.2
  have hl : lv_has ls 3 [(0, .ref (ad b))] := hl
  refine lv_iconst (v := 0) hx hb dX2_coolInAll_0 (by decide) ?_
  refine lv_istore_n (lv' := [(1, .int 0), (0, .ref (ad b))]) hx hb dX2_coolInAll_1 rfl hl (by decide) rfl (fun ls hl => ?_)
  refine lv_iconst (v := 0) hx hb dX2_coolInAll_2 (by decide) ?_
  refine lv_istore_n (lv' := [(2, .int 0), (1, .int 0), (0, .ref (ad b))]) hx hb dX2_coolInAll_3 rfl hl (by decide) rfl (fun ls hl => ?_)
  have hloop3 : ∀ (d4 : Nat) (L1 : Int32) (L2 : Int32) (H : Heap) (locs : List Loc) (ls : Array Slot), 0 ≤ L1.toInt → L1.toInt ≤ 4 → 4 - L1.toInt < (d4 : Int) → St G 74 ad (wA 74 ad s.heap.size) s.heap w H locs → lv_has ls 3 [(2, .int L1), (1, .int L2), (0, .ref (ad b))] → W p l e { frames := 0, cells := 0, slots := 0, locals := 0 } s m [.ref (ad b)].toArray below meth c H locs 0 0 (MQ below (va_Qi (fun r w1 => w = w1 ∧ True) (Aft G 74 ad) (wA 74 ad s.heap.size)) [.ref (ad b)].toArray s 0 0 (wA 74 ad s.heap.size)) (F0 m 4 ls []) := by
    intro d4
    induction d4 with
    | zero => intro L1 L2 H locs ls hi7 hi8 hm6 h hl; exfalso; omega
    | succ d4 ih5 =>
      intro L1 L2 H locs ls hi7 hi8 hm6 h hl
      refine lv_iload_n hx hb dX2_coolInAll_4 rfl (lv_at hl 0 rfl) ?_
      refine lv_aload_n hx hb dX2_coolInAll_5 rfl (lv_at hl 2 rfl) ?_
      obtain ⟨q13, q14, q15, q16, q17, f12, h18, h19, h20, h21⟩ := (show sI ad b (w b) from ok.b0 hbB)
      have f22 : w b = .inr (1, [.int q13, .int q14, .int q15, .int q16, .int q17, .ref (ad (b + 1)), .ref (ad (b + 2)), .ref (ad (b + 3)), .ref (ad (b + 4)), .ref (ad (b + 5)), .ref (ad (b + 6)), .ref (ad (b + 7)), .ref (ad (b + 9)), .ref (ad (b + 11))]) := f12
      refine r_get kc2 X h b 4 (by have := isB.lt hbB; omega) rfl f22 (by decide) kv_18 rfl dX2_coolInAll_6 ?_
      refine lv_icmp_ge (tgt := 27) hx hb dX2_coolInAll_9 (by decide) (fun hc23 => ?_) (fun hc23 => ?_)
      · have hc23 : (q17).toInt ≤ (L1).toInt := i_le hc23 rfl rfl
        refine lv_iload_n hx hb dX2_coolInAll_27 rfl (lv_at hl 1 rfl) ?_
        exact e_i X h hr hlk dX2_coolInAll_28 ⟨rfl, trivial⟩
      · have hc23 : ¬ (q17).toInt ≤ (L1).toInt := i_nle hc23 rfl rfl
        refine lv_iload_n hx hb dX2_coolInAll_12 rfl (lv_at hl 1 rfl) ?_
        refine lv_aload_n hx hb dX2_coolInAll_13 rfl (lv_at hl 2 rfl) ?_
        refine r_get kc2 X h b 9 (by have := isB.lt hbB; omega) rfl f22 (by decide) kv_24 rfl dX2_coolInAll_14 ?_
        refine lv_iload_n hx hb dX2_coolInAll_17 rfl (lv_at hl 0 rfl) ?_
        obtain ⟨g25, f24, p26⟩ := (show sA cI 4 (rgA 0 60) (w (b + 5)) from ok.b5 hbB)
        have f27 : w (b + 5) = .inl (cI, 4, .inl g25) := f24
        obtain ⟨v28, e29⟩ : ∃ z : Int32, g25 (L1).toNatClampNeg = z := ⟨_, rfl⟩
        have h30 := rgA_rd p26 e29
        refine o_iald (v := v28) X h (b + 5) 0 (by have := isB.lt hbB; omega) rfl f27 rfl (in_of (by omega) (by omega)) e29 dX2_coolInAll_18 ?_
        obtain ⟨z33, e31⟩ : ∃ z : Int32, L2 + v28 = z := ⟨_, rfl⟩
        refine o_iadd (z := z33) hx hb dX2_coolInAll_19 e31 ?_
        refine lv_istore_n (lv' := [(1, .int z33), (2, .int L1), (0, .ref (ad b))]) hx hb dX2_coolInAll_20 rfl hl (by decide) rfl (fun ls hl => ?_)
        obtain ⟨z34, e35, t36⟩ := x_add (x := L1) (y := 1) (a := L1.toInt) (b := 1) rfl rfl (by omega) (by omega)
        refine lv_iinc (v := z34) (lv' := [(2, .int z34), (1, .int z33), (0, .ref (ad b))]) hx hb dX2_coolInAll_21 hl (k := 1) rfl e35 (by decide) rfl (fun ls hl => ?_)
        refine lv_goto (tgt := 4) hx hb dX2_coolInAll_24 (by decide) ?_
        exact ih5  z34 z33  _ _ _ (by omega) (by omega)  (by omega) h (lv_sub hl [0, 1, 2] rfl)
  exact hloop3 5 (0 : Int32) (0 : Int32)  _ _ _ (by have q0 : (0 : Int32).toInt = 0 := rfl; omega) (by have q0 : (0 : Int32).toInt = 0 := rfl; omega)  (by have q0 : (0 : Int32).toInt = 0 := rfl; omega) h (lv_sub hl [0, 1, 2] rfl)

set_option maxHeartbeats 4000000 in
set_option maxRecDepth 100000 in
theorem c_fill (l : Launch) (G : va_G) (cI cB cZ cO : ClassId) (ad : Nat → Nat) (w : Nat → va_E) (b : Nat) (hd : isD b) (f t0 : Nat → Int32) (ok : OK cI cB cZ cO ad w) (j : Int32) (x : Int32) (t : Int32) (hl_j : 0 ≤ j.toInt) (hh_j : j.toInt ≤ 3) (hl_x : 0 ≤ x.toInt) (hh_x : x.toInt ≤ 60) (pf5 : w (b + 5) = .inl (cI, 4, .inl f)) (pf6 : w (b + 6) = .inl (cI, 4, .inl t0)) (pr5 : rgA 0 60 f) (pr6 : anyA t0) : NI l G (tyq cI cB cZ cO) yX2_fill cX2_fill 5 (some .int) 1 21 74 ad w [.ref (ad b), .int j, .int x, .int t] (fun r w1 => OK cI cB cZ cO ad w1 ∧ KB b w w1 ∧ ∃ f1 : Nat → Int32, w1 (b + 5) = .inl (cI, 4, .inl f1) ∧ rgA 0 60 f1 ∧ (∀ n, (f n).toInt ≤ (f1 n).toInt) ∧ 0 ≤ r.toInt ∧ r.toInt ≤ x.toInt) := by
  refine nk_i (own := "NoonShade$Isle") rfl (by decide) (Nat.le_of_ble_eq_true rfl) ?_
  intro p e s m below meth c ls X hD hN hr hlk h hl
  have hx := X.1.1
  have hb := X.1.2.1
  have hown := X.1.2.2.2.1
  have hts := X.1.2.2.2.2
  have hl : lv_has ls 5 [(0, .ref (ad b)), (1, .int j), (2, .int x), (3, .int t)] := hl
  refine lv_iload_n hx hb dX2_fill_0 rfl (lv_at hl 2 rfl) ?_
  refine lv_bipush (v := 60) hx hb dX2_fill_1 (by decide) ?_
  refine lv_aload_n hx hb dX2_fill_3 rfl (lv_at hl 0 rfl) ?_
  obtain ⟨q2, q3, q4, q5, q6, f1, h7, h8, h9, h10⟩ := (show sI ad b (w b) from ok.b0 (isD.b hd))
  have f11 : w b = .inr (1, [.int q2, .int q3, .int q4, .int q5, .int q6, .ref (ad (b + 1)), .ref (ad (b + 2)), .ref (ad (b + 3)), .ref (ad (b + 4)), .ref (ad (b + 5)), .ref (ad (b + 6)), .ref (ad (b + 7)), .ref (ad (b + 9)), .ref (ad (b + 11))]) := f1
  refine r_get kc2 X h b 9 (by have := isB.lt (isD.b hd); omega) rfl f11 (by decide) kv_24 rfl dX2_fill_4 ?_
  refine lv_iload_n hx hb dX2_fill_7 rfl (lv_at hl 1 rfl) ?_
  obtain ⟨v12, e13⟩ : ∃ z : Int32, f (j).toNatClampNeg = z := ⟨_, rfl⟩
  have h14 := rgA_rd pr5 e13
  refine o_iald (v := v12) X h (b + 5) 0 (by have := isB.lt (isD.b hd); omega) rfl pf5 rfl (in_of (by omega) (by omega)) e13 dX2_fill_8 ?_
  obtain ⟨z17, e15, t16⟩ := x_sub (x := (60 : Int32)) (y := v12) (a := 60) (b := (v12).toInt) rfl rfl (by omega) (by omega)
  refine o_isub (z := z17) hx hb dX2_fill_9 e15 ?_
  obtain ⟨z18, e19, t20, t21, t22⟩ := x_min x z17
  refine o_mmin X hl.1 kv_43 kv_5 kv_2 kv_6 ⟨Nat.le_of_ble_eq_true rfl, Nat.le_of_ble_eq_true rfl⟩ (Nat.le_of_ble_eq_true rfl) ⟨Nat.zero_le _, Nat.zero_le _⟩ e19 dX2_fill_10 ?_
  refine lv_istore (lv' := [(4, .int z18), (0, .ref (ad b)), (1, .int j), (2, .int x), (3, .int t)]) hx hb dX2_fill_13 hl (by decide) rfl (fun ls hl => ?_)
  refine lv_iload hx hb dX2_fill_15 (lv_at hl 0 rfl) ?_
  refine lv_if_le (tgt := 61) hx hb dX2_fill_17 (by decide) (fun hc23 => ?_) (fun hc23 => ?_)
  · have hc23 : (z18).toInt ≤ 0 := i_le hc23 rfl rfl
    refine lv_iload hx hb dX2_fill_61 (lv_at hl 0 rfl) ?_
    exact e_i X h hr hlk dX2_fill_63 ⟨ok, KB.rf, f, pf5, pr5, fun n => Int.le_refl _, by omega, by omega⟩
  · have hc23 : ¬ (z18).toInt ≤ 0 := i_nle hc23 rfl rfl
    refine lv_aload_n hx hb dX2_fill_20 rfl (lv_at hl 1 rfl) ?_
    refine r_get kc2 X h b 10 (by have := isB.lt (isD.b hd); omega) rfl f11 (by decide) kv_25 rfl dX2_fill_21 ?_
    refine lv_iload_n hx hb dX2_fill_24 rfl (lv_at hl 2 rfl) ?_
    refine lv_aload_n hx hb dX2_fill_25 rfl (lv_at hl 1 rfl) ?_
    refine r_get kc2 X h b 9 (by have := isB.lt (isD.b hd); omega) rfl f11 (by decide) kv_24 rfl dX2_fill_26 ?_
    refine lv_iload_n hx hb dX2_fill_29 rfl (lv_at hl 2 rfl) ?_
    refine o_iald (v := v12) X h (b + 5) 0 (by have := isB.lt (isD.b hd); omega) rfl pf5 rfl (in_of (by omega) (by omega)) e13 dX2_fill_30 ?_
    refine lv_if_eq (tgt := 44) hx hb dX2_fill_31 (by decide) (fun hc24 => ?_) (fun hc24 => ?_)
    · have hc24 : (v12).toInt = 0 := i_eq hc24 rfl rfl
      refine lv_iload_n hx hb dX2_fill_44 rfl (lv_at hl 4 rfl) ?_
      refine lv_goto (tgt := 49) hx hb dX2_fill_45 (by decide) ?_
      obtain ⟨g25, e26⟩ : ∃ z : Nat → Int32, upd t0 (j).toNatClampNeg t = z := ⟨_, rfl⟩
      have p27 : anyA g25 := trivial
      refine o_iast (f1 := g25) X hD h (b + 6) 0 (by have := isB.lt (isD.b hd); omega) rfl pf6 rfl (in_of (by omega) (by omega)) e26 dX2_fill_49 (fun H locs w28 e29 h => ?_)
      have f30 : w28 (b + 6) = .inl (cI, 4, .inl g25) := (congrFun e29 _).trans (va_up_self _ _ _)
      have ok31 : OK cI cB cZ cO ad w28 := OK.up ok e29 (Eq.mpr (okc_b6 (isD.b hd)) (sA_mk p27))
      have kx32 : KB b w w28 := KB.up KB.rf e29 pf6 (by rcases hd with rfl | rfl <;> rfl) (by omega)
      refine lv_aload_n hx hb dX2_fill_50 rfl (lv_at hl 1 rfl) ?_
      have f33 : w28 b = .inr (1, [.int q2, .int q3, .int q4, .int q5, .int q6, .ref (ad (b + 1)), .ref (ad (b + 2)), .ref (ad (b + 3)), .ref (ad (b + 4)), .ref (ad (b + 5)), .ref (ad (b + 6)), .ref (ad (b + 7)), .ref (ad (b + 9)), .ref (ad (b + 11))]) := by rw [e29, va_up_ne _ _ (by omega)]; exact f11
      refine r_get kc2 X h b 9 (by have := isB.lt (isD.b hd); omega) rfl f33 (by decide) kv_24 rfl dX2_fill_51 ?_
      refine lv_iload_n hx hb dX2_fill_54 rfl (lv_at hl 2 rfl) ?_
      refine lv_dup2_11 hx hb dX2_fill_55 rfl rfl ?_
      have f34 : w28 (b + 5) = .inl (cI, 4, .inl f) := by rw [e29, va_up_ne _ _ (by omega)]; exact pf5
      refine o_iald (v := v12) X h (b + 5) 0 (by have := isB.lt (isD.b hd); omega) rfl f34 rfl (in_of (by omega) (by omega)) e13 dX2_fill_56 ?_
      refine lv_iload hx hb dX2_fill_57 (lv_at hl 0 rfl) ?_
      obtain ⟨z37, e35, t36⟩ := x_add (x := v12) (y := z18) (a := (v12).toInt) (b := (z18).toInt) rfl rfl (by omega) (by omega)
      refine o_iadd (z := z37) hx hb dX2_fill_59 e35 ?_
      obtain ⟨g38, e39⟩ : ∃ z : Nat → Int32, upd f (j).toNatClampNeg z37 = z := ⟨_, rfl⟩
      have p40 : rgA 0 60 g38 := rgA_upd pr5 e39 (by omega) (by omega)
      refine o_iast (f1 := g38) X hD h (b + 5) 0 (by have := isB.lt (isD.b hd); omega) rfl f34 rfl (in_of (by omega) (by omega)) e39 dX2_fill_60 (fun H locs w41 e42 h => ?_)
      have f43 : w41 (b + 5) = .inl (cI, 4, .inl g38) := (congrFun e42 _).trans (va_up_self _ _ _)
      have ok44 : OK cI cB cZ cO ad w41 := OK.up ok31 e42 (Eq.mpr (okc_b5 (isD.b hd)) (sA_mk p40))
      have kx45 : KB b w w41 := KB.up kx32 e42 f34 (by rcases hd with rfl | rfl <;> rfl) (by omega)
      refine lv_iload hx hb dX2_fill_61 (lv_at hl 0 rfl) ?_
      exact e_i X h hr hlk dX2_fill_63 ⟨ok44, kx45, g38, f43, p40, up_ge e39 e13 (by omega), by omega, by omega⟩
    · have hc24 : ¬ (v12).toInt = 0 := i_ne hc24 rfl rfl
      refine lv_aload_n hx hb dX2_fill_34 rfl (lv_at hl 1 rfl) ?_
      refine r_get kc2 X h b 10 (by have := isB.lt (isD.b hd); omega) rfl f11 (by decide) kv_25 rfl dX2_fill_35 ?_
      refine lv_iload_n hx hb dX2_fill_38 rfl (lv_at hl 2 rfl) ?_
      obtain ⟨v46, e47⟩ : ∃ z : Int32, t0 (j).toNatClampNeg = z := ⟨_, rfl⟩
      refine o_iald (v := v46) X h (b + 6) 0 (by have := isB.lt (isD.b hd); omega) rfl pf6 rfl (in_of (by omega) (by omega)) e47 dX2_fill_39 ?_
      refine lv_iload_n hx hb dX2_fill_40 rfl (lv_at hl 4 rfl) ?_
      refine lv_icmp_ne (tgt := 48) hx hb dX2_fill_41 (by decide) (fun hc49 => ?_) (fun hc49 => ?_)
      · have hc49 : ¬ (v46).toInt = (t).toInt := i_ne hc49 rfl rfl
        refine lv_iconst (v := 4) hx hb dX2_fill_48 (by decide) ?_
        obtain ⟨g50, e51⟩ : ∃ z : Nat → Int32, upd t0 (j).toNatClampNeg (4 : Int32) = z := ⟨_, rfl⟩
        have p52 : anyA g50 := trivial
        refine o_iast (f1 := g50) X hD h (b + 6) 0 (by have := isB.lt (isD.b hd); omega) rfl pf6 rfl (in_of (by omega) (by omega)) e51 dX2_fill_49 (fun H locs w53 e54 h => ?_)
        have f55 : w53 (b + 6) = .inl (cI, 4, .inl g50) := (congrFun e54 _).trans (va_up_self _ _ _)
        have ok56 : OK cI cB cZ cO ad w53 := OK.up ok e54 (Eq.mpr (okc_b6 (isD.b hd)) (sA_mk p52))
        have kx57 : KB b w w53 := KB.up KB.rf e54 pf6 (by rcases hd with rfl | rfl <;> rfl) (by omega)
        refine lv_aload_n hx hb dX2_fill_50 rfl (lv_at hl 1 rfl) ?_
        have f58 : w53 b = .inr (1, [.int q2, .int q3, .int q4, .int q5, .int q6, .ref (ad (b + 1)), .ref (ad (b + 2)), .ref (ad (b + 3)), .ref (ad (b + 4)), .ref (ad (b + 5)), .ref (ad (b + 6)), .ref (ad (b + 7)), .ref (ad (b + 9)), .ref (ad (b + 11))]) := by rw [e54, va_up_ne _ _ (by omega)]; exact f11
        refine r_get kc2 X h b 9 (by have := isB.lt (isD.b hd); omega) rfl f58 (by decide) kv_24 rfl dX2_fill_51 ?_
        refine lv_iload_n hx hb dX2_fill_54 rfl (lv_at hl 2 rfl) ?_
        refine lv_dup2_11 hx hb dX2_fill_55 rfl rfl ?_
        have f59 : w53 (b + 5) = .inl (cI, 4, .inl f) := by rw [e54, va_up_ne _ _ (by omega)]; exact pf5
        refine o_iald (v := v12) X h (b + 5) 0 (by have := isB.lt (isD.b hd); omega) rfl f59 rfl (in_of (by omega) (by omega)) e13 dX2_fill_56 ?_
        refine lv_iload hx hb dX2_fill_57 (lv_at hl 0 rfl) ?_
        obtain ⟨z62, e60, t61⟩ := x_add (x := v12) (y := z18) (a := (v12).toInt) (b := (z18).toInt) rfl rfl (by omega) (by omega)
        refine o_iadd (z := z62) hx hb dX2_fill_59 e60 ?_
        obtain ⟨g63, e64⟩ : ∃ z : Nat → Int32, upd f (j).toNatClampNeg z62 = z := ⟨_, rfl⟩
        have p65 : rgA 0 60 g63 := rgA_upd pr5 e64 (by omega) (by omega)
        refine o_iast (f1 := g63) X hD h (b + 5) 0 (by have := isB.lt (isD.b hd); omega) rfl f59 rfl (in_of (by omega) (by omega)) e64 dX2_fill_60 (fun H locs w66 e67 h => ?_)
        have f68 : w66 (b + 5) = .inl (cI, 4, .inl g63) := (congrFun e67 _).trans (va_up_self _ _ _)
        have ok69 : OK cI cB cZ cO ad w66 := OK.up ok56 e67 (Eq.mpr (okc_b5 (isD.b hd)) (sA_mk p65))
        have kx70 : KB b w w66 := KB.up kx57 e67 f59 (by rcases hd with rfl | rfl <;> rfl) (by omega)
        refine lv_iload hx hb dX2_fill_61 (lv_at hl 0 rfl) ?_
        exact e_i X h hr hlk dX2_fill_63 ⟨ok69, kx70, g63, f68, p65, up_ge e64 e13 (by omega), by omega, by omega⟩
      · have hc49 : (v46).toInt = (t).toInt := i_eq hc49 rfl rfl
        refine lv_iload_n hx hb dX2_fill_44 rfl (lv_at hl 4 rfl) ?_
        refine lv_goto (tgt := 49) hx hb dX2_fill_45 (by decide) ?_
        obtain ⟨g71, e72⟩ : ∃ z : Nat → Int32, upd t0 (j).toNatClampNeg t = z := ⟨_, rfl⟩
        have p73 : anyA g71 := trivial
        refine o_iast (f1 := g71) X hD h (b + 6) 0 (by have := isB.lt (isD.b hd); omega) rfl pf6 rfl (in_of (by omega) (by omega)) e72 dX2_fill_49 (fun H locs w74 e75 h => ?_)
        have f76 : w74 (b + 6) = .inl (cI, 4, .inl g71) := (congrFun e75 _).trans (va_up_self _ _ _)
        have ok77 : OK cI cB cZ cO ad w74 := OK.up ok e75 (Eq.mpr (okc_b6 (isD.b hd)) (sA_mk p73))
        have kx78 : KB b w w74 := KB.up KB.rf e75 pf6 (by rcases hd with rfl | rfl <;> rfl) (by omega)
        refine lv_aload_n hx hb dX2_fill_50 rfl (lv_at hl 1 rfl) ?_
        have f79 : w74 b = .inr (1, [.int q2, .int q3, .int q4, .int q5, .int q6, .ref (ad (b + 1)), .ref (ad (b + 2)), .ref (ad (b + 3)), .ref (ad (b + 4)), .ref (ad (b + 5)), .ref (ad (b + 6)), .ref (ad (b + 7)), .ref (ad (b + 9)), .ref (ad (b + 11))]) := by rw [e75, va_up_ne _ _ (by omega)]; exact f11
        refine r_get kc2 X h b 9 (by have := isB.lt (isD.b hd); omega) rfl f79 (by decide) kv_24 rfl dX2_fill_51 ?_
        refine lv_iload_n hx hb dX2_fill_54 rfl (lv_at hl 2 rfl) ?_
        refine lv_dup2_11 hx hb dX2_fill_55 rfl rfl ?_
        have f80 : w74 (b + 5) = .inl (cI, 4, .inl f) := by rw [e75, va_up_ne _ _ (by omega)]; exact pf5
        refine o_iald (v := v12) X h (b + 5) 0 (by have := isB.lt (isD.b hd); omega) rfl f80 rfl (in_of (by omega) (by omega)) e13 dX2_fill_56 ?_
        refine lv_iload hx hb dX2_fill_57 (lv_at hl 0 rfl) ?_
        obtain ⟨z83, e81, t82⟩ := x_add (x := v12) (y := z18) (a := (v12).toInt) (b := (z18).toInt) rfl rfl (by omega) (by omega)
        refine o_iadd (z := z83) hx hb dX2_fill_59 e81 ?_
        obtain ⟨g84, e85⟩ : ∃ z : Nat → Int32, upd f (j).toNatClampNeg z83 = z := ⟨_, rfl⟩
        have p86 : rgA 0 60 g84 := rgA_upd pr5 e85 (by omega) (by omega)
        refine o_iast (f1 := g84) X hD h (b + 5) 0 (by have := isB.lt (isD.b hd); omega) rfl f80 rfl (in_of (by omega) (by omega)) e85 dX2_fill_60 (fun H locs w87 e88 h => ?_)
        have f89 : w87 (b + 5) = .inl (cI, 4, .inl g84) := (congrFun e88 _).trans (va_up_self _ _ _)
        have ok90 : OK cI cB cZ cO ad w87 := OK.up ok77 e88 (Eq.mpr (okc_b5 (isD.b hd)) (sA_mk p86))
        have kx91 : KB b w w87 := KB.up kx78 e88 f80 (by rcases hd with rfl | rfl <;> rfl) (by omega)
        refine lv_iload hx hb dX2_fill_61 (lv_at hl 0 rfl) ?_
        exact e_i X h hr hlk dX2_fill_63 ⟨ok90, kx91, g84, f89, p86, up_ge e85 e13 (by omega), by omega, by omega⟩

set_option maxHeartbeats 4000000 in
set_option maxRecDepth 100000 in
theorem c_drain (l : Launch) (G : va_G) (cI cB cZ cO : ClassId) (ad : Nat → Nat) (w : Nat → va_E) (b : Nat) (hd : isD b) (f : Nat → Int32) (ok : OK cI cB cZ cO ad w) (j : Int32) (x : Int32) (hl_j : 0 ≤ j.toInt) (hh_j : j.toInt ≤ 3) (hl_x : (-60) ≤ x.toInt) (hh_x : x.toInt ≤ 60) (pf5 : w (b + 5) = .inl (cI, 4, .inl f)) (pr5 : rgA 0 60 f) (hdr : 0 ≤ (f j.toNatClampNeg).toInt - x.toInt ∧ (f j.toNatClampNeg).toInt - x.toInt ≤ 60) : NV l G (tyq cI cB cZ cO) yX2_drain cX2_drain 3 0 0 74 ad w [.ref (ad b), .int j, .int x] (fun w1 => OK cI cB cZ cO ad w1 ∧ KB b w w1 ∧ True) := by
  refine nk_v (own := "NoonShade$Isle") rfl (by decide) (Nat.le_of_ble_eq_true rfl) ?_
  intro p e s m below meth c ls X hD hN hr hlk h hl
  have hx := X.1.1
  have hb := X.1.2.1
  have hown := X.1.2.2.2.1
  have hts := X.1.2.2.2.2
  have hl : lv_has ls 3 [(0, .ref (ad b)), (1, .int j), (2, .int x)] := hl
  obtain ⟨v1, e2⟩ : ∃ z : Int32, f (j).toNatClampNeg = z := ⟨_, rfl⟩
  rw [e2] at hdr
  have hr0 := rgA_rd pr5 e2
  refine lv_aload_n hx hb dX2_drain_0 rfl (lv_at hl 0 rfl) ?_
  obtain ⟨q4, q5, q6, q7, q8, f3, h9, h10, h11, h12⟩ := (show sI ad b (w b) from ok.b0 (isD.b hd))
  have f13 : w b = .inr (1, [.int q4, .int q5, .int q6, .int q7, .int q8, .ref (ad (b + 1)), .ref (ad (b + 2)), .ref (ad (b + 3)), .ref (ad (b + 4)), .ref (ad (b + 5)), .ref (ad (b + 6)), .ref (ad (b + 7)), .ref (ad (b + 9)), .ref (ad (b + 11))]) := f3
  refine r_get kc2 X h b 9 (by have := isB.lt (isD.b hd); omega) rfl f13 (by decide) kv_24 rfl dX2_drain_1 ?_
  refine lv_iload_n hx hb dX2_drain_4 rfl (lv_at hl 1 rfl) ?_
  refine lv_dup2_11 hx hb dX2_drain_5 rfl rfl ?_
  refine o_iald (v := v1) X h (b + 5) 0 (by have := isB.lt (isD.b hd); omega) rfl pf5 rfl (in_of (by omega) (by omega)) e2 dX2_drain_6 ?_
  refine lv_iload_n hx hb dX2_drain_7 rfl (lv_at hl 2 rfl) ?_
  obtain ⟨z16, e14, t15⟩ := x_sub (x := v1) (y := x) (a := (v1).toInt) (b := (x).toInt) rfl rfl (by omega) (by omega)
  refine o_isub (z := z16) hx hb dX2_drain_8 e14 ?_
  obtain ⟨g17, e18⟩ : ∃ z : Nat → Int32, upd f (j).toNatClampNeg z16 = z := ⟨_, rfl⟩
  have p19 : rgA 0 60 g17 := rgA_upd pr5 e18 (by omega) (by omega)
  refine o_iast (f1 := g17) X hD h (b + 5) 0 (by have := isB.lt (isD.b hd); omega) rfl pf5 rfl (in_of (by omega) (by omega)) e18 dX2_drain_9 (fun H locs w20 e21 h => ?_)
  have f22 : w20 (b + 5) = .inl (cI, 4, .inl g17) := (congrFun e21 _).trans (va_up_self _ _ _)
  have ok23 : OK cI cB cZ cO ad w20 := OK.up ok e21 (Eq.mpr (okc_b5 (isD.b hd)) (sA_mk p19))
  have kx24 : KB b w w20 := KB.up KB.rf e21 pf5 (by rcases hd with rfl | rfl <;> rfl) (by omega)
  refine lv_aload_n hx hb dX2_drain_10 rfl (lv_at hl 0 rfl) ?_
  have f25 : w20 b = .inr (1, [.int q4, .int q5, .int q6, .int q7, .int q8, .ref (ad (b + 1)), .ref (ad (b + 2)), .ref (ad (b + 3)), .ref (ad (b + 4)), .ref (ad (b + 5)), .ref (ad (b + 6)), .ref (ad (b + 7)), .ref (ad (b + 9)), .ref (ad (b + 11))]) := by rw [e21, va_up_ne _ _ (by omega)]; exact f13
  refine r_get kc2 X h b 9 (by have := isB.lt (isD.b hd); omega) rfl f25 (by decide) kv_24 rfl dX2_drain_11 ?_
  refine lv_iload_n hx hb dX2_drain_14 rfl (lv_at hl 1 rfl) ?_
  obtain ⟨v26, e27⟩ : ∃ z : Int32, g17 (j).toNatClampNeg = z := ⟨_, rfl⟩
  have h28 := rgA_rd p19 e27
  refine o_iald (v := v26) X h (b + 5) 0 (by have := isB.lt (isD.b hd); omega) rfl f22 rfl (in_of (by omega) (by omega)) e27 dX2_drain_15 ?_
  refine lv_if_ne (tgt := 26) hx hb dX2_drain_16 (by decide) (fun hc29 => ?_) (fun hc29 => ?_)
  · have hc29 : ¬ (v26).toInt = 0 := i_ne hc29 rfl rfl
    exact e_v X h hr hlk dX2_drain_26 ⟨ok23, kx24, trivial⟩
  · have hc29 : (v26).toInt = 0 := i_eq hc29 rfl rfl
    refine lv_aload_n hx hb dX2_drain_19 rfl (lv_at hl 0 rfl) ?_
    refine r_get kc2 X h b 10 (by have := isB.lt (isD.b hd); omega) rfl f25 (by decide) kv_25 rfl dX2_drain_20 ?_
    refine lv_iload_n hx hb dX2_drain_23 rfl (lv_at hl 1 rfl) ?_
    refine lv_iconst (v := (-1)) hx hb dX2_drain_24 (by decide) ?_
    obtain ⟨g31, f30, p32⟩ := (show sA cI 4 (anyA) (w20 (b + 6)) from ok23.b6 (isD.b hd))
    have f33 : w20 (b + 6) = .inl (cI, 4, .inl g31) := f30
    obtain ⟨g34, e35⟩ : ∃ z : Nat → Int32, upd g31 (j).toNatClampNeg ((-1) : Int32) = z := ⟨_, rfl⟩
    have p36 : anyA g34 := trivial
    refine o_iast (f1 := g34) X hD h (b + 6) 0 (by have := isB.lt (isD.b hd); omega) rfl f33 rfl (in_of (by omega) (by omega)) e35 dX2_drain_25 (fun H locs w37 e38 h => ?_)
    have f39 : w37 (b + 6) = .inl (cI, 4, .inl g34) := (congrFun e38 _).trans (va_up_self _ _ _)
    have ok40 : OK cI cB cZ cO ad w37 := OK.up ok23 e38 (Eq.mpr (okc_b6 (isD.b hd)) (sA_mk p36))
    have kx41 : KB b w w37 := KB.up kx24 e38 f33 (by rcases hd with rfl | rfl <;> rfl) (by omega)
    exact e_v X h hr hlk dX2_drain_26 ⟨ok40, kx41, trivial⟩

set_option maxHeartbeats 4000000 in
set_option maxRecDepth 100000 in
theorem c_draw (l : Launch) (G : va_G) (cI cB cZ cO : ClassId) (ad : Nat → Nat) (w : Nat → va_E) (b : Nat) (hd : isD b) (ok : OK cI cB cZ cO ad w) (i : Int32) (j : Int32) (hl_i : 0 ≤ i.toInt) (hh_i : i.toInt ≤ 6) (hl_j : 0 ≤ j.toInt) (hh_j : j.toInt ≤ 3)  : NI l G (tyq cI cB cZ cO) yX2_draw cX2_draw 3 (some .int) 3 67 74 ad w [.ref (ad b), .int i, .int j] (fun r w1 => OK cI cB cZ cO ad w1 ∧ KB b w w1 ∧ True) := by
  refine nk_i (own := "NoonShade$Isle") rfl (by decide) (Nat.le_of_ble_eq_true rfl) ?_
  intro p e s m below meth c ls X hD hN hr hlk h hl
  have hx := X.1.1
  have hb := X.1.2.1
  have hown := X.1.2.2.2.1
  have hts := X.1.2.2.2.2
  have hl : lv_has ls 3 [(0, .ref (ad b)), (1, .int i), (2, .int j)] := hl
  refine lv_aload_n hx hb dX2_draw_0 rfl (lv_at hl 0 rfl) ?_
  refine lv_dup hx hb dX2_draw_1 rfl ?_
  obtain ⟨q2, q3, q4, q5, q6, f1, h7, h8, h9, h10⟩ := (show sI ad b (w b) from ok.b0 (isD.b hd))
  have f11 : w b = .inr (1, [.int q2, .int q3, .int q4, .int q5, .int q6, .ref (ad (b + 1)), .ref (ad (b + 2)), .ref (ad (b + 3)), .ref (ad (b + 4)), .ref (ad (b + 5)), .ref (ad (b + 6)), .ref (ad (b + 7)), .ref (ad (b + 9)), .ref (ad (b + 11))]) := f1
  refine r_get kc2 X h b 2 (by have := isB.lt (isD.b hd); omega) rfl f11 (by decide) kv_19 rfl dX2_draw_2 ?_
  refine lv_iconst (v := 1) hx hb dX2_draw_5 (by decide) ?_
  refine lv_iload_n hx hb dX2_draw_6 rfl (lv_at hl 1 rfl) ?_
  obtain ⟨z14, e12, t13, t13b⟩ := x_shl7 (i := i) (by omega) (by omega)
  refine o_ishl (z := z14) hx hb dX2_draw_7 e12 ?_
  obtain ⟨z17, e15⟩ : ∃ z : Int32, q4 ||| z14 = z := ⟨_, rfl⟩
  refine o_ior (z := z17) hx hb dX2_draw_8 e15 ?_
  refine r_put kc2 X hD h b 2 (by have := isB.lt (isD.b hd); omega) rfl f11 (by decide) kv_19 rfl rfl rfl (Nat.le_of_ble_eq_true rfl) dX2_draw_9 (fun H locs w18 e19 h => ?_)
  have f20 : w18 b = .inr (1, [.int q2, .int q3, .int z17, .int q5, .int q6, .ref (ad (b + 1)), .ref (ad (b + 2)), .ref (ad (b + 3)), .ref (ad (b + 4)), .ref (ad (b + 5)), .ref (ad (b + 6)), .ref (ad (b + 7)), .ref (ad (b + 9)), .ref (ad (b + 11))]) := (congrFun e19 _).trans (va_up_self _ _ _)
  have ok21 : OK cI cB cZ cO ad w18 := OK.up ok e19 (Eq.mpr (okc_b0 (isD.b hd)) (sI_mk (by omega) (by omega) (by omega) (by omega)))
  have kx22 : KB b w w18 := KB.up KB.rf e19 f11 (by rcases hd with rfl | rfl <;> rfl) (by omega)
  refine lv_aload_n hx hb dX2_draw_12 rfl (lv_at hl 0 rfl) ?_
  refine lv_iload_n hx hb dX2_draw_13 rfl (lv_at hl 2 rfl) ?_
  refine lv_aload_n hx hb dX2_draw_14 rfl (lv_at hl 0 rfl) ?_
  refine lv_iload_n hx hb dX2_draw_15 rfl (lv_at hl 1 rfl) ?_
  refine lv_iconst (v := 0) hx hb dX2_draw_16 (by decide) ?_
  refine n_Vi (na := 2) (As := [.int i, .int 0]) (rest := [.int j, .ref (ad b)]) X hD hN h rfl (c_givenBehind l G cI cB cZ cO ad w18 b (isD.b hd) ok21 i (0 : Int32) (by omega) (by omega) ) ⟨kv_39, kv_40, kv_41, kv_37, kv_42⟩ rfl ⟨by decide, by decide, by decide⟩ ⟨Nat.le_of_ble_eq_true rfl, Nat.le_of_ble_eq_true rfl⟩ ⟨Nat.zero_le _, Nat.zero_le _⟩ (by have := isB.lt (isD.b hd); omega) f20 rfl rfl hl.1 rfl (Nat.le_of_ble_eq_true rfl) dX2_draw_17 (fun r23 w24 H locs hp25 h => ?_)
  obtain ⟨rfl, hr26⟩ := hp25
  obtain ⟨h27, h28⟩ := hr26
  refine lv_aload_n hx hb dX2_draw_20 rfl (lv_at hl 0 rfl) ?_
  refine r_get kc2 X h b 7 (by have := isB.lt (isD.b hd); omega) rfl f20 (by decide) kv_22 rfl dX2_draw_21 ?_
  refine lv_iload_n hx hb dX2_draw_24 rfl (lv_at hl 1 rfl) ?_
  obtain ⟨g30, f29, p31⟩ := (show sA cI 7 (anyA) (w18 (b + 3)) from ok21.b3 (isD.b hd))
  have f32 : w18 (b + 3) = .inl (cI, 7, .inl g30) := f29
  obtain ⟨v33, e34⟩ : ∃ z : Int32, g30 (i).toNatClampNeg = z := ⟨_, rfl⟩
  refine o_iald (v := v33) X h (b + 3) 0 (by have := isB.lt (isD.b hd); omega) rfl f32 rfl (in_of (by omega) (by omega)) e34 dX2_draw_25 ?_
  obtain ⟨g37, f36, p38⟩ := (show sA cI 4 (rgA 0 60) (w18 (b + 5)) from ok21.b5 (isD.b hd))
  have f39 : w18 (b + 5) = .inl (cI, 4, .inl g37) := f36
  obtain ⟨g41, f40, p42⟩ := (show sA cI 4 (anyA) (w18 (b + 6)) from ok21.b6 (isD.b hd))
  have f43 : w18 (b + 6) = .inl (cI, 4, .inl g41) := f40
  refine n_Vi (na := 3) (As := [.int j, .int r23, .int v33]) (rest := []) X hD hN h rfl (c_fill l G cI cB cZ cO ad w18 b hd g37 g41 ok21 j r23 v33 (by omega) (by omega) (by omega) (by omega) f39 f43 p38 p42) ⟨kv_44, kv_45, kv_46, kv_37, kv_47⟩ rfl ⟨by decide, by decide, by decide⟩ ⟨Nat.le_of_ble_eq_true rfl, Nat.le_of_ble_eq_true rfl⟩ ⟨Nat.zero_le _, Nat.zero_le _⟩ (by have := isB.lt (isD.b hd); omega) f20 rfl rfl hl.1 rfl (Nat.le_of_ble_eq_true rfl) dX2_draw_26 (fun r44 w45 H locs hp46 h => ?_)
  obtain ⟨ok48, kk49, hr47⟩ := hp46
  have kx50 : KB b w w45 := KB.tr kx22 kk49
  obtain ⟨g51, h52, h53, h54, h55, h56⟩ := hr47
  exact e_i X h hr hlk dX2_draw_29 ⟨ok48, kx50, trivial⟩

set_option maxHeartbeats 4000000 in
set_option maxRecDepth 100000 in
theorem c_pour (l : Launch) (G : va_G) (cI cB cZ cO : ClassId) (ad : Nat → Nat) (w : Nat → va_E) (b : Nat) (hd : isD b) (ok : OK cI cB cZ cO ad w) (j : Int32) (k : Int32) (hl_j : 0 ≤ j.toInt) (hh_j : j.toInt ≤ 3) (hl_k : 0 ≤ k.toInt) (hh_k : k.toInt ≤ 3)  : NI l G (tyq cI cB cZ cO) yX2_pour cX2_pour 4 (some .int) 2 45 74 ad w [.ref (ad b), .int j, .int k] (fun r w1 => OK cI cB cZ cO ad w1 ∧ KB b w w1 ∧ True) := by
  refine nk_i (own := "NoonShade$Isle") rfl (by decide) (Nat.le_of_ble_eq_true rfl) ?_
  intro p e s m below meth c ls X hD hN hr hlk h hl
  have hx := X.1.1
  have hb := X.1.2.1
  have hown := X.1.2.2.2.1
  have hts := X.1.2.2.2.2
  have hl : lv_has ls 4 [(0, .ref (ad b)), (1, .int j), (2, .int k)] := hl
  refine lv_aload_n hx hb dX2_pour_0 rfl (lv_at hl 0 rfl) ?_
  refine lv_iload_n hx hb dX2_pour_1 rfl (lv_at hl 2 rfl) ?_
  refine lv_aload_n hx hb dX2_pour_2 rfl (lv_at hl 0 rfl) ?_
  obtain ⟨q2, q3, q4, q5, q6, f1, h7, h8, h9, h10⟩ := (show sI ad b (w b) from ok.b0 (isD.b hd))
  have f11 : w b = .inr (1, [.int q2, .int q3, .int q4, .int q5, .int q6, .ref (ad (b + 1)), .ref (ad (b + 2)), .ref (ad (b + 3)), .ref (ad (b + 4)), .ref (ad (b + 5)), .ref (ad (b + 6)), .ref (ad (b + 7)), .ref (ad (b + 9)), .ref (ad (b + 11))]) := f1
  refine r_get kc2 X h b 9 (by have := isB.lt (isD.b hd); omega) rfl f11 (by decide) kv_24 rfl dX2_pour_3 ?_
  refine lv_iload_n hx hb dX2_pour_6 rfl (lv_at hl 1 rfl) ?_
  obtain ⟨g13, f12, p14⟩ := (show sA cI 4 (rgA 0 60) (w (b + 5)) from ok.b5 (isD.b hd))
  have f15 : w (b + 5) = .inl (cI, 4, .inl g13) := f12
  obtain ⟨v16, e17⟩ : ∃ z : Int32, g13 (j).toNatClampNeg = z := ⟨_, rfl⟩
  have h18 := rgA_rd p14 e17
  refine o_iald (v := v16) X h (b + 5) 0 (by have := isB.lt (isD.b hd); omega) rfl f15 rfl (in_of (by omega) (by omega)) e17 dX2_pour_7 ?_
  refine lv_aload_n hx hb dX2_pour_8 rfl (lv_at hl 0 rfl) ?_
  refine r_get kc2 X h b 10 (by have := isB.lt (isD.b hd); omega) rfl f11 (by decide) kv_25 rfl dX2_pour_9 ?_
  refine lv_iload_n hx hb dX2_pour_12 rfl (lv_at hl 1 rfl) ?_
  obtain ⟨g20, f19, p21⟩ := (show sA cI 4 (anyA) (w (b + 6)) from ok.b6 (isD.b hd))
  have f22 : w (b + 6) = .inl (cI, 4, .inl g20) := f19
  obtain ⟨v23, e24⟩ : ∃ z : Int32, g20 (j).toNatClampNeg = z := ⟨_, rfl⟩
  refine o_iald (v := v23) X h (b + 6) 0 (by have := isB.lt (isD.b hd); omega) rfl f22 rfl (in_of (by omega) (by omega)) e24 dX2_pour_13 ?_
  refine n_Vi (na := 3) (As := [.int k, .int v16, .int v23]) (rest := []) X hD hN h rfl (c_fill l G cI cB cZ cO ad w b hd g13 g20 ok k v16 v23 (by omega) (by omega) (by omega) (by omega) f15 f22 p14 p21) ⟨kv_44, kv_45, kv_46, kv_37, kv_47⟩ rfl ⟨by decide, by decide, by decide⟩ ⟨Nat.le_of_ble_eq_true rfl, Nat.le_of_ble_eq_true rfl⟩ ⟨Nat.zero_le _, Nat.zero_le _⟩ (by have := isB.lt (isD.b hd); omega) f11 rfl rfl hl.1 rfl (Nat.le_of_ble_eq_true rfl) dX2_pour_14 (fun r26 w27 H locs hp28 h => ?_)
  obtain ⟨ok30, kk31, hr29⟩ := hp28
  have kx32 : KB b w w27 := kk31
  obtain ⟨g33, h34, h35, h36, h37, h38⟩ := hr29
  refine lv_istore_n (lv' := [(3, .int r26), (0, .ref (ad b)), (1, .int j), (2, .int k)]) hx hb dX2_pour_17 rfl hl (by decide) rfl (fun ls hl => ?_)
  refine lv_aload_n hx hb dX2_pour_18 rfl (lv_at hl 1 rfl) ?_
  refine lv_iload_n hx hb dX2_pour_19 rfl (lv_at hl 2 rfl) ?_
  refine lv_iload_n hx hb dX2_pour_20 rfl (lv_at hl 0 rfl) ?_
  have q39 := h36 (j).toNatClampNeg
  rw [e17] at q39
  have q40 := h35 (j).toNatClampNeg
  obtain ⟨q45, q46, q47, q48, q49, f44, h50, h51, h52, h53⟩ := (show sI ad b (w27 b) from ok30.b0 (isD.b hd))
  have f54 : w27 b = .inr (1, [.int q45, .int q46, .int q47, .int q48, .int q49, .ref (ad (b + 1)), .ref (ad (b + 2)), .ref (ad (b + 3)), .ref (ad (b + 4)), .ref (ad (b + 5)), .ref (ad (b + 6)), .ref (ad (b + 7)), .ref (ad (b + 9)), .ref (ad (b + 11))]) := f44
  refine n_Vv (na := 2) (As := [.int j, .int r26]) (rest := []) X hD hN h rfl (c_drain l G cI cB cZ cO ad w27 b hd g33 ok30 j r26 (by omega) (by omega) (by omega) (by omega) h34 h35 (by omega)) ⟨kv_48, kv_49, kv_50, kv_37, kv_51⟩ rfl ⟨by decide, by decide, by decide⟩ ⟨Nat.le_of_ble_eq_true rfl, Nat.le_of_ble_eq_true rfl⟩ ⟨Nat.zero_le _, Nat.zero_le _⟩ (by have := isB.lt (isD.b hd); omega) f54 rfl rfl hl.1 rfl (Nat.le_of_ble_eq_true rfl) dX2_pour_21 (fun w42 H locs hp43 h => ?_)
  obtain ⟨ok56, kk57, hr55⟩ := hp43
  have kx58 : KB b w w42 := KB.tr kx32 kk57
  refine lv_iload_n hx hb dX2_pour_24 rfl (lv_at hl 0 rfl) ?_
  exact e_i X h hr hlk dX2_pour_25 ⟨ok56, kx58, trivial⟩

set_option maxHeartbeats 4000000 in
set_option maxRecDepth 100000 in
theorem c_sell (l : Launch) (G : va_G) (cI cB cZ cO : ClassId) (ad : Nat → Nat) (w : Nat → va_E) (b : Nat) (hd : isD b) (ok : OK cI cB cZ cO ad w) (j : Int32) (hl_j : 0 ≤ j.toInt) (hh_j : j.toInt ≤ 3)  : NI l G (tyq cI cB cZ cO) yX2_sell cX2_sell 4 (some .int) 1 22 74 ad w [.ref (ad b), .int j] (fun r w1 => OK cI cB cZ cO ad w1 ∧ KB b w w1 ∧ True) := by
  refine nk_i (own := "NoonShade$Isle") rfl (by decide) (Nat.le_of_ble_eq_true rfl) ?_
  intro p e s m below meth c ls X hD hN hr hlk h hl
  have hx := X.1.1
  have hb := X.1.2.1
  have hown := X.1.2.2.2.1
  have hts := X.1.2.2.2.2
  have hl : lv_has ls 4 [(0, .ref (ad b)), (1, .int j)] := hl
  refine lv_aload_n hx hb dX2_sell_0 rfl (lv_at hl 0 rfl) ?_
  obtain ⟨q2, q3, q4, q5, q6, f1, h7, h8, h9, h10⟩ := (show sI ad b (w b) from ok.b0 (isD.b hd))
  have f11 : w b = .inr (1, [.int q2, .int q3, .int q4, .int q5, .int q6, .ref (ad (b + 1)), .ref (ad (b + 2)), .ref (ad (b + 3)), .ref (ad (b + 4)), .ref (ad (b + 5)), .ref (ad (b + 6)), .ref (ad (b + 7)), .ref (ad (b + 9)), .ref (ad (b + 11))]) := f1
  refine r_get kc2 X h b 10 (by have := isB.lt (isD.b hd); omega) rfl f11 (by decide) kv_25 rfl dX2_sell_1 ?_
  refine lv_iload_n hx hb dX2_sell_4 rfl (lv_at hl 1 rfl) ?_
  obtain ⟨g13, f12, p14⟩ := (show sA cI 4 (anyA) (w (b + 6)) from ok.b6 (isD.b hd))
  have f15 : w (b + 6) = .inl (cI, 4, .inl g13) := f12
  obtain ⟨v16, e17⟩ : ∃ z : Int32, g13 (j).toNatClampNeg = z := ⟨_, rfl⟩
  refine o_iald (v := v16) X h (b + 6) 0 (by have := isB.lt (isD.b hd); omega) rfl f15 rfl (in_of (by omega) (by omega)) e17 dX2_sell_5 ?_
  refine lv_iconst (v := 4) hx hb dX2_sell_6 (by decide) ?_
  refine lv_icmp_ne (tgt := 19) hx hb dX2_sell_7 (by decide) (fun hc19 => ?_) (fun hc19 => ?_)
  · have hc19 : ¬ (v16).toInt = 4 := i_ne hc19 rfl rfl
    refine lv_iconst (v := 2) hx hb dX2_sell_19 (by decide) ?_
    refine lv_aload_n hx hb dX2_sell_20 rfl (lv_at hl 0 rfl) ?_
    refine r_get kc2 X h b 9 (by have := isB.lt (isD.b hd); omega) rfl f11 (by decide) kv_24 rfl dX2_sell_21 ?_
    refine lv_iload_n hx hb dX2_sell_24 rfl (lv_at hl 1 rfl) ?_
    obtain ⟨g21, f20, p22⟩ := (show sA cI 4 (rgA 0 60) (w (b + 5)) from ok.b5 (isD.b hd))
    have f23 : w (b + 5) = .inl (cI, 4, .inl g21) := f20
    obtain ⟨v24, e25⟩ : ∃ z : Int32, g21 (j).toNatClampNeg = z := ⟨_, rfl⟩
    have h26 := rgA_rd p22 e25
    refine o_iald (v := v24) X h (b + 5) 0 (by have := isB.lt (isD.b hd); omega) rfl f23 rfl (in_of (by omega) (by omega)) e25 dX2_sell_25 ?_
    obtain ⟨z29, e27, t28⟩ := x_mul (x := (2 : Int32)) (y := v24) (a := 2) (b := (v24).toInt) rfl rfl (by omega) (by omega)
    refine o_imul (z := z29) hx hb dX2_sell_26 e27 ?_
    refine lv_istore_n (lv' := [(2, .int z29), (0, .ref (ad b)), (1, .int j)]) hx hb dX2_sell_27 rfl hl (by decide) rfl (fun ls hl => ?_)
    refine lv_iload_n hx hb dX2_sell_28 rfl (lv_at hl 0 rfl) ?_
    refine lv_sipush (v := 9999) hx hb dX2_sell_29 (by decide) ?_
    refine lv_aload_n hx hb dX2_sell_32 rfl (lv_at hl 1 rfl) ?_
    refine r_get kc2 X h b 1 (by have := isB.lt (isD.b hd); omega) rfl f11 (by decide) kv_52 rfl dX2_sell_33 ?_
    obtain ⟨z32, e30⟩ : ∃ z : Int32, (9999 : Int32) - q3 = z := ⟨_, rfl⟩
    refine o_isub (z := z32) hx hb dX2_sell_36 e30 ?_
    obtain ⟨z33, e34, t35, t36, t37⟩ := x_min z29 z32
    refine o_mmin X hl.1 kv_43 kv_5 kv_2 kv_6 ⟨Nat.le_of_ble_eq_true rfl, Nat.le_of_ble_eq_true rfl⟩ (Nat.le_of_ble_eq_true rfl) ⟨Nat.zero_le _, Nat.zero_le _⟩ e34 dX2_sell_37 ?_
    refine lv_istore_n (lv' := [(3, .int z33), (2, .int z29), (0, .ref (ad b)), (1, .int j)]) hx hb dX2_sell_40 rfl hl (by decide) rfl (fun ls hl => ?_)
    refine lv_aload_n hx hb dX2_sell_41 rfl (lv_at hl 2 rfl) ?_
    refine lv_dup hx hb dX2_sell_42 rfl ?_
    refine r_get kc2 X h b 1 (by have := isB.lt (isD.b hd); omega) rfl f11 (by decide) kv_52 rfl dX2_sell_43 ?_
    refine lv_iload_n hx hb dX2_sell_46 rfl (lv_at hl 0 rfl) ?_
    obtain ⟨z40, e38⟩ : ∃ z : Int32, q3 + z33 = z := ⟨_, rfl⟩
    refine o_iadd (z := z40) hx hb dX2_sell_47 e38 ?_
    refine r_put kc2 X hD h b 1 (by have := isB.lt (isD.b hd); omega) rfl f11 (by decide) kv_52 rfl rfl rfl (Nat.le_of_ble_eq_true rfl) dX2_sell_48 (fun H locs w41 e42 h => ?_)
    have f43 : w41 b = .inr (1, [.int q2, .int z40, .int q4, .int q5, .int q6, .ref (ad (b + 1)), .ref (ad (b + 2)), .ref (ad (b + 3)), .ref (ad (b + 4)), .ref (ad (b + 5)), .ref (ad (b + 6)), .ref (ad (b + 7)), .ref (ad (b + 9)), .ref (ad (b + 11))]) := (congrFun e42 _).trans (va_up_self _ _ _)
    have ok44 : OK cI cB cZ cO ad w41 := OK.up ok e42 (Eq.mpr (okc_b0 (isD.b hd)) (sI_mk (by omega) (by omega) (by omega) (by omega)))
    have kx45 : KB b w w41 := KB.up KB.rf e42 f11 (by rcases hd with rfl | rfl <;> rfl) (by omega)
    refine lv_aload_n hx hb dX2_sell_51 rfl (lv_at hl 2 rfl) ?_
    refine lv_iload_n hx hb dX2_sell_52 rfl (lv_at hl 3 rfl) ?_
    refine lv_aload_n hx hb dX2_sell_53 rfl (lv_at hl 2 rfl) ?_
    refine r_get kc2 X h b 9 (by have := isB.lt (isD.b hd); omega) rfl f43 (by decide) kv_24 rfl dX2_sell_54 ?_
    refine lv_iload_n hx hb dX2_sell_57 rfl (lv_at hl 3 rfl) ?_
    have f46 : w41 (b + 5) = .inl (cI, 4, .inl g21) := by rw [e42, va_up_ne _ _ (by omega)]; exact f23
    refine o_iald (v := v24) X h (b + 5) 0 (by have := isB.lt (isD.b hd); omega) rfl f46 rfl (in_of (by omega) (by omega)) e25 dX2_sell_58 ?_
    refine n_Vv (na := 2) (As := [.int j, .int v24]) (rest := []) X hD hN h rfl (c_drain l G cI cB cZ cO ad w41 b hd g21 ok44 j v24 (by omega) (by omega) (by omega) (by omega) f46 p22 (by rw [e25]; omega)) ⟨kv_48, kv_49, kv_50, kv_37, kv_51⟩ rfl ⟨by decide, by decide, by decide⟩ ⟨Nat.le_of_ble_eq_true rfl, Nat.le_of_ble_eq_true rfl⟩ ⟨Nat.zero_le _, Nat.zero_le _⟩ (by have := isB.lt (isD.b hd); omega) f43 rfl rfl hl.1 rfl (Nat.le_of_ble_eq_true rfl) dX2_sell_59 (fun w48 H locs hp49 h => ?_)
    obtain ⟨ok51, kk52, hr50⟩ := hp49
    have kx53 : KB b w w48 := KB.tr kx45 kk52
    refine lv_iload_n hx hb dX2_sell_62 rfl (lv_at hl 0 rfl) ?_
    exact e_i X h hr hlk dX2_sell_63 ⟨ok51, kx53, trivial⟩
  · have hc19 : (v16).toInt = 4 := i_eq hc19 rfl rfl
    refine lv_aload_n hx hb dX2_sell_10 rfl (lv_at hl 0 rfl) ?_
    refine r_get kc2 X h b 9 (by have := isB.lt (isD.b hd); omega) rfl f11 (by decide) kv_24 rfl dX2_sell_11 ?_
    refine lv_iload_n hx hb dX2_sell_14 rfl (lv_at hl 1 rfl) ?_
    obtain ⟨g55, f54, p56⟩ := (show sA cI 4 (rgA 0 60) (w (b + 5)) from ok.b5 (isD.b hd))
    have f57 : w (b + 5) = .inl (cI, 4, .inl g55) := f54
    obtain ⟨v58, e59⟩ : ∃ z : Int32, g55 (j).toNatClampNeg = z := ⟨_, rfl⟩
    have h60 := rgA_rd p56 e59
    refine o_iald (v := v58) X h (b + 5) 0 (by have := isB.lt (isD.b hd); omega) rfl f57 rfl (in_of (by omega) (by omega)) e59 dX2_sell_15 ?_
    refine lv_goto (tgt := 27) hx hb dX2_sell_16 (by decide) ?_
    refine lv_istore_n (lv' := [(2, .int v58), (0, .ref (ad b)), (1, .int j)]) hx hb dX2_sell_27 rfl hl (by decide) rfl (fun ls hl => ?_)
    refine lv_iload_n hx hb dX2_sell_28 rfl (lv_at hl 0 rfl) ?_
    refine lv_sipush (v := 9999) hx hb dX2_sell_29 (by decide) ?_
    refine lv_aload_n hx hb dX2_sell_32 rfl (lv_at hl 1 rfl) ?_
    refine r_get kc2 X h b 1 (by have := isB.lt (isD.b hd); omega) rfl f11 (by decide) kv_52 rfl dX2_sell_33 ?_
    obtain ⟨z63, e61⟩ : ∃ z : Int32, (9999 : Int32) - q3 = z := ⟨_, rfl⟩
    refine o_isub (z := z63) hx hb dX2_sell_36 e61 ?_
    obtain ⟨z64, e65, t66, t67, t68⟩ := x_min v58 z63
    refine o_mmin X hl.1 kv_43 kv_5 kv_2 kv_6 ⟨Nat.le_of_ble_eq_true rfl, Nat.le_of_ble_eq_true rfl⟩ (Nat.le_of_ble_eq_true rfl) ⟨Nat.zero_le _, Nat.zero_le _⟩ e65 dX2_sell_37 ?_
    refine lv_istore_n (lv' := [(3, .int z64), (2, .int v58), (0, .ref (ad b)), (1, .int j)]) hx hb dX2_sell_40 rfl hl (by decide) rfl (fun ls hl => ?_)
    refine lv_aload_n hx hb dX2_sell_41 rfl (lv_at hl 2 rfl) ?_
    refine lv_dup hx hb dX2_sell_42 rfl ?_
    refine r_get kc2 X h b 1 (by have := isB.lt (isD.b hd); omega) rfl f11 (by decide) kv_52 rfl dX2_sell_43 ?_
    refine lv_iload_n hx hb dX2_sell_46 rfl (lv_at hl 0 rfl) ?_
    obtain ⟨z71, e69⟩ : ∃ z : Int32, q3 + z64 = z := ⟨_, rfl⟩
    refine o_iadd (z := z71) hx hb dX2_sell_47 e69 ?_
    refine r_put kc2 X hD h b 1 (by have := isB.lt (isD.b hd); omega) rfl f11 (by decide) kv_52 rfl rfl rfl (Nat.le_of_ble_eq_true rfl) dX2_sell_48 (fun H locs w72 e73 h => ?_)
    have f74 : w72 b = .inr (1, [.int q2, .int z71, .int q4, .int q5, .int q6, .ref (ad (b + 1)), .ref (ad (b + 2)), .ref (ad (b + 3)), .ref (ad (b + 4)), .ref (ad (b + 5)), .ref (ad (b + 6)), .ref (ad (b + 7)), .ref (ad (b + 9)), .ref (ad (b + 11))]) := (congrFun e73 _).trans (va_up_self _ _ _)
    have ok75 : OK cI cB cZ cO ad w72 := OK.up ok e73 (Eq.mpr (okc_b0 (isD.b hd)) (sI_mk (by omega) (by omega) (by omega) (by omega)))
    have kx76 : KB b w w72 := KB.up KB.rf e73 f11 (by rcases hd with rfl | rfl <;> rfl) (by omega)
    refine lv_aload_n hx hb dX2_sell_51 rfl (lv_at hl 2 rfl) ?_
    refine lv_iload_n hx hb dX2_sell_52 rfl (lv_at hl 3 rfl) ?_
    refine lv_aload_n hx hb dX2_sell_53 rfl (lv_at hl 2 rfl) ?_
    refine r_get kc2 X h b 9 (by have := isB.lt (isD.b hd); omega) rfl f74 (by decide) kv_24 rfl dX2_sell_54 ?_
    refine lv_iload_n hx hb dX2_sell_57 rfl (lv_at hl 3 rfl) ?_
    have f77 : w72 (b + 5) = .inl (cI, 4, .inl g55) := by rw [e73, va_up_ne _ _ (by omega)]; exact f57
    refine o_iald (v := v58) X h (b + 5) 0 (by have := isB.lt (isD.b hd); omega) rfl f77 rfl (in_of (by omega) (by omega)) e59 dX2_sell_58 ?_
    refine n_Vv (na := 2) (As := [.int j, .int v58]) (rest := []) X hD hN h rfl (c_drain l G cI cB cZ cO ad w72 b hd g55 ok75 j v58 (by omega) (by omega) (by omega) (by omega) f77 p56 (by rw [e59]; omega)) ⟨kv_48, kv_49, kv_50, kv_37, kv_51⟩ rfl ⟨by decide, by decide, by decide⟩ ⟨Nat.le_of_ble_eq_true rfl, Nat.le_of_ble_eq_true rfl⟩ ⟨Nat.zero_le _, Nat.zero_le _⟩ (by have := isB.lt (isD.b hd); omega) f74 rfl rfl hl.1 rfl (Nat.le_of_ble_eq_true rfl) dX2_sell_59 (fun w79 H locs hp80 h => ?_)
    obtain ⟨ok82, kk83, hr81⟩ := hp80
    have kx84 : KB b w w79 := KB.tr kx76 kk83
    refine lv_iload_n hx hb dX2_sell_62 rfl (lv_at hl 0 rfl) ?_
    exact e_i X h hr hlk dX2_sell_63 ⟨ok82, kx84, trivial⟩

set_option maxHeartbeats 4000000 in
set_option maxRecDepth 100000 in
theorem c_passHour (l : Launch) (G : va_G) (cI cB cZ cO : ClassId) (ad : Nat → Nat) (w : Nat → va_E) (b : Nat) (hd : isD b) (ok : OK cI cB cZ cO ad w)    : NV l G (tyq cI cB cZ cO) yX2_passHour cX2_passHour 2 2 47 74 ad w [.ref (ad b)] (fun w1 => OK cI cB cZ cO ad w1 ∧ KB b w w1 ∧ True) := by
  refine nk_v (own := "NoonShade$Isle") rfl (by decide) (Nat.le_of_ble_eq_true rfl) ?_
  intro p e s m below meth c ls X hD hN hr hlk h hl
  have hx := X.1.1
  have hb := X.1.2.1
  have hown := X.1.2.2.2.1
  have hts := X.1.2.2.2.2
  have hl : lv_has ls 2 [(0, .ref (ad b))] := hl
  refine lv_iconst (v := 0) hx hb dX2_passHour_0 (by decide) ?_
  refine lv_istore_n (lv' := [(1, .int 0), (0, .ref (ad b))]) hx hb dX2_passHour_1 rfl hl (by decide) rfl (fun ls hl => ?_)
  have hloop3 : ∀ (d4 : Nat) (L1 : Int32) (wL2 : Nat → va_E) (H : Heap) (locs : List Loc) (ls : Array Slot), 0 ≤ L1.toInt → L1.toInt ≤ 4 → OK cI cB cZ cO ad wL2 → KB b w wL2 → 4 - L1.toInt < (d4 : Int) → St G 74 ad (wA 74 ad s.heap.size) s.heap wL2 H locs → lv_has ls 2 [(1, .int L1), (0, .ref (ad b))] → W p l e { frames := 2, cells := 0, slots := 0, locals := 47 } s m [.ref (ad b)].toArray below meth c H locs 0 0 (MQ below (va_Qv (fun w1 => OK cI cB cZ cO ad w1 ∧ KB b w w1 ∧ True) (Aft G 74 ad) (wA 74 ad s.heap.size)) [.ref (ad b)].toArray s 0 0 (wA 74 ad s.heap.size)) (F0 m 2 ls []) := by
    intro d4
    induction d4 with
    | zero => intro L1 wL2 H locs ls hi7 hi8 ok9 kx10 hm6 h hl; exfalso; omega
    | succ d4 ih5 =>
      intro L1 wL2 H locs ls hi7 hi8 ok9 kx10 hm6 h hl
      refine lv_iload_n hx hb dX2_passHour_2 rfl (lv_at hl 0 rfl) ?_
      refine lv_aload_n hx hb dX2_passHour_3 rfl (lv_at hl 1 rfl) ?_
      obtain ⟨q13, q14, q15, q16, q17, f12, h18, h19, h20, h21⟩ := (show sI ad b (wL2 b) from ok9.b0 (isD.b hd))
      have f22 : wL2 b = .inr (1, [.int q13, .int q14, .int q15, .int q16, .int q17, .ref (ad (b + 1)), .ref (ad (b + 2)), .ref (ad (b + 3)), .ref (ad (b + 4)), .ref (ad (b + 5)), .ref (ad (b + 6)), .ref (ad (b + 7)), .ref (ad (b + 9)), .ref (ad (b + 11))]) := f12
      refine r_get kc2 X h b 4 (by have := isB.lt (isD.b hd); omega) rfl f22 (by decide) kv_18 rfl dX2_passHour_4 ?_
      refine lv_icmp_ge (tgt := 47) hx hb dX2_passHour_7 (by decide) (fun hc23 => ?_) (fun hc23 => ?_)
      · have hc23 : (q17).toInt ≤ (L1).toInt := i_le hc23 rfl rfl
        refine lv_aload_n hx hb dX2_passHour_47 rfl (lv_at hl 1 rfl) ?_
        refine lv_dup hx hb dX2_passHour_48 rfl ?_
        refine r_get kc2 X h b 0 (by have := isB.lt (isD.b hd); omega) rfl f22 (by decide) kv_26 rfl dX2_passHour_49 ?_
        refine lv_iconst (v := 1) hx hb dX2_passHour_52 (by decide) ?_
        obtain ⟨z26, e24⟩ : ∃ z : Int32, q13 + (1 : Int32) = z := ⟨_, rfl⟩
        refine o_iadd (z := z26) hx hb dX2_passHour_53 e24 ?_
        refine r_put kc2 X hD h b 0 (by have := isB.lt (isD.b hd); omega) rfl f22 (by decide) kv_26 rfl rfl rfl (Nat.le_of_ble_eq_true rfl) dX2_passHour_54 (fun H locs w27 e28 h => ?_)
        have f29 : w27 b = .inr (1, [.int z26, .int q14, .int q15, .int q16, .int q17, .ref (ad (b + 1)), .ref (ad (b + 2)), .ref (ad (b + 3)), .ref (ad (b + 4)), .ref (ad (b + 5)), .ref (ad (b + 6)), .ref (ad (b + 7)), .ref (ad (b + 9)), .ref (ad (b + 11))]) := (congrFun e28 _).trans (va_up_self _ _ _)
        have ok30 : OK cI cB cZ cO ad w27 := OK.up ok9 e28 (Eq.mpr (okc_b0 (isD.b hd)) (sI_mk (by omega) (by omega) (by omega) (by omega)))
        have kx31 : KB b w w27 := KB.up kx10 e28 f22 (by rcases hd with rfl | rfl <;> rfl) (by omega)
        refine lv_aload_n hx hb dX2_passHour_57 rfl (lv_at hl 1 rfl) ?_
        refine lv_iconst (v := 0) hx hb dX2_passHour_58 (by decide) ?_
        refine r_put kc2 X hD h b 2 (by have := isB.lt (isD.b hd); omega) rfl f29 (by decide) kv_19 rfl rfl rfl (Nat.le_of_ble_eq_true rfl) dX2_passHour_59 (fun H locs w32 e33 h => ?_)
        have f34 : w32 b = .inr (1, [.int z26, .int q14, .int 0, .int q16, .int q17, .ref (ad (b + 1)), .ref (ad (b + 2)), .ref (ad (b + 3)), .ref (ad (b + 4)), .ref (ad (b + 5)), .ref (ad (b + 6)), .ref (ad (b + 7)), .ref (ad (b + 9)), .ref (ad (b + 11))]) := (congrFun e33 _).trans (va_up_self _ _ _)
        have ok35 : OK cI cB cZ cO ad w32 := OK.up ok30 e33 (Eq.mpr (okc_b0 (isD.b hd)) (sI_mk (by omega) (by omega) (by omega) (by omega)))
        have kx36 : KB b w w32 := KB.up kx31 e33 f29 (by rcases hd with rfl | rfl <;> rfl) (by omega)
        exact e_v X h hr hlk dX2_passHour_62 ⟨ok35, kx36, trivial⟩
      · have hc23 : ¬ (q17).toInt ≤ (L1).toInt := i_nle hc23 rfl rfl
        refine lv_aload_n hx hb dX2_passHour_10 rfl (lv_at hl 1 rfl) ?_
        refine lv_iload_n hx hb dX2_passHour_11 rfl (lv_at hl 0 rfl) ?_
        refine lv_aload_n hx hb dX2_passHour_12 rfl (lv_at hl 1 rfl) ?_
        refine r_get kc2 X h b 9 (by have := isB.lt (isD.b hd); omega) rfl f22 (by decide) kv_24 rfl dX2_passHour_13 ?_
        refine lv_iload_n hx hb dX2_passHour_16 rfl (lv_at hl 0 rfl) ?_
        obtain ⟨g38, f37, p39⟩ := (show sA cI 4 (rgA 0 60) (wL2 (b + 5)) from ok9.b5 (isD.b hd))
        have f40 : wL2 (b + 5) = .inl (cI, 4, .inl g38) := f37
        obtain ⟨v41, e42⟩ : ∃ z : Int32, g38 (L1).toNatClampNeg = z := ⟨_, rfl⟩
        have h43 := rgA_rd p39 e42
        refine o_iald (v := v41) X h (b + 5) 0 (by have := isB.lt (isD.b hd); omega) rfl f40 rfl (in_of (by omega) (by omega)) e42 dX2_passHour_17 ?_
        refine lv_aload_n hx hb dX2_passHour_18 rfl (lv_at hl 1 rfl) ?_
        refine r_get kc2 X h b 8 (by have := isB.lt (isD.b hd); omega) rfl f22 (by decide) kv_23 rfl dX2_passHour_19 ?_
        refine lv_iload_n hx hb dX2_passHour_22 rfl (lv_at hl 0 rfl) ?_
        obtain ⟨g45, f44, p46⟩ := (show sA cI 4 (anyA) (wL2 (b + 4)) from ok9.b4 (isD.b hd))
        have f47 : wL2 (b + 4) = .inl (cI, 4, .inl g45) := f44
        obtain ⟨v48, e49⟩ : ∃ z : Int32, g45 (L1).toNatClampNeg = z := ⟨_, rfl⟩
        refine o_iald (v := v48) X h (b + 4) 0 (by have := isB.lt (isD.b hd); omega) rfl f47 rfl (in_of (by omega) (by omega)) e49 dX2_passHour_23 ?_
        refine lv_aload_n hx hb dX2_passHour_24 rfl (lv_at hl 1 rfl) ?_
        refine r_get kc2 X h b 9 (by have := isB.lt (isD.b hd); omega) rfl f22 (by decide) kv_24 rfl dX2_passHour_25 ?_
        refine lv_iload_n hx hb dX2_passHour_28 rfl (lv_at hl 0 rfl) ?_
        refine o_iald (v := v41) X h (b + 5) 0 (by have := isB.lt (isD.b hd); omega) rfl f40 rfl (in_of (by omega) (by omega)) e42 dX2_passHour_29 ?_
        refine lv_aload_n hx hb dX2_passHour_30 rfl (lv_at hl 1 rfl) ?_
        refine r_get kc2 X h b 0 (by have := isB.lt (isD.b hd); omega) rfl f22 (by decide) kv_26 rfl dX2_passHour_31 ?_
        refine n_Si (na := 3) (As := [.int v48, .int v41, .int q13]) (rest := [.int v41, .int L1, .ref (ad b)]) X hD hN h (c_kept l G cI cB cZ cO ad wL2   v48 v41 q13 (by omega) (by omega) ) ⟨kv_53, kv_15, kv_9, kv_16⟩ ⟨by decide, by decide, by decide⟩ ⟨Nat.le_of_ble_eq_true rfl, Nat.le_of_ble_eq_true rfl⟩ ⟨Nat.zero_le _, Nat.zero_le _⟩ rfl hl.1 rfl (Nat.le_of_ble_eq_true rfl) dX2_passHour_34 (fun r51 w52 H locs hp53 h => ?_)
        obtain ⟨rfl, hr54⟩ := hp53
        obtain ⟨h55, h56⟩ := hr54
        obtain ⟨z59, e57, t58⟩ := x_sub (x := v41) (y := r51) (a := (v41).toInt) (b := (r51).toInt) rfl rfl (by omega) (by omega)
        refine o_isub (z := z59) hx hb dX2_passHour_37 e57 ?_
        refine n_Vv (na := 2) (As := [.int L1, .int z59]) (rest := []) X hD hN h rfl (c_drain l G cI cB cZ cO ad wL2 b hd g38 ok9 L1 z59 (by omega) (by omega) (by omega) (by omega) f40 p39 (by rw [e42]; omega)) ⟨kv_48, kv_49, kv_50, kv_37, kv_51⟩ rfl ⟨by decide, by decide, by decide⟩ ⟨Nat.le_of_ble_eq_true rfl, Nat.le_of_ble_eq_true rfl⟩ ⟨Nat.zero_le _, Nat.zero_le _⟩ (by have := isB.lt (isD.b hd); omega) f22 rfl rfl hl.1 rfl (Nat.le_of_ble_eq_true rfl) dX2_passHour_38 (fun w61 H locs hp62 h => ?_)
        obtain ⟨ok64, kk65, hr63⟩ := hp62
        have kx66 : KB b w w61 := KB.tr kx10 kk65
        obtain ⟨z67, e68, t69⟩ := x_add (x := L1) (y := 1) (a := L1.toInt) (b := 1) rfl rfl (by omega) (by omega)
        refine lv_iinc (v := z67) (lv' := [(1, .int z67), (0, .ref (ad b))]) hx hb dX2_passHour_41 hl (k := 0) rfl e68 (by decide) rfl (fun ls hl => ?_)
        refine lv_goto (tgt := 2) hx hb dX2_passHour_44 (by decide) ?_
        exact ih5  z67 w61 _ _ _ (by omega) (by omega) ok64 kx66 (by omega) h (lv_sub hl [0, 1] rfl)
  exact hloop3 5 (0 : Int32) w _ _ _ (by have q0 : (0 : Int32).toInt = 0 := rfl; omega) (by have q0 : (0 : Int32).toInt = 0 := rfl; omega) ok KB.rf (by have q0 : (0 : Int32).toInt = 0 := rfl; omega) h (lv_sub hl [0, 1] rfl)

set_option maxHeartbeats 4000000 in
set_option maxRecDepth 100000 in
theorem c_passHours (l : Launch) (G : va_G) (cI cB cZ cO : ClassId) (ad : Nat → Nat) (w : Nat → va_E) (b : Nat) (hd : isD b) (ok : OK cI cB cZ cO ad w) (n : Int32) (hl_n : 0 ≤ n.toInt) (hh_n : n.toInt ≤ 99)  : NV l G (tyq cI cB cZ cO) yX2_passHours cX2_passHours 3 3 68 74 ad w [.ref (ad b), .int n] (fun w1 => OK cI cB cZ cO ad w1 ∧ KB b w w1 ∧ True) := by
  refine nk_v (own := "NoonShade$Isle") rfl (by decide) (Nat.le_of_ble_eq_true rfl) ?_
  intro p e s m below meth c ls X hD hN hr hlk h hl
  have hx := X.1.1
  have hb := X.1.2.1
  have hown := X.1.2.2.2.1
  have hts := X.1.2.2.2.2
  have hl : lv_has ls 3 [(0, .ref (ad b)), (1, .int n)] := hl
  refine lv_iconst (v := 0) hx hb dX2_passHours_0 (by decide) ?_
  refine lv_istore_n (lv' := [(2, .int 0), (0, .ref (ad b)), (1, .int n)]) hx hb dX2_passHours_1 rfl hl (by decide) rfl (fun ls hl => ?_)
  have hloop3 : ∀ (d4 : Nat) (L1 : Int32) (wL2 : Nat → va_E) (H : Heap) (locs : List Loc) (ls : Array Slot), 0 ≤ L1.toInt → L1.toInt ≤ 99 → OK cI cB cZ cO ad wL2 → KB b w wL2 → 99 - L1.toInt < (d4 : Int) → St G 74 ad (wA 74 ad s.heap.size) s.heap wL2 H locs → lv_has ls 3 [(2, .int L1), (0, .ref (ad b)), (1, .int n)] → W p l e { frames := 3, cells := 0, slots := 0, locals := 68 } s m [.ref (ad b), .int n].toArray below meth c H locs 0 0 (MQ below (va_Qv (fun w1 => OK cI cB cZ cO ad w1 ∧ KB b w w1 ∧ True) (Aft G 74 ad) (wA 74 ad s.heap.size)) [.ref (ad b), .int n].toArray s 0 0 (wA 74 ad s.heap.size)) (F0 m 2 ls []) := by
    intro d4
    induction d4 with
    | zero => intro L1 wL2 H locs ls hi7 hi8 ok9 kx10 hm6 h hl; exfalso; omega
    | succ d4 ih5 =>
      intro L1 wL2 H locs ls hi7 hi8 ok9 kx10 hm6 h hl
      refine lv_iload_n hx hb dX2_passHours_2 rfl (lv_at hl 0 rfl) ?_
      refine lv_iload_n hx hb dX2_passHours_3 rfl (lv_at hl 2 rfl) ?_
      refine lv_icmp_ge (tgt := 27) hx hb dX2_passHours_4 (by decide) (fun hc12 => ?_) (fun hc12 => ?_)
      · have hc12 : (n).toInt ≤ (L1).toInt := i_le hc12 rfl rfl
        exact e_v X h hr hlk dX2_passHours_27 ⟨ok9, kx10, trivial⟩
      · have hc12 : ¬ (n).toInt ≤ (L1).toInt := i_nle hc12 rfl rfl
        refine lv_aload_n hx hb dX2_passHours_7 rfl (lv_at hl 1 rfl) ?_
        obtain ⟨q14, q15, q16, q17, q18, f13, h19, h20, h21, h22⟩ := (show sI ad b (wL2 b) from ok9.b0 (isD.b hd))
        have f23 : wL2 b = .inr (1, [.int q14, .int q15, .int q16, .int q17, .int q18, .ref (ad (b + 1)), .ref (ad (b + 2)), .ref (ad (b + 3)), .ref (ad (b + 4)), .ref (ad (b + 5)), .ref (ad (b + 6)), .ref (ad (b + 7)), .ref (ad (b + 9)), .ref (ad (b + 11))]) := f13
        refine r_get kc2 X h b 0 (by have := isB.lt (isD.b hd); omega) rfl f23 (by decide) kv_26 rfl dX2_passHours_8 ?_
        refine lv_sipush (v := 9999) hx hb dX2_passHours_11 (by decide) ?_
        refine lv_icmp_ge (tgt := 27) hx hb dX2_passHours_14 (by decide) (fun hc24 => ?_) (fun hc24 => ?_)
        · have hc24 : 9999 ≤ (q14).toInt := i_le hc24 rfl rfl
          exact e_v X h hr hlk dX2_passHours_27 ⟨ok9, kx10, trivial⟩
        · have hc24 : ¬ 9999 ≤ (q14).toInt := i_nle hc24 rfl rfl
          refine lv_aload_n hx hb dX2_passHours_17 rfl (lv_at hl 1 rfl) ?_
          refine n_Vv (na := 0) (As := []) (rest := []) X hD hN h rfl (c_passHour l G cI cB cZ cO ad wL2 b hd ok9   ) ⟨kv_54, kv_55, kv_56, kv_37, kv_57⟩ rfl ⟨by decide, by decide, by decide⟩ ⟨Nat.le_of_ble_eq_true rfl, Nat.le_of_ble_eq_true rfl⟩ ⟨Nat.zero_le _, Nat.zero_le _⟩ (by have := isB.lt (isD.b hd); omega) f23 rfl rfl hl.1 rfl (Nat.le_of_ble_eq_true rfl) dX2_passHours_18 (fun w26 H locs hp27 h => ?_)
          obtain ⟨ok29, kk30, hr28⟩ := hp27
          have kx31 : KB b w w26 := KB.tr kx10 kk30
          obtain ⟨z32, e33, t34⟩ := x_add (x := L1) (y := 1) (a := L1.toInt) (b := 1) rfl rfl (by omega) (by omega)
          refine lv_iinc (v := z32) (lv' := [(2, .int z32), (0, .ref (ad b)), (1, .int n)]) hx hb dX2_passHours_21 hl (k := 0) rfl e33 (by decide) rfl (fun ls hl => ?_)
          refine lv_goto (tgt := 2) hx hb dX2_passHours_24 (by decide) ?_
          exact ih5  z32 w26 _ _ _ (by omega) (by omega) ok29 kx31 (by omega) h (lv_sub hl [0, 1, 2] rfl)
  exact hloop3 100 (0 : Int32) w _ _ _ (by have q0 : (0 : Int32).toInt = 0 := rfl; omega) (by have q0 : (0 : Int32).toInt = 0 := rfl; omega) ok KB.rf (by have q0 : (0 : Int32).toInt = 0 := rfl; omega) h (lv_sub hl [0, 1, 2] rfl)

