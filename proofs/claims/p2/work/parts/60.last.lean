set_option maxHeartbeats 4000000 in
set_option maxRecDepth 100000 in
theorem c_X_type (l : Launch) (G : va_G) (cI cB cZ cO : ClassId) (ad : Nat → Nat) (w : Nat → va_E) (z a b c0 d : Int32) (ok : OK cI cB cZ cO ad w) (x : Int32)  (pf : w 55 = .inr (5, [.ref (ad 56), .ref (ad 57), .int z, .int a, .int b, .int c0, .int d])) (hz1 : z.toInt ≤ 150) (hd0 : 0 ≤ d.toInt) (hd1 : d.toInt ≤ 99) (hz0 : 0 ≤ z.toInt) : NI l G (tyq cI cB cZ cO) yX8_type cX8_type 2 (some .int) 2 41 74 ad w [.ref (ad 0), .int x] (fun r w1 => OK cI cB cZ cO ad w1 ∧ KL w w1 ∧ ((¬ (0 ≤ x.toInt ∧ x.toInt ≤ 127) ∧ KT w w1 ∧ r = -2) ∨ ((0 ≤ x.toInt ∧ x.toInt ≤ 127) ∧ 150 ≤ z.toInt ∧ KT w w1 ∧ r = -4) ∨ ((0 ≤ x.toInt ∧ x.toInt ≤ 127) ∧ z.toInt < 150 ∧ r = z + 1 ∧ pT (w1 55) = .inr (5, [.int (z + 1)])))) := by
  refine nk_i (own := "NoonShade") rfl (by decide) (Nat.le_of_ble_eq_true rfl) ?_
  intro p e s m below meth c ls X hD hN hr hlk h hl
  have hx := X.1.1
  have hb := X.1.2.1
  have hown := X.1.2.2.2.1
  have hts := X.1.2.2.2.2
  have hl : lv_has ls 2 [(0, .ref (ad 0)), (1, .int x)] := hl
  refine lv_iload_n hx hb dX8_type_0 rfl (lv_at hl 1 rfl) ?_
  refine lv_iconst (v := 0) hx hb dX8_type_1 (by decide) ?_
  refine lv_bipush (v := 127) hx hb dX8_type_2 (by decide) ?_
  refine n_Si (na := 3) (As := [.int x, .int 0, .int 127]) (rest := []) X hD hN h (c_within l G cI cB cZ cO ad w x (0 : Int32) (127 : Int32) ((x).toInt) 0 127 rfl rfl rfl) ⟨kv_247, kv_248, kv_212, kv_249⟩ ⟨by decide, by decide, by decide⟩ ⟨Nat.le_of_ble_eq_true rfl, Nat.le_of_ble_eq_true rfl⟩ ⟨Nat.zero_le _, Nat.zero_le _⟩ rfl hl.1 rfl (Nat.le_of_ble_eq_true rfl) dX8_type_4 (fun r1 w2 H locs hp3 h => ?_)
  obtain ⟨rfl, hq4⟩ := hp3
  rcases hq4 with ⟨hq5, hq6, rfl⟩ | ⟨hq4, rfl⟩
  · refine lv_if_ne (tgt := 17) hx hb dX8_type_7 (by decide) (fun _ => ?_) (fun hc => absurd hc (by decide))
    refine lv_aload_n hx hb dX8_type_17 rfl (lv_at hl 0 rfl) ?_
    obtain ⟨x8, x9, q10, q11, q12, f7⟩ := (show sN ad (w 0) from ok 0 (by decide))
    have f13 : w 0 = .inr (6, [.ref (ad 1), .ref (ad 14), .ref (ad 27), .ref (ad 54), .ref (ad 55), .ref (ad 58), .ref (ad 62), .long x8, .long x9, .int q10, .int q11, .int q12]) := f7
    refine r_get kc8 X h 0 4 (by decide) rfl f13 (by decide) kv_191 rfl dX8_type_18 ?_
    refine n_Vi (na := 0) (As := []) (rest := []) X hD hN h rfl (c_T_isFull l G cI cB cZ cO ad w z a b c0 d    pf) ⟨kv_451, kv_448, kv_449, kv_388, kv_450⟩ rfl ⟨by decide, by decide, by decide⟩ ⟨Nat.le_of_ble_eq_true rfl, Nat.le_of_ble_eq_true rfl⟩ ⟨Nat.zero_le _, Nat.zero_le _⟩ (by decide) pf rfl rfl hl.1 rfl (Nat.le_of_ble_eq_true rfl) dX8_type_21 (fun r14 w15 H locs hp16 h => ?_)
    obtain ⟨rfl, hr17⟩ := hp16
    rcases hr17 with ⟨hq18, rfl⟩ | ⟨hq19, rfl⟩
    · refine lv_if_eq (tgt := 34) hx hb dX8_type_24 (by decide) (fun hc => absurd hc (by decide)) (fun _ => ?_)
      refine lv_aload_n hx hb dX8_type_27 rfl (lv_at hl 0 rfl) ?_
      refine lv_bipush (v := (-4)) hx hb dX8_type_28 (by decide) ?_
      refine n_Vi (na := 1) (As := [.int (-4)]) (rest := []) X hD hN h rfl (c_refused l G cI cB cZ cO ad w  ok ((-4) : Int32)  ) ⟨kv_227, kv_228, kv_229, kv_212, kv_230⟩ rfl ⟨by decide, by decide, by decide⟩ ⟨Nat.le_of_ble_eq_true rfl, Nat.le_of_ble_eq_true rfl⟩ ⟨Nat.zero_le _, Nat.zero_le _⟩ (by decide) f13 rfl rfl hl.1 rfl (Nat.le_of_ble_eq_true rfl) dX8_type_30 (fun r20 w21 H locs hp22 h => ?_)
      have kt23 : KT w w21 := hp22.2.1.t
      obtain ⟨ok25, kk26, hr24⟩ := hp22
      have kx27 : KL w w21 := (KT.l kk26.t)
      subst hr24
      exact e_i X h hr hlk dX8_type_33 ⟨ok25, kx27, Or.inr (Or.inl ⟨by omega, by omega, kt23, rfl⟩)⟩
    · refine lv_if_eq (tgt := 34) hx hb dX8_type_24 (by decide) (fun _ => ?_) (fun hc => absurd (by decide) hc)
      refine lv_aload_n hx hb dX8_type_34 rfl (lv_at hl 0 rfl) ?_
      refine r_get kc8 X h 0 4 (by decide) rfl f13 (by decide) kv_191 rfl dX8_type_35 ?_
      refine lv_iload_n hx hb dX8_type_38 rfl (lv_at hl 1 rfl) ?_
      refine n_Vi (na := 1) (As := [.int x]) (rest := []) X hD hN h rfl (c_T_add l G cI cB cZ cO ad w z a b c0 d ok x  pf (by first | omega | decide | (simp only [k00]; omega)) (by first | omega | decide | (simp only [k00]; omega)) (by first | omega | decide | (simp only [k00]; omega)) (by first | omega | decide | (simp only [k00]; omega))) ⟨kv_452, kv_453, kv_454, kv_388, kv_455⟩ rfl ⟨by decide, by decide, by decide⟩ ⟨Nat.le_of_ble_eq_true rfl, Nat.le_of_ble_eq_true rfl⟩ ⟨Nat.zero_le _, Nat.zero_le _⟩ (by decide) pf rfl rfl hl.1 rfl (Nat.le_of_ble_eq_true rfl) dX8_type_39 (fun r28 w29 H locs hp30 h => ?_)
      obtain ⟨ok32, kk33, hr31⟩ := hp30
      have kx34 : KL w w29 := kk33
      rcases hr31 with ⟨q1, q2, q3⟩ | ⟨q1, q2, q3⟩
      · exfalso; omega
      · exact e_i X h hr hlk dX8_type_42 ⟨ok32, kx34, Or.inr (Or.inr ⟨by omega, by omega, q2, q3⟩)⟩
  · refine lv_if_ne (tgt := 17) hx hb dX8_type_7 (by decide) (fun hc => absurd (by decide) hc) (fun _ => ?_)
    refine lv_aload_n hx hb dX8_type_10 rfl (lv_at hl 0 rfl) ?_
    refine lv_bipush (v := (-2)) hx hb dX8_type_11 (by decide) ?_
    obtain ⟨x39, x40, q41, q42, q43, f38⟩ := (show sN ad (w 0) from ok 0 (by decide))
    have f44 : w 0 = .inr (6, [.ref (ad 1), .ref (ad 14), .ref (ad 27), .ref (ad 54), .ref (ad 55), .ref (ad 58), .ref (ad 62), .long x39, .long x40, .int q41, .int q42, .int q43]) := f38
    refine n_Vi (na := 1) (As := [.int (-2)]) (rest := []) X hD hN h rfl (c_refused l G cI cB cZ cO ad w  ok ((-2) : Int32)  ) ⟨kv_227, kv_228, kv_229, kv_212, kv_230⟩ rfl ⟨by decide, by decide, by decide⟩ ⟨Nat.le_of_ble_eq_true rfl, Nat.le_of_ble_eq_true rfl⟩ ⟨Nat.zero_le _, Nat.zero_le _⟩ (by decide) f44 rfl rfl hl.1 rfl (Nat.le_of_ble_eq_true rfl) dX8_type_13 (fun r35 w36 H locs hp37 h => ?_)
    have kt45 : KT w w36 := hp37.2.1.t
    obtain ⟨ok47, kk48, hr46⟩ := hp37
    have kx49 : KL w w36 := (KT.l kk48.t)
    subst hr46
    exact e_i X h hr hlk dX8_type_16 ⟨ok47, kx49, Or.inl ⟨by omega, kt45, rfl⟩⟩

set_option maxHeartbeats 4000000 in
set_option maxRecDepth 100000 in
theorem c_T_empty (l : Launch) (G : va_G) (cI cB cZ cO : ClassId) (ad : Nat → Nat) (w : Nat → va_E) (z a b c0 d : Int32) (ok : OK cI cB cZ cO ad w)   (pf : w 55 = .inr (5, [.ref (ad 56), .ref (ad 57), .int z, .int a, .int b, .int c0, .int d])) (hz1 : z.toInt ≤ 150) (hd0 : 0 ≤ d.toInt) (hd1 : d.toInt ≤ 99) (hz0 : 0 ≤ z.toInt) : NI l G (tyq cI cB cZ cO) yX7_empty cX7_empty 2 (some .int) 0 0 74 ad w [.ref (ad 55)] (fun r w1 => OK cI cB cZ cO ad w1 ∧ KL w w1 ∧ z = r ∧ pT (w1 55) = .inr (5, [.int 0])) := by
  refine nk_i (own := "NoonShade$Text") rfl (by decide) (Nat.le_of_ble_eq_true rfl) ?_
  intro p e s m below meth c ls X hD hN hr hlk h hl
  have hx := X.1.1
  have hb := X.1.2.1
  have hown := X.1.2.2.2.1
  have hts := X.1.2.2.2.2
  have hl : lv_has ls 2 [(0, .ref (ad 55))] := hl
  refine lv_aload_n hx hb dX7_empty_0 rfl (lv_at hl 0 rfl) ?_
  refine r_get kc7 X h 55 2 (by decide) rfl pf (by decide) kv_391 rfl dX7_empty_1 ?_
  refine lv_istore_n (lv' := [(1, .int z), (0, .ref (ad 55))]) hx hb dX7_empty_4 rfl hl (by decide) rfl (fun ls hl => ?_)
  refine lv_aload_n hx hb dX7_empty_5 rfl (lv_at hl 1 rfl) ?_
  refine lv_iconst (v := 0) hx hb dX7_empty_6 (by decide) ?_
  refine r_put kc7 X hD h 55 2 (by decide) rfl pf (by decide) kv_391 rfl rfl rfl (Nat.le_of_ble_eq_true rfl) dX7_empty_7 (fun H locs w1 e2 h => ?_)
  have f3 : w1 55 = .inr (5, [.ref (ad 56), .ref (ad 57), .int 0, .int a, .int b, .int c0, .int d]) := (congrFun e2 _).trans (va_up_self _ _ _)
  have ok4 : OK cI cB cZ cO ad w1 := OK.up ok e2 (sT_mk (by decide) (by decide) (by omega) (by omega))
  have kx5 : KL w w1 := KL.up KL.rf e2 pf (Or.inl rfl)
  refine lv_iload_n hx hb dX7_empty_10 rfl (lv_at hl 0 rfl) ?_
  exact e_i X h hr hlk dX7_empty_11 ⟨ok4, kx5, ⟨rfl, by rw [f3]; rfl⟩⟩

set_option maxHeartbeats 4000000 in
set_option maxRecDepth 100000 in
theorem c_X_clear (l : Launch) (G : va_G) (cI cB cZ cO : ClassId) (ad : Nat → Nat) (w : Nat → va_E) (z a b c0 d : Int32) (ok : OK cI cB cZ cO ad w)   (pf : w 55 = .inr (5, [.ref (ad 56), .ref (ad 57), .int z, .int a, .int b, .int c0, .int d])) (hz1 : z.toInt ≤ 150) (hd0 : 0 ≤ d.toInt) (hd1 : d.toInt ≤ 99) (hz0 : 0 ≤ z.toInt) : NI l G (tyq cI cB cZ cO) yX8_clear cX8_clear 1 (some .int) 1 21 74 ad w [.ref (ad 0)] (fun r w1 => OK cI cB cZ cO ad w1 ∧ KL w w1 ∧ z = r ∧ pT (w1 55) = .inr (5, [.int 0])) := by
  refine nk_i (own := "NoonShade") rfl (by decide) (Nat.le_of_ble_eq_true rfl) ?_
  intro p e s m below meth c ls X hD hN hr hlk h hl
  have hx := X.1.1
  have hb := X.1.2.1
  have hown := X.1.2.2.2.1
  have hts := X.1.2.2.2.2
  have hl : lv_has ls 1 [(0, .ref (ad 0))] := hl
  refine lv_aload_n hx hb dX8_clear_0 rfl (lv_at hl 0 rfl) ?_
  obtain ⟨x2, x3, q4, q5, q6, f1⟩ := (show sN ad (w 0) from ok 0 (by decide))
  have f7 : w 0 = .inr (6, [.ref (ad 1), .ref (ad 14), .ref (ad 27), .ref (ad 54), .ref (ad 55), .ref (ad 58), .ref (ad 62), .long x2, .long x3, .int q4, .int q5, .int q6]) := f1
  refine r_get kc8 X h 0 4 (by decide) rfl f7 (by decide) kv_191 rfl dX8_clear_1 ?_
  refine n_Vi (na := 0) (As := []) (rest := []) X hD hN h rfl (c_T_empty l G cI cB cZ cO ad w z a b c0 d ok   pf (by first | omega | decide | (simp only [k00]; omega)) (by first | omega | decide | (simp only [k00]; omega)) (by first | omega | decide | (simp only [k00]; omega)) (by first | omega | decide | (simp only [k00]; omega))) ⟨kv_456, kv_457, kv_458, kv_388, kv_459⟩ rfl ⟨by decide, by decide, by decide⟩ ⟨Nat.le_of_ble_eq_true rfl, Nat.le_of_ble_eq_true rfl⟩ ⟨Nat.zero_le _, Nat.zero_le _⟩ (by decide) pf rfl rfl hl.1 rfl (Nat.le_of_ble_eq_true rfl) dX8_clear_4 (fun r8 w9 H locs hp10 h => ?_)
  obtain ⟨ok12, kk13, hr11⟩ := hp10
  have kx14 : KL w w9 := kk13
  exact e_i X h hr hlk dX8_clear_7 ⟨ok12, kx14, hr11⟩

set_option maxHeartbeats 4000000 in
set_option maxRecDepth 100000 in
theorem c_X_read (l : Launch) (G : va_G) (cI cB cZ cO : ClassId) (ad : Nat → Nat) (w : Nat → va_E)  (ok : OK cI cB cZ cO ad w)    : NI l G (tyq cI cB cZ cO) yX8_read cX8_read 2 (some .int) 7 150 74 ad w [.ref (ad 0)] (fun r w1 => OK cI cB cZ cO ad w1 ∧ KT w w1 ∧ True) := by
  refine nk_i (own := "NoonShade") rfl (by decide) (Nat.le_of_ble_eq_true rfl) ?_
  intro p e s m below meth c ls X hD hN hr hlk h hl
  have hx := X.1.1
  have hb := X.1.2.1
  have hown := X.1.2.2.2.1
  have hts := X.1.2.2.2.2
  have hl : lv_has ls 2 [(0, .ref (ad 0))] := hl
  refine lv_aload_n hx hb dX8_read_0 rfl (lv_at hl 0 rfl) ?_
  obtain ⟨x2, x3, q4, q5, q6, f1⟩ := (show sN ad (w 0) from ok 0 (by decide))
  have f7 : w 0 = .inr (6, [.ref (ad 1), .ref (ad 14), .ref (ad 27), .ref (ad 54), .ref (ad 55), .ref (ad 58), .ref (ad 62), .long x2, .long x3, .int q4, .int q5, .int q6]) := f1
  refine r_get kc8 X h 0 4 (by decide) rfl f7 (by decide) kv_191 rfl dX8_read_1 ?_
  refine lv_aload_n hx hb dX8_read_4 rfl (lv_at hl 0 rfl) ?_
  refine r_get kc8 X h 0 1 (by decide) rfl f7 (by decide) kv_306 rfl dX8_read_5 ?_
  obtain ⟨t9, t10, t11, t12, t13, f8, h14, h15, h16, h17⟩ := (show sT ad (w 55) from ok 55 (by decide))
  have f18 : w 55 = .inr (5, [.ref (ad 56), .ref (ad 57), .int t9, .int t10, .int t11, .int t12, .int t13]) := f8
  refine n_Vi (na := 1) (As := [.ref (ad 14)]) (rest := []) X hD hN h rfl (c_tell l G cI cB cZ cO ad w t9 t10 t11 t12 t13 ok   f18 (by first | omega | decide | (simp only [k00]; omega)) (by first | omega | decide | (simp only [k00]; omega)) (by first | omega | decide | (simp only [k00]; omega)) (by first | omega | decide | (simp only [k00]; omega))) ⟨kv_460, kv_461, kv_462, kv_388, kv_463⟩ rfl ⟨by decide, by decide, by decide⟩ ⟨Nat.le_of_ble_eq_true rfl, Nat.le_of_ble_eq_true rfl⟩ ⟨Nat.zero_le _, Nat.zero_le _⟩ (by decide) f18 rfl rfl hl.1 rfl (Nat.le_of_ble_eq_true rfl) dX8_read_8 (fun r19 w20 H locs hp21 h => ?_)
  obtain ⟨ok23, kk24, hr22⟩ := hp21
  have kx25 : KT w w20 := kk24.t
  refine lv_istore_n (lv' := [(1, .int r19), (0, .ref (ad 0))]) hx hb dX8_read_11 rfl hl (by decide) rfl (fun ls hl => ?_)
  refine lv_iload_n hx hb dX8_read_12 rfl (lv_at hl 0 rfl) ?_
  refine lv_if_le (tgt := 27) hx hb dX8_read_13 (by decide) (fun hc26 => ?_) (fun hc26 => ?_)
  · have hc26 : (r19).toInt ≤ 0 := i_le hc26 rfl rfl
    refine lv_iload_n hx hb dX8_read_27 rfl (lv_at hl 0 rfl) ?_
    exact e_i X h hr hlk dX8_read_28 ⟨ok23, kx25, trivial⟩
  · have hc26 : ¬ (r19).toInt ≤ 0 := i_nle hc26 rfl rfl
    refine lv_aload_n hx hb dX8_read_16 rfl (lv_at hl 1 rfl) ?_
    obtain ⟨x28, x29, q30, q31, q32, f27⟩ := (show sN ad (w20 0) from ok23 0 (by decide))
    have f33 : w20 0 = .inr (6, [.ref (ad 1), .ref (ad 14), .ref (ad 27), .ref (ad 54), .ref (ad 55), .ref (ad 58), .ref (ad 62), .long x28, .long x29, .int q30, .int q31, .int q32]) := f27
    refine r_get kc8 X h 0 0 (by decide) rfl f33 (by decide) kv_172 rfl dX8_read_17 ?_
    refine lv_aload_n hx hb dX8_read_20 rfl (lv_at hl 1 rfl) ?_
    refine r_get kc8 X h 0 1 (by decide) rfl f33 (by decide) kv_306 rfl dX8_read_21 ?_
    obtain ⟨q38, q39, q40, q41, q42, f37, h43, h44, h45, h46⟩ := (show sI ad 1 (w20 1) from ok23 1 (by decide))
    have f47 : w20 1 = .inr (1, [.int q38, .int q39, .int q40, .int q41, .int q42, .ref (ad 2), .ref (ad 3), .ref (ad 4), .ref (ad 5), .ref (ad 6), .ref (ad 7), .ref (ad 8), .ref (ad 10), .ref (ad 12)]) := f37
    refine n_Vv (na := 1) (As := [.ref (ad 14)]) (rest := []) X hD hN h rfl (c_become l G cI cB cZ cO ad w20 1 14 (Or.inl rfl) (Or.inr (Or.inl rfl)) (by omega) ok23   ) ⟨kv_307, kv_308, kv_309, kv_37, kv_310⟩ rfl ⟨by decide, by decide, by decide⟩ ⟨Nat.le_of_ble_eq_true rfl, Nat.le_of_ble_eq_true rfl⟩ ⟨Nat.zero_le _, Nat.zero_le _⟩ (by decide) f47 rfl rfl hl.1 rfl (Nat.le_of_ble_eq_true rfl) dX8_read_24 (fun w35 H locs hp36 h => ?_)
    obtain ⟨ok49, kk50, hr48⟩ := hp36
    have kx51 : KT w w35 := KT.tr kx25 (FR.t (Or.inl rfl) kk50)
    refine lv_iload_n hx hb dX8_read_27 rfl (lv_at hl 0 rfl) ?_
    exact e_i X h hr hlk dX8_read_28 ⟨ok49, kx51, trivial⟩

set_option maxHeartbeats 4000000 in
set_option maxRecDepth 100000 in
theorem c_X_image (l : Launch) (G : va_G) (cI cB cZ cO : ClassId) (ad : Nat → Nat) (w : Nat → va_E) (f : Nat → Int32) (ok : OK cI cB cZ cO ad w) (i : Int32)  (pf : w 54 = .inl (cZ, 2, .inl f)) (pr : rgA 0 1 f) : NI l G (tyq cI cB cZ cO) yX8_image cX8_image 2 (some .int) 3 82 74 ad w [.ref (ad 0), .int i] (fun r w1 => OK cI cB cZ cO ad w1 ∧ KI w w1 ∧ ((¬ (0 ≤ i.toInt ∧ i.toInt ≤ 1) ∧ KT w w1 ∧ r = -2) ∨ ((0 ≤ i.toInt ∧ i.toInt ≤ 1) ∧ r = 1 ∧ w1 54 = .inl (cZ, 2, .inl (upd f i.toNatClampNeg 1))))) := by
  refine nk_i (own := "NoonShade") rfl (by decide) (Nat.le_of_ble_eq_true rfl) ?_
  intro p e s m below meth c ls X hD hN hr hlk h hl
  have hx := X.1.1
  have hb := X.1.2.1
  have hown := X.1.2.2.2.1
  have hts := X.1.2.2.2.2
  have hl : lv_has ls 2 [(0, .ref (ad 0)), (1, .int i)] := hl
  refine lv_iload_n hx hb dX8_image_0 rfl (lv_at hl 1 rfl) ?_
  refine lv_iconst (v := 0) hx hb dX8_image_1 (by decide) ?_
  refine lv_iconst (v := 1) hx hb dX8_image_2 (by decide) ?_
  refine n_Si (na := 3) (As := [.int i, .int 0, .int 1]) (rest := []) X hD hN h (c_within l G cI cB cZ cO ad w i (0 : Int32) (1 : Int32) ((i).toInt) 0 1 rfl rfl rfl) ⟨kv_247, kv_248, kv_212, kv_249⟩ ⟨by decide, by decide, by decide⟩ ⟨Nat.le_of_ble_eq_true rfl, Nat.le_of_ble_eq_true rfl⟩ ⟨Nat.zero_le _, Nat.zero_le _⟩ rfl hl.1 rfl (Nat.le_of_ble_eq_true rfl) dX8_image_3 (fun r1 w2 H locs hp3 h => ?_)
  obtain ⟨rfl, hq4⟩ := hp3
  rcases hq4 with ⟨hq5, hq6, rfl⟩ | ⟨hq4, rfl⟩
  · refine lv_if_ne (tgt := 16) hx hb dX8_image_6 (by decide) (fun _ => ?_) (fun hc => absurd hc (by decide))
    refine lv_aload_n hx hb dX8_image_16 rfl (lv_at hl 0 rfl) ?_
    obtain ⟨x8, x9, q10, q11, q12, f7⟩ := (show sN ad (w 0) from ok 0 (by decide))
    have f13 : w 0 = .inr (6, [.ref (ad 1), .ref (ad 14), .ref (ad 27), .ref (ad 54), .ref (ad 55), .ref (ad 58), .ref (ad 62), .long x8, .long x9, .int q10, .int q11, .int q12]) := f7
    refine r_get kc8 X h 0 2 (by decide) rfl f13 (by decide) kv_464 rfl dX8_image_17 ?_
    refine lv_iload_n hx hb dX8_image_20 rfl (lv_at hl 1 rfl) ?_
    have f14 : w 27 = .inl (cO, 2, .inr (.inr (.inr (.inr (fun k => if k = 0 then some (ad 28) else if k = 1 then some (ad 41) else none))))) := ok 27 (by decide)
    have f15 : w 27 = .inl (cO, 2, .inr (.inr (.inr (.inr (fun k => if k = 0 then some (ad 28) else if k = 1 then some (ad 41) else none))))) := f14
    have hq16 : i = 0 ∨ i = 1 := by simp only [fa_eq, show ((0 : Int32).toInt = 0) from rfl, show ((1 : Int32).toInt = 1) from rfl]; omega
    rcases hq16 with hq16 | hq16
    · refine r_aald (v := .ref (ad 28)) X h 27 3 (by decide) rfl f15 rfl (in_of (by omega) (by omega)) (by rw [hq16] <;> rfl) dX8_image_21 ?_
      refine lv_aload_n hx hb dX8_image_22 rfl (lv_at hl 0 rfl) ?_
      refine r_get kc8 X h 0 0 (by decide) rfl f13 (by decide) kv_172 rfl dX8_image_23 ?_
      obtain ⟨q21, q22, q23, q24, q25, f20, h26, h27, h28, h29⟩ := (show sI ad 28 (w 28) from ok 28 (by decide))
      have f30 : w 28 = .inr (1, [.int q21, .int q22, .int q23, .int q24, .int q25, .ref (ad 29), .ref (ad 30), .ref (ad 31), .ref (ad 32), .ref (ad 33), .ref (ad 34), .ref (ad 35), .ref (ad 37), .ref (ad 39)]) := f20
      refine n_Vv (na := 1) (As := [.ref (ad 1)]) (rest := []) X hD hN h rfl (c_become l G cI cB cZ cO ad w 28 1 (Or.inr (Or.inr (Or.inl rfl))) (Or.inl rfl) (by omega) ok   ) ⟨kv_307, kv_308, kv_309, kv_37, kv_310⟩ rfl ⟨by decide, by decide, by decide⟩ ⟨Nat.le_of_ble_eq_true rfl, Nat.le_of_ble_eq_true rfl⟩ ⟨Nat.zero_le _, Nat.zero_le _⟩ (by decide) f30 rfl rfl hl.1 rfl (Nat.le_of_ble_eq_true rfl) dX8_image_26 (fun w18 H locs hp19 h => ?_)
      obtain ⟨ok32, kk33, hr31⟩ := hp19
      have kx34 : KI w w18 := (KT.i (FR.t (Or.inr (Or.inr (Or.inl rfl))) kk33))
      refine lv_aload_n hx hb dX8_image_29 rfl (lv_at hl 0 rfl) ?_
      have f35 : w18 0 = .inr (6, [.ref (ad 1), .ref (ad 14), .ref (ad 27), .ref (ad 54), .ref (ad 55), .ref (ad 58), .ref (ad 62), .long x8, .long x9, .int q10, .int q11, .int q12]) := (kk33 0 (by decide)).trans f13
      refine r_get kc8 X h 0 3 (by decide) rfl f35 (by decide) kv_465 rfl dX8_image_30 ?_
      refine lv_iload_n hx hb dX8_image_33 rfl (lv_at hl 1 rfl) ?_
      refine lv_iconst (v := 1) hx hb dX8_image_34 (by decide) ?_
      have f36 : w18 54 = .inl (cZ, 2, .inl f) := (kk33 54 (by decide)).trans pf
      obtain ⟨g37, e38⟩ : ∃ z : Nat → Int32, upd f (i).toNatClampNeg (vp_nar .boolean (1 : Int32)) = z := ⟨_, rfl⟩
      have p39 : rgA 0 1 g37 := rgA_upd pr e38 (by decide) (by decide)
      refine o_zast (f1 := g37) X hD h 54 2 (by decide) rfl f36 rfl (in_of (by omega) (by omega)) e38 dX8_image_35 (fun H locs w40 e41 h => ?_)
      have f42 : w40 54 = .inl (cZ, 2, .inl g37) := (congrFun e41 _).trans (va_up_self _ _ _)
      have ok43 : OK cI cB cZ cO ad w40 := OK.up ok32 e41 (sA_mk p39)
      have kx44 : KI w w40 := KI.up kx34 e41 f36 (Or.inl rfl)
      refine lv_iconst (v := 1) hx hb dX8_image_36 (by decide) ?_
      exact e_i X h hr hlk dX8_image_37 ⟨ok43, kx44, Or.inr ⟨by omega, rfl, by rw [f42, ← e38]; first | rfl | (congr 3)⟩⟩
    · refine r_aald (v := .ref (ad 41)) X h 27 3 (by decide) rfl f15 rfl (in_of (by omega) (by omega)) (by rw [hq16] <;> rfl) dX8_image_21 ?_
      refine lv_aload_n hx hb dX8_image_22 rfl (lv_at hl 0 rfl) ?_
      refine r_get kc8 X h 0 0 (by decide) rfl f13 (by decide) kv_172 rfl dX8_image_23 ?_
      obtain ⟨q49, q50, q51, q52, q53, f48, h54, h55, h56, h57⟩ := (show sI ad 41 (w 41) from ok 41 (by decide))
      have f58 : w 41 = .inr (1, [.int q49, .int q50, .int q51, .int q52, .int q53, .ref (ad 42), .ref (ad 43), .ref (ad 44), .ref (ad 45), .ref (ad 46), .ref (ad 47), .ref (ad 48), .ref (ad 50), .ref (ad 52)]) := f48
      refine n_Vv (na := 1) (As := [.ref (ad 1)]) (rest := []) X hD hN h rfl (c_become l G cI cB cZ cO ad w 41 1 (Or.inr (Or.inr (Or.inr rfl))) (Or.inl rfl) (by omega) ok   ) ⟨kv_307, kv_308, kv_309, kv_37, kv_310⟩ rfl ⟨by decide, by decide, by decide⟩ ⟨Nat.le_of_ble_eq_true rfl, Nat.le_of_ble_eq_true rfl⟩ ⟨Nat.zero_le _, Nat.zero_le _⟩ (by decide) f58 rfl rfl hl.1 rfl (Nat.le_of_ble_eq_true rfl) dX8_image_26 (fun w46 H locs hp47 h => ?_)
      obtain ⟨ok60, kk61, hr59⟩ := hp47
      have kx62 : KI w w46 := (KT.i (FR.t (Or.inr (Or.inr (Or.inr rfl))) kk61))
      refine lv_aload_n hx hb dX8_image_29 rfl (lv_at hl 0 rfl) ?_
      have f63 : w46 0 = .inr (6, [.ref (ad 1), .ref (ad 14), .ref (ad 27), .ref (ad 54), .ref (ad 55), .ref (ad 58), .ref (ad 62), .long x8, .long x9, .int q10, .int q11, .int q12]) := (kk61 0 (by decide)).trans f13
      refine r_get kc8 X h 0 3 (by decide) rfl f63 (by decide) kv_465 rfl dX8_image_30 ?_
      refine lv_iload_n hx hb dX8_image_33 rfl (lv_at hl 1 rfl) ?_
      refine lv_iconst (v := 1) hx hb dX8_image_34 (by decide) ?_
      have f64 : w46 54 = .inl (cZ, 2, .inl f) := (kk61 54 (by decide)).trans pf
      obtain ⟨g65, e66⟩ : ∃ z : Nat → Int32, upd f (i).toNatClampNeg (vp_nar .boolean (1 : Int32)) = z := ⟨_, rfl⟩
      have p67 : rgA 0 1 g65 := rgA_upd pr e66 (by decide) (by decide)
      refine o_zast (f1 := g65) X hD h 54 2 (by decide) rfl f64 rfl (in_of (by omega) (by omega)) e66 dX8_image_35 (fun H locs w68 e69 h => ?_)
      have f70 : w68 54 = .inl (cZ, 2, .inl g65) := (congrFun e69 _).trans (va_up_self _ _ _)
      have ok71 : OK cI cB cZ cO ad w68 := OK.up ok60 e69 (sA_mk p67)
      have kx72 : KI w w68 := KI.up kx62 e69 f64 (Or.inl rfl)
      refine lv_iconst (v := 1) hx hb dX8_image_36 (by decide) ?_
      exact e_i X h hr hlk dX8_image_37 ⟨ok71, kx72, Or.inr ⟨by omega, rfl, by rw [f70, ← e66]; first | rfl | (congr 3)⟩⟩
  · refine lv_if_ne (tgt := 16) hx hb dX8_image_6 (by decide) (fun hc => absurd (by decide) hc) (fun _ => ?_)
    refine lv_aload_n hx hb dX8_image_9 rfl (lv_at hl 0 rfl) ?_
    refine lv_bipush (v := (-2)) hx hb dX8_image_10 (by decide) ?_
    obtain ⟨x77, x78, q79, q80, q81, f76⟩ := (show sN ad (w 0) from ok 0 (by decide))
    have f82 : w 0 = .inr (6, [.ref (ad 1), .ref (ad 14), .ref (ad 27), .ref (ad 54), .ref (ad 55), .ref (ad 58), .ref (ad 62), .long x77, .long x78, .int q79, .int q80, .int q81]) := f76
    refine n_Vi (na := 1) (As := [.int (-2)]) (rest := []) X hD hN h rfl (c_refused l G cI cB cZ cO ad w  ok ((-2) : Int32)  ) ⟨kv_227, kv_228, kv_229, kv_212, kv_230⟩ rfl ⟨by decide, by decide, by decide⟩ ⟨Nat.le_of_ble_eq_true rfl, Nat.le_of_ble_eq_true rfl⟩ ⟨Nat.zero_le _, Nat.zero_le _⟩ (by decide) f82 rfl rfl hl.1 rfl (Nat.le_of_ble_eq_true rfl) dX8_image_12 (fun r73 w74 H locs hp75 h => ?_)
    have kt83 : KT w w74 := hp75.2.1.t
    obtain ⟨ok85, kk86, hr84⟩ := hp75
    have kx87 : KI w w74 := (KT.i kk86.t)
    subst hr84
    exact e_i X h hr hlk dX8_image_15 ⟨ok85, kx87, Or.inl ⟨by omega, kt83, rfl⟩⟩

set_option maxHeartbeats 4000000 in
set_option maxRecDepth 100000 in
theorem c_X_from (l : Launch) (G : va_G) (cI cB cZ cO : ClassId) (ad : Nat → Nat) (w : Nat → va_E) (f : Nat → Int32) (ok : OK cI cB cZ cO ad w) (i : Int32)  (pf : w 54 = .inl (cZ, 2, .inl f)) (pr : rgA 0 1 f) : NI l G (tyq cI cB cZ cO) yX8_from cX8_from 2 (some .int) 3 82 74 ad w [.ref (ad 0), .int i] (fun r w1 => OK cI cB cZ cO ad w1 ∧ KT w w1 ∧ ((¬ (0 ≤ i.toInt ∧ i.toInt ≤ 1) ∧ r = -2) ∨ ((0 ≤ i.toInt ∧ i.toInt ≤ 1) ∧ (f i.toNatClampNeg).toInt = 0 ∧ r = -3) ∨ ((0 ≤ i.toInt ∧ i.toInt ≤ 1) ∧ ¬ (f i.toNatClampNeg).toInt = 0 ∧ r = 1))) := by
  refine nk_i (own := "NoonShade") rfl (by decide) (Nat.le_of_ble_eq_true rfl) ?_
  intro p e s m below meth c ls X hD hN hr hlk h hl
  have hx := X.1.1
  have hb := X.1.2.1
  have hown := X.1.2.2.2.1
  have hts := X.1.2.2.2.2
  have hl : lv_has ls 2 [(0, .ref (ad 0)), (1, .int i)] := hl
  refine lv_iload_n hx hb dX8_from_0 rfl (lv_at hl 1 rfl) ?_
  refine lv_iconst (v := 0) hx hb dX8_from_1 (by decide) ?_
  refine lv_iconst (v := 1) hx hb dX8_from_2 (by decide) ?_
  refine n_Si (na := 3) (As := [.int i, .int 0, .int 1]) (rest := []) X hD hN h (c_within l G cI cB cZ cO ad w i (0 : Int32) (1 : Int32) ((i).toInt) 0 1 rfl rfl rfl) ⟨kv_247, kv_248, kv_212, kv_249⟩ ⟨by decide, by decide, by decide⟩ ⟨Nat.le_of_ble_eq_true rfl, Nat.le_of_ble_eq_true rfl⟩ ⟨Nat.zero_le _, Nat.zero_le _⟩ rfl hl.1 rfl (Nat.le_of_ble_eq_true rfl) dX8_from_3 (fun r1 w2 H locs hp3 h => ?_)
  obtain ⟨rfl, hq4⟩ := hp3
  rcases hq4 with ⟨hq5, hq6, rfl⟩ | ⟨hq4, rfl⟩
  · refine lv_if_ne (tgt := 16) hx hb dX8_from_6 (by decide) (fun _ => ?_) (fun hc => absurd hc (by decide))
    refine lv_aload_n hx hb dX8_from_16 rfl (lv_at hl 0 rfl) ?_
    obtain ⟨x8, x9, q10, q11, q12, f7⟩ := (show sN ad (w 0) from ok 0 (by decide))
    have f13 : w 0 = .inr (6, [.ref (ad 1), .ref (ad 14), .ref (ad 27), .ref (ad 54), .ref (ad 55), .ref (ad 58), .ref (ad 62), .long x8, .long x9, .int q10, .int q11, .int q12]) := f7
    refine r_get kc8 X h 0 3 (by decide) rfl f13 (by decide) kv_465 rfl dX8_from_17 ?_
    refine lv_iload_n hx hb dX8_from_20 rfl (lv_at hl 1 rfl) ?_
    obtain ⟨v14, e15⟩ : ∃ z : Int32, f (i).toNatClampNeg = z := ⟨_, rfl⟩
    have h16 := rgA_rd pr e15
    refine o_zald (v := v14) X h 54 2 (by decide) rfl pf rfl (in_of (by omega) (by omega)) e15 dX8_from_21 ?_
    refine lv_if_ne (tgt := 32) hx hb dX8_from_22 (by decide) (fun hc17 => ?_) (fun hc17 => ?_)
    · have hc17 : ¬ (v14).toInt = 0 := i_ne hc17 rfl rfl
      refine lv_aload_n hx hb dX8_from_32 rfl (lv_at hl 0 rfl) ?_
      refine r_get kc8 X h 0 0 (by decide) rfl f13 (by decide) kv_172 rfl dX8_from_33 ?_
      refine lv_aload_n hx hb dX8_from_36 rfl (lv_at hl 0 rfl) ?_
      refine r_get kc8 X h 0 2 (by decide) rfl f13 (by decide) kv_464 rfl dX8_from_37 ?_
      refine lv_iload_n hx hb dX8_from_40 rfl (lv_at hl 1 rfl) ?_
      have f18 : w 27 = .inl (cO, 2, .inr (.inr (.inr (.inr (fun k => if k = 0 then some (ad 28) else if k = 1 then some (ad 41) else none))))) := ok 27 (by decide)
      have f19 : w 27 = .inl (cO, 2, .inr (.inr (.inr (.inr (fun k => if k = 0 then some (ad 28) else if k = 1 then some (ad 41) else none))))) := f18
      have hq20 : i = 0 ∨ i = 1 := by simp only [fa_eq, show ((0 : Int32).toInt = 0) from rfl, show ((1 : Int32).toInt = 1) from rfl]; omega
      rcases hq20 with hq20 | hq20
      · refine r_aald (v := .ref (ad 28)) X h 27 3 (by decide) rfl f19 rfl (in_of (by omega) (by omega)) (by rw [hq20] <;> rfl) dX8_from_41 ?_
        obtain ⟨q25, q26, q27, q28, q29, f24, h30, h31, h32, h33⟩ := (show sI ad 1 (w 1) from ok 1 (by decide))
        have f34 : w 1 = .inr (1, [.int q25, .int q26, .int q27, .int q28, .int q29, .ref (ad 2), .ref (ad 3), .ref (ad 4), .ref (ad 5), .ref (ad 6), .ref (ad 7), .ref (ad 8), .ref (ad 10), .ref (ad 12)]) := f24
        refine n_Vv (na := 1) (As := [.ref (ad 28)]) (rest := []) X hD hN h rfl (c_become l G cI cB cZ cO ad w 1 28 (Or.inl rfl) (Or.inr (Or.inr (Or.inl rfl))) (by omega) ok   ) ⟨kv_307, kv_308, kv_309, kv_37, kv_310⟩ rfl ⟨by decide, by decide, by decide⟩ ⟨Nat.le_of_ble_eq_true rfl, Nat.le_of_ble_eq_true rfl⟩ ⟨Nat.zero_le _, Nat.zero_le _⟩ (by decide) f34 rfl rfl hl.1 rfl (Nat.le_of_ble_eq_true rfl) dX8_from_42 (fun w22 H locs hp23 h => ?_)
        obtain ⟨ok36, kk37, hr35⟩ := hp23
        have kx38 : KT w w22 := (FR.t (Or.inl rfl) kk37)
        refine lv_iconst (v := 1) hx hb dX8_from_45 (by decide) ?_
        exact e_i X h hr hlk dX8_from_46 ⟨ok36, kx38, Or.inr (Or.inr ⟨by omega, by rw [e15]; omega, rfl⟩)⟩
      · refine r_aald (v := .ref (ad 41)) X h 27 3 (by decide) rfl f19 rfl (in_of (by omega) (by omega)) (by rw [hq20] <;> rfl) dX8_from_41 ?_
        obtain ⟨q43, q44, q45, q46, q47, f42, h48, h49, h50, h51⟩ := (show sI ad 1 (w 1) from ok 1 (by decide))
        have f52 : w 1 = .inr (1, [.int q43, .int q44, .int q45, .int q46, .int q47, .ref (ad 2), .ref (ad 3), .ref (ad 4), .ref (ad 5), .ref (ad 6), .ref (ad 7), .ref (ad 8), .ref (ad 10), .ref (ad 12)]) := f42
        refine n_Vv (na := 1) (As := [.ref (ad 41)]) (rest := []) X hD hN h rfl (c_become l G cI cB cZ cO ad w 1 41 (Or.inl rfl) (Or.inr (Or.inr (Or.inr rfl))) (by omega) ok   ) ⟨kv_307, kv_308, kv_309, kv_37, kv_310⟩ rfl ⟨by decide, by decide, by decide⟩ ⟨Nat.le_of_ble_eq_true rfl, Nat.le_of_ble_eq_true rfl⟩ ⟨Nat.zero_le _, Nat.zero_le _⟩ (by decide) f52 rfl rfl hl.1 rfl (Nat.le_of_ble_eq_true rfl) dX8_from_42 (fun w40 H locs hp41 h => ?_)
        obtain ⟨ok54, kk55, hr53⟩ := hp41
        have kx56 : KT w w40 := (FR.t (Or.inl rfl) kk55)
        refine lv_iconst (v := 1) hx hb dX8_from_45 (by decide) ?_
        exact e_i X h hr hlk dX8_from_46 ⟨ok54, kx56, Or.inr (Or.inr ⟨by omega, by rw [e15]; omega, rfl⟩)⟩
    · have hc17 : (v14).toInt = 0 := i_eq hc17 rfl rfl
      refine lv_aload_n hx hb dX8_from_25 rfl (lv_at hl 0 rfl) ?_
      refine lv_bipush (v := (-3)) hx hb dX8_from_26 (by decide) ?_
      refine n_Vi (na := 1) (As := [.int (-3)]) (rest := []) X hD hN h rfl (c_refused l G cI cB cZ cO ad w  ok ((-3) : Int32)  ) ⟨kv_227, kv_228, kv_229, kv_212, kv_230⟩ rfl ⟨by decide, by decide, by decide⟩ ⟨Nat.le_of_ble_eq_true rfl, Nat.le_of_ble_eq_true rfl⟩ ⟨Nat.zero_le _, Nat.zero_le _⟩ (by decide) f13 rfl rfl hl.1 rfl (Nat.le_of_ble_eq_true rfl) dX8_from_28 (fun r57 w58 H locs hp59 h => ?_)
      obtain ⟨ok62, kk63, hr61⟩ := hp59
      have kx64 : KT w w58 := kk63.t
      subst hr61
      exact e_i X h hr hlk dX8_from_31 ⟨ok62, kx64, Or.inr (Or.inl ⟨by omega, by rw [e15]; omega, rfl⟩)⟩
  · refine lv_if_ne (tgt := 16) hx hb dX8_from_6 (by decide) (fun hc => absurd (by decide) hc) (fun _ => ?_)
    refine lv_aload_n hx hb dX8_from_9 rfl (lv_at hl 0 rfl) ?_
    refine lv_bipush (v := (-2)) hx hb dX8_from_10 (by decide) ?_
    obtain ⟨x69, x70, q71, q72, q73, f68⟩ := (show sN ad (w 0) from ok 0 (by decide))
    have f74 : w 0 = .inr (6, [.ref (ad 1), .ref (ad 14), .ref (ad 27), .ref (ad 54), .ref (ad 55), .ref (ad 58), .ref (ad 62), .long x69, .long x70, .int q71, .int q72, .int q73]) := f68
    refine n_Vi (na := 1) (As := [.int (-2)]) (rest := []) X hD hN h rfl (c_refused l G cI cB cZ cO ad w  ok ((-2) : Int32)  ) ⟨kv_227, kv_228, kv_229, kv_212, kv_230⟩ rfl ⟨by decide, by decide, by decide⟩ ⟨Nat.le_of_ble_eq_true rfl, Nat.le_of_ble_eq_true rfl⟩ ⟨Nat.zero_le _, Nat.zero_le _⟩ (by decide) f74 rfl rfl hl.1 rfl (Nat.le_of_ble_eq_true rfl) dX8_from_12 (fun r65 w66 H locs hp67 h => ?_)
    obtain ⟨ok77, kk78, hr76⟩ := hp67
    have kx79 : KT w w66 := kk78.t
    subst hr76
    exact e_i X h hr hlk dX8_from_15 ⟨ok77, kx79, Or.inl ⟨by omega, rfl⟩⟩
