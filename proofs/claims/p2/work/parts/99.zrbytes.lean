set_option maxHeartbeats 4000000 in
set_option maxRecDepth 100000 in
theorem c_F_Tadd (l : Launch) (G : va_G) (cI cB cZ cO : ClassId) (ad : Nat → Nat) (w : Nat → va_E) (z a b c0 d : Int32) (bs : Nat → Int32) (ok : OK cI cB cZ cO ad w) (x : Int32) (hl_x : 0 ≤ x.toInt) (hh_x : x.toInt ≤ 127) (pf : w 55 = .inr (5, [.ref (ad 56), .ref (ad 57), .int z, .int a, .int b, .int c0, .int d])) (hz1 : z.toInt ≤ 150) (p56 : w 56 = .inl (cB, 150, .inl bs)) (hd0 : 0 ≤ d.toInt) (hd1 : d.toInt ≤ 99) (hz0 : 0 ≤ z.toInt) : NI l G (tyq cI cB cZ cO) yX7_add cX7_add 2 (some .int) 1 20 74 ad w [.ref (ad 55), .int x] (fun r w1 => OK cI cB cZ cO ad w1 ∧ KL w w1 ∧ ((150 ≤ z.toInt ∧ KT w w1 ∧ r = -4) ∨ (z.toInt < 150 ∧ r = z + 1 ∧ pT (w1 55) = .inr (5, [.int (z + 1)]) ∧ w1 56 = .inl (cB, 150, .inl (upd bs z.toNatClampNeg x))))) := by
  refine nk_i (own := "NoonShade$Text") rfl (by decide) (Nat.le_of_ble_eq_true rfl) ?_
  intro p e s m below meth c ls X hD hN hr hlk h hl
  have hx := X.1.1
  have hb := X.1.2.1
  have hown := X.1.2.2.2.1
  have hts := X.1.2.2.2.2
  have hl : lv_has ls 2 [(0, .ref (ad 55)), (1, .int x)] := hl
  refine lv_aload_n hx hb dX7_add_0 rfl (lv_at hl 0 rfl) ?_
  refine n_Vi (na := 0) (As := []) (rest := []) X hD hN h rfl (c_T_isFull l G cI cB cZ cO ad w z a b c0 d    pf) ⟨kv_447, kv_448, kv_449, kv_388, kv_450⟩ rfl ⟨by decide, by decide, by decide⟩ ⟨Nat.le_of_ble_eq_true rfl, Nat.le_of_ble_eq_true rfl⟩ ⟨Nat.zero_le _, Nat.zero_le _⟩ (by decide) pf rfl rfl hl.1 rfl (Nat.le_of_ble_eq_true rfl) dX7_add_1 (fun r1 w2 H locs hp3 h => ?_)
  obtain ⟨rfl, hr4⟩ := hp3
  rcases hr4 with ⟨hq5, rfl⟩ | ⟨hq6, rfl⟩
  · refine lv_if_eq (tgt := 10) hx hb dX7_add_4 (by decide) (fun hc => absurd hc (by decide)) (fun _ => ?_)
    refine lv_bipush (v := (-4)) hx hb dX7_add_7 (by decide) ?_
    exact e_i X h hr hlk dX7_add_9 ⟨ok, KL.rf, Or.inl ⟨by omega, KT.rf, rfl⟩⟩
  · refine lv_if_eq (tgt := 10) hx hb dX7_add_4 (by decide) (fun _ => ?_) (fun hc => absurd (by decide) hc)
    refine lv_aload_n hx hb dX7_add_10 rfl (lv_at hl 0 rfl) ?_
    refine r_get kc7 X h 55 0 (by decide) rfl pf (by decide) kv_380 rfl dX7_add_11 ?_
    refine lv_aload_n hx hb dX7_add_14 rfl (lv_at hl 0 rfl) ?_
    refine r_get kc7 X h 55 2 (by decide) rfl pf (by decide) kv_391 rfl dX7_add_15 ?_
    refine lv_iload_n hx hb dX7_add_18 rfl (lv_at hl 1 rfl) ?_
    obtain ⟨z7, e8⟩ : ∃ z : Int32, x.toInt8.toInt32 = z := ⟨_, rfl⟩
    refine lv_i2b (v := z7) hx hb dX7_add_19 e8 ?_
    have e8b : x = z7 := by rw [← e8]; exact (byteS hl_x hh_x).symm
    obtain ⟨g9, e10⟩ : ∃ zz9 : Nat → Int32, upd bs (z).toNatClampNeg (vp_nar .byte z7) = zz9 := ⟨_, rfl⟩
    have p11 : anyA g9 := trivial
    refine o_bast (f1 := g9) X hD h 56 1 (by decide) rfl p56 rfl (in_of (by omega) (by omega)) e10 dX7_add_20 (fun H locs w12 e13 h => ?_)
    have f14 : w12 56 = .inl (cB, 150, .inl g9) := (congrFun e13 _).trans (va_up_self _ _ _)
    have ok15 : OK cI cB cZ cO ad w12 := OK.up ok e13 (sA_mk p11)
    have kx16 : KL w w12 := KL.up KL.rf e13 p56 (Or.inr (Or.inl rfl))
    refine lv_aload_n hx hb dX7_add_21 rfl (lv_at hl 0 rfl) ?_
    refine lv_dup hx hb dX7_add_22 rfl ?_
    have f17 : w12 55 = .inr (5, [.ref (ad 56), .ref (ad 57), .int z, .int a, .int b, .int c0, .int d]) := by rw [e13, va_up_ne _ _ (by decide)]; exact pf
    refine r_get kc7 X h 55 2 (by decide) rfl f17 (by decide) kv_391 rfl dX7_add_23 ?_
    refine lv_iconst (v := 1) hx hb dX7_add_26 (by decide) ?_
    obtain ⟨z20, e18, t19⟩ := x_add (x := z) (y := (1 : Int32)) (a := (z).toInt) (b := 1) rfl rfl (by omega) (by omega)
    have n21 : z20.toNatClampNeg = z.toNatClampNeg + 1 := cl_addn (x := z) (y := (1 : Int32)) rfl rfl t19 (by omega) (by decide)
    refine o_iadd (z := z20) hx hb dX7_add_27 e18 ?_
    refine r_put kc7 X hD h 55 2 (by decide) rfl f17 (by decide) kv_391 rfl rfl rfl (Nat.le_of_ble_eq_true rfl) dX7_add_28 (fun H locs w22 e23 h => ?_)
    have f24 : w22 55 = .inr (5, [.ref (ad 56), .ref (ad 57), .int z20, .int a, .int b, .int c0, .int d]) := (congrFun e23 _).trans (va_up_self _ _ _)
    have ok25 : OK cI cB cZ cO ad w22 := OK.up ok15 e23 (sT_mk (by omega) (by omega) (by omega) (by omega))
    have kx26 : KL w w22 := KL.up kx16 e23 f17 (Or.inl rfl)
    refine lv_aload_n hx hb dX7_add_31 rfl (lv_at hl 0 rfl) ?_
    refine r_get kc7 X h 55 2 (by decide) rfl f24 (by decide) kv_391 rfl dX7_add_32 ?_
    have f27 : w22 56 = .inl (cB, 150, .inl g9) := by rw [e23, va_up_ne _ _ (by decide)]; exact f14
    have hby28 : w22 56 = .inl (cB, 150, .inl (upd bs z.toNatClampNeg x)) := by
      rw [f27, ← e10, ← e8b, byteV hl_x hh_x]
    exact e_i X h hr hlk dX7_add_35 ⟨ok25, kx26, Or.inr ⟨by omega, by first | rfl | (subst_vars; rfl), by rw [f24]; first | rfl | (subst_vars; rfl), hby28⟩⟩

set_option maxHeartbeats 4000000 in
set_option maxRecDepth 100000 in
theorem c_F_type (l : Launch) (G : va_G) (cI cB cZ cO : ClassId) (ad : Nat → Nat) (w : Nat → va_E) (z a b c0 d : Int32) (bs : Nat → Int32) (ok : OK cI cB cZ cO ad w) (x : Int32)  (pf : w 55 = .inr (5, [.ref (ad 56), .ref (ad 57), .int z, .int a, .int b, .int c0, .int d])) (hz1 : z.toInt ≤ 150) (p56 : w 56 = .inl (cB, 150, .inl bs)) (hd0 : 0 ≤ d.toInt) (hd1 : d.toInt ≤ 99) (hz0 : 0 ≤ z.toInt) : NI l G (tyq cI cB cZ cO) yX8_type cX8_type 2 (some .int) 2 41 74 ad w [.ref (ad 0), .int x] (fun r w1 => OK cI cB cZ cO ad w1 ∧ KL w w1 ∧ ((¬ (0 ≤ x.toInt ∧ x.toInt ≤ 127) ∧ KT w w1 ∧ r = -2) ∨ ((0 ≤ x.toInt ∧ x.toInt ≤ 127) ∧ 150 ≤ z.toInt ∧ KT w w1 ∧ r = -4) ∨ ((0 ≤ x.toInt ∧ x.toInt ≤ 127) ∧ z.toInt < 150 ∧ r = z + 1 ∧ pT (w1 55) = .inr (5, [.int (z + 1)]) ∧ w1 56 = .inl (cB, 150, .inl (upd bs z.toNatClampNeg x))))) := by
  refine nk_i (own := "NoonShade") rfl (by decide) (Nat.le_of_ble_eq_true rfl) ?_
  intro p e s m below meth c ls X hD hN hr hlk h hl
  have hx := X.1.1
  have hb := X.1.2.1
  have hown := X.1.2.2.2.1
  have hts := X.1.2.2.2.2
  have hl : lv_has ls 2 [(0, .ref (ad 0)), (1, .int x)] := hl
  refine lv_iload_n hx hb dX8_type_0 rfl (lv_at hl 1 rfl) ?_
  refine lv_iconst (v := 0) hx hb dX8_type_1 (by decide) ?_
  refine lv_bipush (v := 127) hx hb dX8_type_2 (by decide) ?_
  refine n_Si (na := 3) (As := [.int x, .int 0, .int 127]) (rest := []) X hD hN h (c_within l G cI cB cZ cO ad w x (0 : Int32) (127 : Int32) ((x).toInt) 0 127 rfl rfl rfl) ⟨kv_247, kv_248, kv_212, kv_249⟩ ⟨by decide, by decide, by decide⟩ ⟨Nat.le_of_ble_eq_true rfl, Nat.le_of_ble_eq_true rfl⟩ ⟨Nat.zero_le _, Nat.zero_le _⟩ rfl hl.1 rfl (Nat.le_of_ble_eq_true rfl) dX8_type_4 (fun r1 w2 H locs hp3 h => ?_)
  obtain ⟨rfl, hq4⟩ := hp3
  rcases hq4 with ⟨hq5, hq6, rfl⟩ | ⟨hq4, rfl⟩
  · refine lv_if_ne (tgt := 17) hx hb dX8_type_7 (by decide) (fun _ => ?_) (fun hc => absurd hc (by decide))
    refine lv_aload_n hx hb dX8_type_17 rfl (lv_at hl 0 rfl) ?_
    obtain ⟨x8, x9, q10, q11, q12, f7⟩ := (show sN ad (w 0) from ok 0 (by decide))
    have f13 : w 0 = .inr (6, [.ref (ad 1), .ref (ad 14), .ref (ad 27), .ref (ad 54), .ref (ad 55), .ref (ad 58), .ref (ad 62), .long x8, .long x9, .int q10, .int q11, .int q12]) := f7
    refine r_get kc8 X h 0 4 (by decide) rfl f13 (by decide) kv_191 rfl dX8_type_18 ?_
    refine n_Vi (na := 0) (As := []) (rest := []) X hD hN h rfl (c_T_isFull l G cI cB cZ cO ad w z a b c0 d    pf) ⟨kv_451, kv_448, kv_449, kv_388, kv_450⟩ rfl ⟨by decide, by decide, by decide⟩ ⟨Nat.le_of_ble_eq_true rfl, Nat.le_of_ble_eq_true rfl⟩ ⟨Nat.zero_le _, Nat.zero_le _⟩ (by decide) pf rfl rfl hl.1 rfl (Nat.le_of_ble_eq_true rfl) dX8_type_21 (fun r14 w15 H locs hp16 h => ?_)
    obtain ⟨rfl, hr17⟩ := hp16
    rcases hr17 with ⟨hq18, rfl⟩ | ⟨hq19, rfl⟩
    · refine lv_if_eq (tgt := 34) hx hb dX8_type_24 (by decide) (fun hc => absurd hc (by decide)) (fun _ => ?_)
      refine lv_aload_n hx hb dX8_type_27 rfl (lv_at hl 0 rfl) ?_
      refine lv_bipush (v := (-4)) hx hb dX8_type_28 (by decide) ?_
      refine n_Vi (na := 1) (As := [.int (-4)]) (rest := []) X hD hN h rfl (c_refused l G cI cB cZ cO ad w  ok ((-4) : Int32)  ) ⟨kv_227, kv_228, kv_229, kv_212, kv_230⟩ rfl ⟨by decide, by decide, by decide⟩ ⟨Nat.le_of_ble_eq_true rfl, Nat.le_of_ble_eq_true rfl⟩ ⟨Nat.zero_le _, Nat.zero_le _⟩ (by decide) f13 rfl rfl hl.1 rfl (Nat.le_of_ble_eq_true rfl) dX8_type_30 (fun r20 w21 H locs hp22 h => ?_)
      have kt23 : KT w w21 := hp22.2.1.t
      obtain ⟨ok25, kk26, hr24⟩ := hp22
      have kx27 : KL w w21 := (KT.l kk26.t)
      subst hr24
      exact e_i X h hr hlk dX8_type_33 ⟨ok25, kx27, Or.inr (Or.inl ⟨by omega, by omega, kt23, rfl⟩)⟩
    · refine lv_if_eq (tgt := 34) hx hb dX8_type_24 (by decide) (fun _ => ?_) (fun hc => absurd (by decide) hc)
      refine lv_aload_n hx hb dX8_type_34 rfl (lv_at hl 0 rfl) ?_
      refine r_get kc8 X h 0 4 (by decide) rfl f13 (by decide) kv_191 rfl dX8_type_35 ?_
      refine lv_iload_n hx hb dX8_type_38 rfl (lv_at hl 1 rfl) ?_
      refine n_Vi (na := 1) (As := [.int x]) (rest := []) X hD hN h rfl (c_F_Tadd l G cI cB cZ cO ad w z a b c0 d bs ok x (by omega) (by omega) pf (by omega) p56 (by first | omega | decide | (simp only [k00]; omega)) (by first | omega | decide | (simp only [k00]; omega)) (by first | omega | decide | (simp only [k00]; omega))) ⟨kv_452, kv_453, kv_454, kv_388, kv_455⟩ rfl ⟨by decide, by decide, by decide⟩ ⟨Nat.le_of_ble_eq_true rfl, Nat.le_of_ble_eq_true rfl⟩ ⟨Nat.zero_le _, Nat.zero_le _⟩ (by decide) pf rfl rfl hl.1 rfl (Nat.le_of_ble_eq_true rfl) dX8_type_39 (fun r28 w29 H locs hp30 h => ?_)
      obtain ⟨ok32, kk33, hr31⟩ := hp30
      have kx34 : KL w w29 := kk33
      rcases hr31 with ⟨q1, q2, q3⟩ | ⟨q1, q2, q3, q4⟩
      · exfalso; omega
      · exact e_i X h hr hlk dX8_type_42 ⟨ok32, kx34, Or.inr (Or.inr ⟨by omega, by omega, q2, q3, q4⟩)⟩
  · refine lv_if_ne (tgt := 17) hx hb dX8_type_7 (by decide) (fun hc => absurd (by decide) hc) (fun _ => ?_)
    refine lv_aload_n hx hb dX8_type_10 rfl (lv_at hl 0 rfl) ?_
    refine lv_bipush (v := (-2)) hx hb dX8_type_11 (by decide) ?_
    obtain ⟨x39, x40, q41, q42, q43, f38⟩ := (show sN ad (w 0) from ok 0 (by decide))
    have f44 : w 0 = .inr (6, [.ref (ad 1), .ref (ad 14), .ref (ad 27), .ref (ad 54), .ref (ad 55), .ref (ad 58), .ref (ad 62), .long x39, .long x40, .int q41, .int q42, .int q43]) := f38
    refine n_Vi (na := 1) (As := [.int (-2)]) (rest := []) X hD hN h rfl (c_refused l G cI cB cZ cO ad w  ok ((-2) : Int32)  ) ⟨kv_227, kv_228, kv_229, kv_212, kv_230⟩ rfl ⟨by decide, by decide, by decide⟩ ⟨Nat.le_of_ble_eq_true rfl, Nat.le_of_ble_eq_true rfl⟩ ⟨Nat.zero_le _, Nat.zero_le _⟩ (by decide) f44 rfl rfl hl.1 rfl (Nat.le_of_ble_eq_true rfl) dX8_type_13 (fun r35 w36 H locs hp37 h => ?_)
    have kt45 : KT w w36 := hp37.2.1.t
    obtain ⟨ok47, kk48, hr46⟩ := hp37
    have kx49 : KL w w36 := (KT.l kk48.t)
    subst hr46
    exact e_i X h hr hlk dX8_type_16 ⟨ok47, kx49, Or.inl ⟨by omega, kt45, rfl⟩⟩

set_option maxHeartbeats 4000000 in
set_option maxRecDepth 100000 in
theorem c_MF_type (l : Launch) (G : va_G) (cI cB cZ cO : ClassId) (ad : Nat → Nat) (w : Nat → va_E) (x y : Int64) (mb bl ta tl tk va : Int32) (bs : Nat → Int32) (ok : OK cI cB cZ cO ad w) (i : Int32)  (pf : w 64 = .inr (7, [.ref (ad 65), .ref (ad 66), .ref (ad 67), .ref (ad 68), .long x, .long y, .ref (ad 69), .int mb, .ref (ad 70), .ref (ad 71), .int bl, .int ta, .int tl, .int tk, .int va, .ref (ad 72), .ref (ad 73)])) (hbl0 : 0 ≤ bl.toInt) (hbl1 : bl.toInt ≤ 150) (p71 : w 71 = .inl (cI, 150, .inl bs)) : NI l G (tyq cI cB cZ cO) yX9_type cX9_type 2 (some .int) 1 25 74 ad w [.ref (ad 64), .int i] (fun r w1 => OK cI cB cZ cO ad w1 ∧ KV w w1 ∧ ((¬ (0 ≤ i.toInt ∧ i.toInt ≤ 127) ∧ KN w w1 ∧ r = -2) ∨ ((0 ≤ i.toInt ∧ i.toInt ≤ 127) ∧ 150 ≤ bl.toInt ∧ KN w w1 ∧ r = -4) ∨ ((0 ≤ i.toInt ∧ i.toInt ≤ 127) ∧ bl.toInt < 150 ∧ r = bl + 1 ∧ pM (w1 64) = .inr (7, [.int (bl + 1)]) ∧ w1 71 = .inl (cI, 150, .inl (upd bs bl.toNatClampNeg i))))) := by
  refine nk_i (own := "NoonShadeModel") rfl (by decide) (Nat.le_of_ble_eq_true rfl) ?_
  intro p e s m below meth c ls X hD hN hr hlk h hl
  have hx := X.1.1
  have hb := X.1.2.1
  have hown := X.1.2.2.2.1
  have hts := X.1.2.2.2.2
  have hl : lv_has ls 2 [(0, .ref (ad 64)), (1, .int i)] := hl
  refine lv_iload_n hx hb dX9_type_0 rfl (lv_at hl 1 rfl) ?_
  obtain ⟨z1, e2⟩ : ∃ z : Int64, i.toInt64 = z := ⟨_, rfl⟩
  have tz1 : z1.toInt = (i).toInt := by rw [← e2]; exact Int32.toInt_toInt64 _
  refine lv_i2l (v := z1) hx hb dX9_type_1 e2 ?_
  refine lv_lconst (v := 0) hx hb dX9_type_2 (by decide) ?_
  refine lv_ldc2 (v := 127) hx hb hown (hts _ kv_716) dX9_type_3 ?_
  refine n_Si (na := 3) (As := [.long z1, .long 0, .long 127]) (rest := []) X hD hN h (c_M_in l G cI cB cZ cO ad w z1 (0 : Int64) (127 : Int64) ((i).toInt) 0 127 tz1 rfl rfl) ⟨kv_468, kv_469, kv_470, kv_471⟩ ⟨by decide, by decide, by decide⟩ ⟨Nat.le_of_ble_eq_true rfl, Nat.le_of_ble_eq_true rfl⟩ ⟨Nat.zero_le _, Nat.zero_le _⟩ rfl hl.1 rfl (Nat.le_of_ble_eq_true rfl) dX9_type_6 (fun r3 w4 H locs hp5 h => ?_)
  obtain ⟨rfl, hq6⟩ := hp5
  rcases hq6 with ⟨hq7, hq8, rfl⟩ | ⟨hq6, rfl⟩
  · refine lv_if_ne (tgt := 19) hx hb dX9_type_9 (by decide) (fun _ => ?_) (fun hc => absurd hc (by decide))
    refine lv_aload_n hx hb dX9_type_19 rfl (lv_at hl 0 rfl) ?_
    refine r_get kc9 X h 64 10 (by decide) rfl pf (by decide) kv_539 rfl dX9_type_20 ?_
    refine lv_sipush (v := 150) hx hb dX9_type_23 (by decide) ?_
    refine lv_icmp_ne (tgt := 34) hx hb dX9_type_26 (by decide) (fun hc9 => ?_) (fun hc9 => ?_)
    · have hc9 : ¬ (bl).toInt = 150 := i_ne hc9 rfl rfl
      refine lv_aload_n hx hb dX9_type_34 rfl (lv_at hl 0 rfl) ?_
      refine r_get kc9 X h 64 9 (by decide) rfl pf (by decide) kv_667 rfl dX9_type_35 ?_
      refine lv_aload_n hx hb dX9_type_38 rfl (lv_at hl 0 rfl) ?_
      refine r_get kc9 X h 64 10 (by decide) rfl pf (by decide) kv_539 rfl dX9_type_39 ?_
      refine lv_iload_n hx hb dX9_type_42 rfl (lv_at hl 1 rfl) ?_
      obtain ⟨g10, e11⟩ : ∃ z : Nat → Int32, upd bs bl.toNatClampNeg i = z := ⟨_, rfl⟩
      have p13 : anyA g10 := trivial
      refine o_iast (f1 := g10) X hD h 71 0 (by decide) rfl p71 rfl (in_of (by omega) (by omega)) e11 dX9_type_43 (fun H locs w14 e15 h => ?_)
      have f16 : w14 71 = .inl (cI, 150, .inl g10) := (congrFun e15 _).trans (va_up_self _ _ _)
      have ok17 : OK cI cB cZ cO ad w14 := OK.up ok e15 (sA_mk p13)
      have kx18 : KV w w14 := KV.up KV.rf e15 p71 (Or.inr (Or.inl rfl))
      refine lv_aload_n hx hb dX9_type_44 rfl (lv_at hl 0 rfl) ?_
      refine lv_dup hx hb dX9_type_45 rfl ?_
      have f19 : w14 64 = .inr (7, [.ref (ad 65), .ref (ad 66), .ref (ad 67), .ref (ad 68), .long x, .long y, .ref (ad 69), .int mb, .ref (ad 70), .ref (ad 71), .int bl, .int ta, .int tl, .int tk, .int va, .ref (ad 72), .ref (ad 73)]) := by rw [e15, va_up_ne _ _ (by decide)]; exact pf
      refine r_get kc9 X h 64 10 (by decide) rfl f19 (by decide) kv_539 rfl dX9_type_46 ?_
      refine lv_iconst (v := 1) hx hb dX9_type_49 (by decide) ?_
      obtain ⟨z22, e20, t21⟩ := x_add (x := bl) (y := (1 : Int32)) (a := (bl).toInt) (b := 1) rfl rfl (by omega) (by omega)
      have n23 : z22.toNatClampNeg = bl.toNatClampNeg + 1 := cl_addn (x := bl) (y := (1 : Int32)) rfl rfl t21 (by omega) (by decide)
      refine o_iadd (z := z22) hx hb dX9_type_50 e20 ?_
      refine r_put kc9 X hD h 64 10 (by decide) rfl f19 (by decide) kv_539 rfl rfl rfl (Nat.le_of_ble_eq_true rfl) dX9_type_51 (fun H locs w24 e25 h => ?_)
      have f26 : w24 64 = .inr (7, [.ref (ad 65), .ref (ad 66), .ref (ad 67), .ref (ad 68), .long x, .long y, .ref (ad 69), .int mb, .ref (ad 70), .ref (ad 71), .int z22, .int ta, .int tl, .int tk, .int va, .ref (ad 72), .ref (ad 73)]) := (congrFun e25 _).trans (va_up_self _ _ _)
      have ok27 : OK cI cB cZ cO ad w24 := OK.up ok17 e25 (sM_mk (by omega) (by omega))
      have kx28 : KV w w24 := KV.up kx18 e25 f19 (Or.inl rfl)
      refine lv_aload_n hx hb dX9_type_54 rfl (lv_at hl 0 rfl) ?_
      refine r_get kc9 X h 64 10 (by decide) rfl f26 (by decide) kv_539 rfl dX9_type_55 ?_
      have f29 : w24 71 = .inl (cI, 150, .inl g10) := by rw [e25, va_up_ne _ _ (by decide)]; exact f16
      exact e_i X h hr hlk dX9_type_58 ⟨ok27, kx28, Or.inr (Or.inr ⟨by omega, by omega, by first | rfl | (subst_vars; rfl), by rw [f26]; first | rfl | (subst_vars; rfl), by rw [f29, ← e11]⟩)⟩
    · have hc9 : (bl).toInt = 150 := i_eq hc9 rfl rfl
      refine lv_aload_n hx hb dX9_type_29 rfl (lv_at hl 0 rfl) ?_
      refine n_Vi (na := 0) (As := []) (rest := []) X hD hN h rfl (c_M_full l G cI cB cZ cO ad w  ok   ) ⟨kv_644, kv_645, kv_646, kv_470, kv_647⟩ rfl ⟨by decide, by decide, by decide⟩ ⟨Nat.le_of_ble_eq_true rfl, Nat.le_of_ble_eq_true rfl⟩ ⟨Nat.zero_le _, Nat.zero_le _⟩ (by decide) pf rfl rfl hl.1 rfl (Nat.le_of_ble_eq_true rfl) dX9_type_30 (fun r30 w31 H locs hp32 h => ?_)
      have kn33 : KN w w31 := hp32.2.1.n
      obtain ⟨ok35, kk36, hr34⟩ := hp32
      have kx37 : KV w w31 := (KN.v kk36.n)
      subst hr34
      exact e_i X h hr hlk dX9_type_33 ⟨ok35, kx37, Or.inr (Or.inl ⟨by omega, by omega, kn33, rfl⟩)⟩
  · refine lv_if_ne (tgt := 19) hx hb dX9_type_9 (by decide) (fun hc => absurd (by decide) hc) (fun _ => ?_)
    refine lv_aload_n hx hb dX9_type_12 rfl (lv_at hl 0 rfl) ?_
    refine lv_bipush (v := (-2)) hx hb dX9_type_13 (by decide) ?_
    refine n_Vi (na := 1) (As := [.int (-2)]) (rest := []) X hD hN h rfl (c_M_bad l G cI cB cZ cO ad w  ok ((-2) : Int32)  ) ⟨kv_553, kv_554, kv_555, kv_470, kv_556⟩ rfl ⟨by decide, by decide, by decide⟩ ⟨Nat.le_of_ble_eq_true rfl, Nat.le_of_ble_eq_true rfl⟩ ⟨Nat.zero_le _, Nat.zero_le _⟩ (by decide) pf rfl rfl hl.1 rfl (Nat.le_of_ble_eq_true rfl) dX9_type_15 (fun r38 w39 H locs hp40 h => ?_)
    have kn41 : KN w w39 := hp40.2.1.n
    obtain ⟨ok43, kk44, hr42⟩ := hp40
    have kx45 : KV w w39 := (KN.v kk44.n)
    subst hr42
    exact e_i X h hr hlk dX9_type_18 ⟨ok43, kx45, Or.inl ⟨by omega, kn41, rfl⟩⟩

set_option maxHeartbeats 4000000 in
set_option maxRecDepth 100000 in
theorem c_F_read7 (l : Launch) (G : va_G) (cI cB cZ cO : ClassId) (ad : Nat → Nat) (w : Nat → va_E) (z a b c0 d : Int32) (bs : Nat → Int32) (ok : OK cI cB cZ cO ad w)   (pf : w 55 = .inr (5, [.ref (ad 56), .ref (ad 57), .int z, .int a, .int b, .int c0, .int d])) (hz1 : z.toInt ≤ 150) (p56 : w 56 = .inl (cB, 150, .inl bs)) (hd0 : 0 ≤ d.toInt) (hd1 : d.toInt ≤ 99) (hz0 : 0 ≤ z.toInt) : NI l G (tyq cI cB cZ cO) yX8_read cX8_read 2 (some .int) 7 150 74 ad w [.ref (ad 0)] (fun r w1 => OK cI cB cZ cO ad w1 ∧ KT w w1 ∧ r.toInt = (runF bs z.toNatClampNeg 151 0 (begF 0) 0).1) := by
  refine nk_i (own := "NoonShade") rfl (by decide) (Nat.le_of_ble_eq_true rfl) ?_
  intro p e s m below meth c ls X hD hN hr hlk h hl
  have hx := X.1.1
  have hb := X.1.2.1
  have hown := X.1.2.2.2.1
  have hts := X.1.2.2.2.2
  have hl : lv_has ls 2 [(0, .ref (ad 0))] := hl
  refine lv_aload_n hx hb dX8_read_0 rfl (lv_at hl 0 rfl) ?_
  obtain ⟨x2, x3, q4, q5, q6, f1⟩ := (show sN ad (w 0) from ok 0 (by decide))
  have f7 : w 0 = .inr (6, [.ref (ad 1), .ref (ad 14), .ref (ad 27), .ref (ad 54), .ref (ad 55), .ref (ad 58), .ref (ad 62), .long x2, .long x3, .int q4, .int q5, .int q6]) := f1
  refine r_get kc8 X h 0 4 (by decide) rfl f7 (by decide) kv_191 rfl dX8_read_1 ?_
  refine lv_aload_n hx hb dX8_read_4 rfl (lv_at hl 0 rfl) ?_
  refine r_get kc8 X h 0 1 (by decide) rfl f7 (by decide) kv_306 rfl dX8_read_5 ?_
  refine n_Vi (na := 1) (As := [.ref (ad 14)]) (rest := []) X hD hN h rfl (c_F_tell l G cI cB cZ cO ad w z a b c0 d bs ok pf (by omega) p56 (by first | omega | decide | (simp only [k00]; omega)) (by first | omega | decide | (simp only [k00]; omega)) (by first | omega | decide | (simp only [k00]; omega))) ⟨kv_460, kv_461, kv_462, kv_388, kv_463⟩ rfl ⟨by decide, by decide, by decide⟩ ⟨Nat.le_of_ble_eq_true rfl, Nat.le_of_ble_eq_true rfl⟩ ⟨Nat.zero_le _, Nat.zero_le _⟩ (by decide) pf rfl rfl hl.1 rfl (Nat.le_of_ble_eq_true rfl) dX8_read_8 (fun r8 w9 H locs hp10 h => ?_)
  obtain ⟨ok11, kk12, hr13, hRG14⟩ := hp10
  have kx15 : KT w w9 := kk12.t
  refine lv_istore_n (lv' := [(1, .int r8), (0, .ref (ad 0))]) hx hb dX8_read_11 rfl hl (by decide) rfl (fun ls hl => ?_)
  refine lv_iload_n hx hb dX8_read_12 rfl (lv_at hl 0 rfl) ?_
  refine lv_if_le (tgt := 27) hx hb dX8_read_13 (by decide) (fun hc16 => ?_) (fun hc16 => ?_)
  · have hc16 : (r8).toInt ≤ 0 := i_le hc16 rfl rfl
    refine lv_iload_n hx hb dX8_read_27 rfl (lv_at hl 0 rfl) ?_
    exact e_i X h hr hlk dX8_read_28 ⟨ok11, kx15, hr13⟩
  · have hc16 : ¬ (r8).toInt ≤ 0 := i_nle hc16 rfl rfl
    refine lv_aload_n hx hb dX8_read_16 rfl (lv_at hl 1 rfl) ?_
    obtain ⟨x18, x19, q20, q21, q22, f17⟩ := (show sN ad (w9 0) from ok11 0 (by decide))
    have f23 : w9 0 = .inr (6, [.ref (ad 1), .ref (ad 14), .ref (ad 27), .ref (ad 54), .ref (ad 55), .ref (ad 58), .ref (ad 62), .long x18, .long x19, .int q20, .int q21, .int q22]) := f17
    refine r_get kc8 X h 0 0 (by decide) rfl f23 (by decide) kv_172 rfl dX8_read_17 ?_
    refine lv_aload_n hx hb dX8_read_20 rfl (lv_at hl 1 rfl) ?_
    refine r_get kc8 X h 0 1 (by decide) rfl f23 (by decide) kv_306 rfl dX8_read_21 ?_
    obtain ⟨q28, q29, q30, q31, q32, f27, h33, h34, h35, h36⟩ := (show sI ad 1 (w9 1) from ok11 1 (by decide))
    have f37 : w9 1 = .inr (1, [.int q28, .int q29, .int q30, .int q31, .int q32, .ref (ad 2), .ref (ad 3), .ref (ad 4), .ref (ad 5), .ref (ad 6), .ref (ad 7), .ref (ad 8), .ref (ad 10), .ref (ad 12)]) := f27
    refine n_Vv (na := 1) (As := [.ref (ad 14)]) (rest := []) X hD hN h rfl (c_become l G cI cB cZ cO ad w9 1 14 (Or.inl rfl) (Or.inr (Or.inl rfl)) (by omega) ok11   ) ⟨kv_307, kv_308, kv_309, kv_37, kv_310⟩ rfl ⟨by decide, by decide, by decide⟩ ⟨Nat.le_of_ble_eq_true rfl, Nat.le_of_ble_eq_true rfl⟩ ⟨Nat.zero_le _, Nat.zero_le _⟩ (by decide) f37 rfl rfl hl.1 rfl (Nat.le_of_ble_eq_true rfl) dX8_read_24 (fun w25 H locs hp26 h => ?_)
    obtain ⟨ok39, kk40, hr38⟩ := hp26
    have kx41 : KT w w25 := KT.tr kx15 (FR.t (Or.inl rfl) kk40)
    refine lv_iload_n hx hb dX8_read_27 rfl (lv_at hl 0 rfl) ?_
    exact e_i X h hr hlk dX8_read_28 ⟨ok39, kx41, hr13⟩

set_option maxHeartbeats 4000000 in
set_option maxRecDepth 100000 in
theorem c_F_Tempty (l : Launch) (G : va_G) (cI cB cZ cO : ClassId) (ad : Nat → Nat) (w : Nat → va_E) (z a b c0 d : Int32) (ok : OK cI cB cZ cO ad w)   (pf : w 55 = .inr (5, [.ref (ad 56), .ref (ad 57), .int z, .int a, .int b, .int c0, .int d])) (hz1 : z.toInt ≤ 150) (hd0 : 0 ≤ d.toInt) (hd1 : d.toInt ≤ 99) (hz0 : 0 ≤ z.toInt) : NI l G (tyq cI cB cZ cO) yX7_empty cX7_empty 2 (some .int) 0 0 74 ad w [.ref (ad 55)] (fun r w1 => OK cI cB cZ cO ad w1 ∧ KL w w1 ∧ z = r ∧ pT (w1 55) = .inr (5, [.int 0]) ∧ w1 56 = w 56) := by
  refine nk_i (own := "NoonShade$Text") rfl (by decide) (Nat.le_of_ble_eq_true rfl) ?_
  intro p e s m below meth c ls X hD hN hr hlk h hl
  have hx := X.1.1
  have hb := X.1.2.1
  have hown := X.1.2.2.2.1
  have hts := X.1.2.2.2.2
  have hl : lv_has ls 2 [(0, .ref (ad 55))] := hl
  refine lv_aload_n hx hb dX7_empty_0 rfl (lv_at hl 0 rfl) ?_
  refine r_get kc7 X h 55 2 (by decide) rfl pf (by decide) kv_391 rfl dX7_empty_1 ?_
  refine lv_istore_n (lv' := [(1, .int z), (0, .ref (ad 55))]) hx hb dX7_empty_4 rfl hl (by decide) rfl (fun ls hl => ?_)
  refine lv_aload_n hx hb dX7_empty_5 rfl (lv_at hl 1 rfl) ?_
  refine lv_iconst (v := 0) hx hb dX7_empty_6 (by decide) ?_
  refine r_put kc7 X hD h 55 2 (by decide) rfl pf (by decide) kv_391 rfl rfl rfl (Nat.le_of_ble_eq_true rfl) dX7_empty_7 (fun H locs w1 e2 h => ?_)
  have f3 : w1 55 = .inr (5, [.ref (ad 56), .ref (ad 57), .int 0, .int a, .int b, .int c0, .int d]) := (congrFun e2 _).trans (va_up_self _ _ _)
  have ok4 : OK cI cB cZ cO ad w1 := OK.up ok e2 (sT_mk (by decide) (by decide) (by omega) (by omega))
  have kx5 : KL w w1 := KL.up KL.rf e2 pf (Or.inl rfl)
  refine lv_iload_n hx hb dX7_empty_10 rfl (lv_at hl 0 rfl) ?_
  exact e_i X h hr hlk dX7_empty_11 ⟨ok4, kx5, ⟨rfl, by rw [f3]; rfl, (congrFun e2 56).trans (va_up_ne _ _ (by decide))⟩⟩

set_option maxHeartbeats 4000000 in
set_option maxRecDepth 100000 in
theorem c_F_clear (l : Launch) (G : va_G) (cI cB cZ cO : ClassId) (ad : Nat → Nat) (w : Nat → va_E) (z a b c0 d : Int32) (ok : OK cI cB cZ cO ad w)   (pf : w 55 = .inr (5, [.ref (ad 56), .ref (ad 57), .int z, .int a, .int b, .int c0, .int d])) (hz1 : z.toInt ≤ 150) (hd0 : 0 ≤ d.toInt) (hd1 : d.toInt ≤ 99) (hz0 : 0 ≤ z.toInt) : NI l G (tyq cI cB cZ cO) yX8_clear cX8_clear 1 (some .int) 1 21 74 ad w [.ref (ad 0)] (fun r w1 => OK cI cB cZ cO ad w1 ∧ KL w w1 ∧ z = r ∧ pT (w1 55) = .inr (5, [.int 0]) ∧ w1 56 = w 56) := by
  refine nk_i (own := "NoonShade") rfl (by decide) (Nat.le_of_ble_eq_true rfl) ?_
  intro p e s m below meth c ls X hD hN hr hlk h hl
  have hx := X.1.1
  have hb := X.1.2.1
  have hown := X.1.2.2.2.1
  have hts := X.1.2.2.2.2
  have hl : lv_has ls 1 [(0, .ref (ad 0))] := hl
  refine lv_aload_n hx hb dX8_clear_0 rfl (lv_at hl 0 rfl) ?_
  obtain ⟨x2, x3, q4, q5, q6, f1⟩ := (show sN ad (w 0) from ok 0 (by decide))
  have f7 : w 0 = .inr (6, [.ref (ad 1), .ref (ad 14), .ref (ad 27), .ref (ad 54), .ref (ad 55), .ref (ad 58), .ref (ad 62), .long x2, .long x3, .int q4, .int q5, .int q6]) := f1
  refine r_get kc8 X h 0 4 (by decide) rfl f7 (by decide) kv_191 rfl dX8_clear_1 ?_
  refine n_Vi (na := 0) (As := []) (rest := []) X hD hN h rfl (c_F_Tempty l G cI cB cZ cO ad w z a b c0 d ok   pf (by first | omega | decide | (simp only [k00]; omega)) (by first | omega | decide | (simp only [k00]; omega)) (by first | omega | decide | (simp only [k00]; omega)) (by first | omega | decide | (simp only [k00]; omega))) ⟨kv_456, kv_457, kv_458, kv_388, kv_459⟩ rfl ⟨by decide, by decide, by decide⟩ ⟨Nat.le_of_ble_eq_true rfl, Nat.le_of_ble_eq_true rfl⟩ ⟨Nat.zero_le _, Nat.zero_le _⟩ (by decide) pf rfl rfl hl.1 rfl (Nat.le_of_ble_eq_true rfl) dX8_clear_4 (fun r8 w9 H locs hp10 h => ?_)
  obtain ⟨ok12, kk13, hr11⟩ := hp10
  have kx14 : KL w w9 := kk13
  exact e_i X h hr hlk dX8_clear_7 ⟨ok12, kx14, hr11⟩

set_option maxHeartbeats 4000000 in
set_option maxRecDepth 100000 in
theorem c_MF_clear (l : Launch) (G : va_G) (cI cB cZ cO : ClassId) (ad : Nat → Nat) (w : Nat → va_E) (x y : Int64) (mb bl ta tl tk va : Int32) (ok : OK cI cB cZ cO ad w)   (pf : w 64 = .inr (7, [.ref (ad 65), .ref (ad 66), .ref (ad 67), .ref (ad 68), .long x, .long y, .ref (ad 69), .int mb, .ref (ad 70), .ref (ad 71), .int bl, .int ta, .int tl, .int tk, .int va, .ref (ad 72), .ref (ad 73)])) (hbl0 : 0 ≤ bl.toInt) (hbl1 : bl.toInt ≤ 150) : NI l G (tyq cI cB cZ cO) yX9_clear cX9_clear 2 (some .int) 0 0 74 ad w [.ref (ad 64)] (fun r w1 => OK cI cB cZ cO ad w1 ∧ KV w w1 ∧ bl = r ∧ pM (w1 64) = .inr (7, [.int 0]) ∧ w1 71 = w 71) := by
  refine nk_i (own := "NoonShadeModel") rfl (by decide) (Nat.le_of_ble_eq_true rfl) ?_
  intro p e s m below meth c ls X hD hN hr hlk h hl
  have hx := X.1.1
  have hb := X.1.2.1
  have hown := X.1.2.2.2.1
  have hts := X.1.2.2.2.2
  have hl : lv_has ls 2 [(0, .ref (ad 64))] := hl
  refine lv_aload_n hx hb dX9_clear_0 rfl (lv_at hl 0 rfl) ?_
  refine r_get kc9 X h 64 10 (by decide) rfl pf (by decide) kv_539 rfl dX9_clear_1 ?_
  refine lv_istore_n (lv' := [(1, .int bl), (0, .ref (ad 64))]) hx hb dX9_clear_4 rfl hl (by decide) rfl (fun ls hl => ?_)
  refine lv_aload_n hx hb dX9_clear_5 rfl (lv_at hl 1 rfl) ?_
  refine lv_iconst (v := 0) hx hb dX9_clear_6 (by decide) ?_
  refine r_put kc9 X hD h 64 10 (by decide) rfl pf (by decide) kv_539 rfl rfl rfl (Nat.le_of_ble_eq_true rfl) dX9_clear_7 (fun H locs w1 e2 h => ?_)
  have f3 : w1 64 = .inr (7, [.ref (ad 65), .ref (ad 66), .ref (ad 67), .ref (ad 68), .long x, .long y, .ref (ad 69), .int mb, .ref (ad 70), .ref (ad 71), .int 0, .int ta, .int tl, .int tk, .int va, .ref (ad 72), .ref (ad 73)]) := (congrFun e2 _).trans (va_up_self _ _ _)
  have ok4 : OK cI cB cZ cO ad w1 := OK.up ok e2 (sM_mk (by decide) (by decide))
  have kx5 : KV w w1 := KV.up KV.rf e2 pf (Or.inl rfl)
  refine lv_iload_n hx hb dX9_clear_10 rfl (lv_at hl 0 rfl) ?_
  exact e_i X h hr hlk dX9_clear_11 ⟨ok4, kx5, ⟨rfl, by rw [f3]; rfl, (congrFun e2 71).trans (va_up_ne _ _ (by decide))⟩⟩
