set_option maxHeartbeats 4000000 in
set_option maxRecDepth 100000 in
theorem c_F_Tadd2 (l : Launch) (G : va_G) (cI cB cZ cO : ClassId) (ad : Nat → Nat) (w : Nat → va_E) (z a b c0 d : Int32) (bs : Nat → Int32) (ok : OK cI cB cZ cO ad w) (x : Int32) (hl_x : 0 ≤ x.toInt) (hh_x : x.toInt ≤ 127) (pf : w 55 = .inr (5, [.ref (ad 56), .ref (ad 57), .int z, .int a, .int b, .int c0, .int d])) (hz1 : z.toInt ≤ 150) (p56 : w 56 = .inl (cB, 150, .inl bs)) (hd0 : 0 ≤ d.toInt) (hd1 : d.toInt ≤ 99) (hz0 : 0 ≤ z.toInt) : NI l G (tyq cI cB cZ cO) yX7_add cX7_add 2 (some .int) 1 20 74 ad w [.ref (ad 55), .int x] (fun r w1 => OK cI cB cZ cO ad w1 ∧ KL w w1 ∧ ((150 ≤ z.toInt ∧ KT w w1 ∧ r = -4) ∨ (z.toInt < 150 ∧ r = z + 1 ∧ pT (w1 55) = .inr (5, [.int (z + 1)]) ∧ w1 56 = .inl (cB, 150, .inl (upd bs z.toNatClampNeg x)) ∧ ∀ k, k ≠ 55 → k ≠ 56 → w1 k = w k))) := by
  refine nk_i (own := "NoonShade$Text") rfl (by decide) (Nat.le_of_ble_eq_true rfl) ?_
  intro p e s m below meth c ls X hD hN hr hlk h hl
  have hx := X.1.1
  have hb := X.1.2.1
  have hown := X.1.2.2.2.1
  have hts := X.1.2.2.2.2
  have hl : lv_has ls 2 [(0, .ref (ad 55)), (1, .int x)] := hl
  refine lv_aload_n hx hb dX7_add_0 rfl (lv_at hl 0 rfl) ?_
  refine n_Vi (na := 0) (As := []) (rest := []) X hD hN h rfl (c_T_isFull l G cI cB cZ cO ad w z a b c0 d    pf) ⟨kv_447, kv_448, kv_449, kv_388, kv_450⟩ rfl ⟨by decide, by decide, by decide⟩ ⟨Nat.le_of_ble_eq_true rfl, Nat.le_of_ble_eq_true rfl⟩ ⟨Nat.zero_le _, Nat.zero_le _⟩ (by decide) pf rfl rfl hl.1 rfl (Nat.le_of_ble_eq_true rfl) dX7_add_1 (fun r1 w2 H locs hp3 h => ?_)
  obtain ⟨rfl, hr4⟩ := hp3
  rcases hr4 with ⟨hq5, rfl⟩ | ⟨hq6, rfl⟩
  · refine lv_if_eq (tgt := 10) hx hb dX7_add_4 (by decide) (fun hc => absurd hc (by decide)) (fun _ => ?_)
    refine lv_bipush (v := (-4)) hx hb dX7_add_7 (by decide) ?_
    exact e_i X h hr hlk dX7_add_9 ⟨ok, KL.rf, Or.inl ⟨by omega, KT.rf, rfl⟩⟩
  · refine lv_if_eq (tgt := 10) hx hb dX7_add_4 (by decide) (fun _ => ?_) (fun hc => absurd (by decide) hc)
    refine lv_aload_n hx hb dX7_add_10 rfl (lv_at hl 0 rfl) ?_
    refine r_get kc7 X h 55 0 (by decide) rfl pf (by decide) kv_380 rfl dX7_add_11 ?_
    refine lv_aload_n hx hb dX7_add_14 rfl (lv_at hl 0 rfl) ?_
    refine r_get kc7 X h 55 2 (by decide) rfl pf (by decide) kv_391 rfl dX7_add_15 ?_
    refine lv_iload_n hx hb dX7_add_18 rfl (lv_at hl 1 rfl) ?_
    obtain ⟨z7, e8⟩ : ∃ z : Int32, x.toInt8.toInt32 = z := ⟨_, rfl⟩
    refine lv_i2b (v := z7) hx hb dX7_add_19 e8 ?_
    have e8b : x = z7 := by rw [← e8]; exact (byteS hl_x hh_x).symm
    obtain ⟨g9, e10⟩ : ∃ zz9 : Nat → Int32, upd bs (z).toNatClampNeg (vp_nar .byte z7) = zz9 := ⟨_, rfl⟩
    have p11 : anyA g9 := trivial
    refine o_bast (f1 := g9) X hD h 56 1 (by decide) rfl p56 rfl (in_of (by omega) (by omega)) e10 dX7_add_20 (fun H locs w12 e13 h => ?_)
    have f14 : w12 56 = .inl (cB, 150, .inl g9) := (congrFun e13 _).trans (va_up_self _ _ _)
    have ok15 : OK cI cB cZ cO ad w12 := OK.up ok e13 (sA_mk p11)
    have kx16 : KL w w12 := KL.up KL.rf e13 p56 (Or.inr (Or.inl rfl))
    refine lv_aload_n hx hb dX7_add_21 rfl (lv_at hl 0 rfl) ?_
    refine lv_dup hx hb dX7_add_22 rfl ?_
    have f17 : w12 55 = .inr (5, [.ref (ad 56), .ref (ad 57), .int z, .int a, .int b, .int c0, .int d]) := by rw [e13, va_up_ne _ _ (by decide)]; exact pf
    refine r_get kc7 X h 55 2 (by decide) rfl f17 (by decide) kv_391 rfl dX7_add_23 ?_
    refine lv_iconst (v := 1) hx hb dX7_add_26 (by decide) ?_
    obtain ⟨z20, e18, t19⟩ := x_add (x := z) (y := (1 : Int32)) (a := (z).toInt) (b := 1) rfl rfl (by omega) (by omega)
    have n21 : z20.toNatClampNeg = z.toNatClampNeg + 1 := cl_addn (x := z) (y := (1 : Int32)) rfl rfl t19 (by omega) (by decide)
    refine o_iadd (z := z20) hx hb dX7_add_27 e18 ?_
    refine r_put kc7 X hD h 55 2 (by decide) rfl f17 (by decide) kv_391 rfl rfl rfl (Nat.le_of_ble_eq_true rfl) dX7_add_28 (fun H locs w22 e23 h => ?_)
    have f24 : w22 55 = .inr (5, [.ref (ad 56), .ref (ad 57), .int z20, .int a, .int b, .int c0, .int d]) := (congrFun e23 _).trans (va_up_self _ _ _)
    have ok25 : OK cI cB cZ cO ad w22 := OK.up ok15 e23 (sT_mk (by omega) (by omega) (by omega) (by omega))
    have kx26 : KL w w22 := KL.up kx16 e23 f17 (Or.inl rfl)
    refine lv_aload_n hx hb dX7_add_31 rfl (lv_at hl 0 rfl) ?_
    refine r_get kc7 X h 55 2 (by decide) rfl f24 (by decide) kv_391 rfl dX7_add_32 ?_
    have f27 : w22 56 = .inl (cB, 150, .inl g9) := by rw [e23, va_up_ne _ _ (by decide)]; exact f14
    have hby28 : w22 56 = .inl (cB, 150, .inl (upd bs z.toNatClampNeg x)) := by
      rw [f27, ← e10, ← e8b, byteV hl_x hh_x]
    exact e_i X h hr hlk dX7_add_35 ⟨ok25, kx26, Or.inr ⟨by omega, by first | rfl | (subst_vars; rfl), by rw [f24]; first | rfl | (subst_vars; rfl), hby28, (fun k h1 h2 => ((congrFun e23 k).trans (va_up_ne _ _ (by omega))).trans ((congrFun e13 k).trans (va_up_ne _ _ (by omega))))⟩⟩

set_option maxHeartbeats 4000000 in
set_option maxRecDepth 100000 in
theorem c_F_type2 (l : Launch) (G : va_G) (cI cB cZ cO : ClassId) (ad : Nat → Nat) (w : Nat → va_E) (z a b c0 d : Int32) (bs : Nat → Int32) (ok : OK cI cB cZ cO ad w) (x : Int32)  (pf : w 55 = .inr (5, [.ref (ad 56), .ref (ad 57), .int z, .int a, .int b, .int c0, .int d])) (hz1 : z.toInt ≤ 150) (p56 : w 56 = .inl (cB, 150, .inl bs)) (hd0 : 0 ≤ d.toInt) (hd1 : d.toInt ≤ 99) (hz0 : 0 ≤ z.toInt) : NI l G (tyq cI cB cZ cO) yX8_type cX8_type 2 (some .int) 2 41 74 ad w [.ref (ad 0), .int x] (fun r w1 => OK cI cB cZ cO ad w1 ∧ KL w w1 ∧ ((¬ (0 ≤ x.toInt ∧ x.toInt ≤ 127) ∧ KX w w1 ∧ r = -2) ∨ ((0 ≤ x.toInt ∧ x.toInt ≤ 127) ∧ 150 ≤ z.toInt ∧ KX w w1 ∧ r = -4) ∨ ((0 ≤ x.toInt ∧ x.toInt ≤ 127) ∧ z.toInt < 150 ∧ r = z + 1 ∧ pT (w1 55) = .inr (5, [.int (z + 1)]) ∧ w1 56 = .inl (cB, 150, .inl (upd bs z.toNatClampNeg x)) ∧ ∀ k, k ≠ 55 → k ≠ 56 → w1 k = w k))) := by
  refine nk_i (own := "NoonShade") rfl (by decide) (Nat.le_of_ble_eq_true rfl) ?_
  intro p e s m below meth c ls X hD hN hr hlk h hl
  have hx := X.1.1
  have hb := X.1.2.1
  have hown := X.1.2.2.2.1
  have hts := X.1.2.2.2.2
  have hl : lv_has ls 2 [(0, .ref (ad 0)), (1, .int x)] := hl
  refine lv_iload_n hx hb dX8_type_0 rfl (lv_at hl 1 rfl) ?_
  refine lv_iconst (v := 0) hx hb dX8_type_1 (by decide) ?_
  refine lv_bipush (v := 127) hx hb dX8_type_2 (by decide) ?_
  refine n_Si (na := 3) (As := [.int x, .int 0, .int 127]) (rest := []) X hD hN h (c_within l G cI cB cZ cO ad w x (0 : Int32) (127 : Int32) ((x).toInt) 0 127 rfl rfl rfl) ⟨kv_247, kv_248, kv_212, kv_249⟩ ⟨by decide, by decide, by decide⟩ ⟨Nat.le_of_ble_eq_true rfl, Nat.le_of_ble_eq_true rfl⟩ ⟨Nat.zero_le _, Nat.zero_le _⟩ rfl hl.1 rfl (Nat.le_of_ble_eq_true rfl) dX8_type_4 (fun r1 w2 H locs hp3 h => ?_)
  obtain ⟨rfl, hq4⟩ := hp3
  rcases hq4 with ⟨hq5, hq6, rfl⟩ | ⟨hq4, rfl⟩
  · refine lv_if_ne (tgt := 17) hx hb dX8_type_7 (by decide) (fun _ => ?_) (fun hc => absurd hc (by decide))
    refine lv_aload_n hx hb dX8_type_17 rfl (lv_at hl 0 rfl) ?_
    obtain ⟨x8, x9, q10, q11, q12, f7⟩ := (show sN ad (w 0) from ok 0 (by decide))
    have f13 : w 0 = .inr (6, [.ref (ad 1), .ref (ad 14), .ref (ad 27), .ref (ad 54), .ref (ad 55), .ref (ad 58), .ref (ad 62), .long x8, .long x9, .int q10, .int q11, .int q12]) := f7
    refine r_get kc8 X h 0 4 (by decide) rfl f13 (by decide) kv_191 rfl dX8_type_18 ?_
    refine n_Vi (na := 0) (As := []) (rest := []) X hD hN h rfl (c_T_isFull l G cI cB cZ cO ad w z a b c0 d    pf) ⟨kv_451, kv_448, kv_449, kv_388, kv_450⟩ rfl ⟨by decide, by decide, by decide⟩ ⟨Nat.le_of_ble_eq_true rfl, Nat.le_of_ble_eq_true rfl⟩ ⟨Nat.zero_le _, Nat.zero_le _⟩ (by decide) pf rfl rfl hl.1 rfl (Nat.le_of_ble_eq_true rfl) dX8_type_21 (fun r14 w15 H locs hp16 h => ?_)
    obtain ⟨rfl, hr17⟩ := hp16
    rcases hr17 with ⟨hq18, rfl⟩ | ⟨hq19, rfl⟩
    · refine lv_if_eq (tgt := 34) hx hb dX8_type_24 (by decide) (fun hc => absurd hc (by decide)) (fun _ => ?_)
      refine lv_aload_n hx hb dX8_type_27 rfl (lv_at hl 0 rfl) ?_
      refine lv_bipush (v := (-4)) hx hb dX8_type_28 (by decide) ?_
      refine n_Vi (na := 1) (As := [.int (-4)]) (rest := []) X hD hN h rfl (c_refused l G cI cB cZ cO ad w  ok ((-4) : Int32)  ) ⟨kv_227, kv_228, kv_229, kv_212, kv_230⟩ rfl ⟨by decide, by decide, by decide⟩ ⟨Nat.le_of_ble_eq_true rfl, Nat.le_of_ble_eq_true rfl⟩ ⟨Nat.zero_le _, Nat.zero_le _⟩ (by decide) f13 rfl rfl hl.1 rfl (Nat.le_of_ble_eq_true rfl) dX8_type_30 (fun r20 w21 H locs hp22 h => ?_)
      have kX23 : KX w w21 := hp22.2.1
      have kt24 : KT w w21 := hp22.2.1.t
      obtain ⟨ok26, kk27, hr25⟩ := hp22
      have kx28 : KL w w21 := (KT.l kk27.t)
      subst hr25
      exact e_i X h hr hlk dX8_type_33 ⟨ok26, kx28, Or.inr (Or.inl ⟨by omega, by omega, kX23, rfl⟩)⟩
    · refine lv_if_eq (tgt := 34) hx hb dX8_type_24 (by decide) (fun _ => ?_) (fun hc => absurd (by decide) hc)
      refine lv_aload_n hx hb dX8_type_34 rfl (lv_at hl 0 rfl) ?_
      refine r_get kc8 X h 0 4 (by decide) rfl f13 (by decide) kv_191 rfl dX8_type_35 ?_
      refine lv_iload_n hx hb dX8_type_38 rfl (lv_at hl 1 rfl) ?_
      refine n_Vi (na := 1) (As := [.int x]) (rest := []) X hD hN h rfl (c_F_Tadd2 l G cI cB cZ cO ad w z a b c0 d bs ok x (by omega) (by omega) pf (by omega) p56 (by first | omega | decide | (simp only [k00]; omega)) (by first | omega | decide | (simp only [k00]; omega)) (by first | omega | decide | (simp only [k00]; omega))) ⟨kv_452, kv_453, kv_454, kv_388, kv_455⟩ rfl ⟨by decide, by decide, by decide⟩ ⟨Nat.le_of_ble_eq_true rfl, Nat.le_of_ble_eq_true rfl⟩ ⟨Nat.zero_le _, Nat.zero_le _⟩ (by decide) pf rfl rfl hl.1 rfl (Nat.le_of_ble_eq_true rfl) dX8_type_39 (fun r29 w30 H locs hp31 h => ?_)
      obtain ⟨ok33, kk34, hr32⟩ := hp31
      have kx35 : KL w w30 := kk34
      rcases hr32 with ⟨q1, q2, q3⟩ | ⟨q1, q2, q3, q4, q5⟩
      · exfalso; omega
      · exact e_i X h hr hlk dX8_type_42 ⟨ok33, kx35, Or.inr (Or.inr ⟨by omega, by omega, q2, q3, q4, q5⟩)⟩
  · refine lv_if_ne (tgt := 17) hx hb dX8_type_7 (by decide) (fun hc => absurd (by decide) hc) (fun _ => ?_)
    refine lv_aload_n hx hb dX8_type_10 rfl (lv_at hl 0 rfl) ?_
    refine lv_bipush (v := (-2)) hx hb dX8_type_11 (by decide) ?_
    obtain ⟨x40, x41, q42, q43, q44, f39⟩ := (show sN ad (w 0) from ok 0 (by decide))
    have f45 : w 0 = .inr (6, [.ref (ad 1), .ref (ad 14), .ref (ad 27), .ref (ad 54), .ref (ad 55), .ref (ad 58), .ref (ad 62), .long x40, .long x41, .int q42, .int q43, .int q44]) := f39
    refine n_Vi (na := 1) (As := [.int (-2)]) (rest := []) X hD hN h rfl (c_refused l G cI cB cZ cO ad w  ok ((-2) : Int32)  ) ⟨kv_227, kv_228, kv_229, kv_212, kv_230⟩ rfl ⟨by decide, by decide, by decide⟩ ⟨Nat.le_of_ble_eq_true rfl, Nat.le_of_ble_eq_true rfl⟩ ⟨Nat.zero_le _, Nat.zero_le _⟩ (by decide) f45 rfl rfl hl.1 rfl (Nat.le_of_ble_eq_true rfl) dX8_type_13 (fun r36 w37 H locs hp38 h => ?_)
    have kX46 : KX w w37 := hp38.2.1
    have kt47 : KT w w37 := hp38.2.1.t
    obtain ⟨ok49, kk50, hr48⟩ := hp38
    have kx51 : KL w w37 := (KT.l kk50.t)
    subst hr48
    exact e_i X h hr hlk dX8_type_16 ⟨ok49, kx51, Or.inl ⟨by omega, kX46, rfl⟩⟩

set_option maxHeartbeats 4000000 in
set_option maxRecDepth 100000 in
theorem c_MF_type2 (l : Launch) (G : va_G) (cI cB cZ cO : ClassId) (ad : Nat → Nat) (w : Nat → va_E) (x y : Int64) (mb bl ta tl tk va : Int32) (bs : Nat → Int32) (ok : OK cI cB cZ cO ad w) (i : Int32)  (pf : w 64 = .inr (7, [.ref (ad 65), .ref (ad 66), .ref (ad 67), .ref (ad 68), .long x, .long y, .ref (ad 69), .int mb, .ref (ad 70), .ref (ad 71), .int bl, .int ta, .int tl, .int tk, .int va, .ref (ad 72), .ref (ad 73)])) (hbl0 : 0 ≤ bl.toInt) (hbl1 : bl.toInt ≤ 150) (p71 : w 71 = .inl (cI, 150, .inl bs)) : NI l G (tyq cI cB cZ cO) yX9_type cX9_type 2 (some .int) 1 25 74 ad w [.ref (ad 64), .int i] (fun r w1 => OK cI cB cZ cO ad w1 ∧ KV w w1 ∧ ((¬ (0 ≤ i.toInt ∧ i.toInt ≤ 127) ∧ KM w w1 ∧ r = -2) ∨ ((0 ≤ i.toInt ∧ i.toInt ≤ 127) ∧ 150 ≤ bl.toInt ∧ KM w w1 ∧ r = -4) ∨ ((0 ≤ i.toInt ∧ i.toInt ≤ 127) ∧ bl.toInt < 150 ∧ r = bl + 1 ∧ pM (w1 64) = .inr (7, [.int (bl + 1)]) ∧ w1 71 = .inl (cI, 150, .inl (upd bs bl.toNatClampNeg i)) ∧ ∀ k, k ≠ 64 → k ≠ 71 → w1 k = w k))) := by
  refine nk_i (own := "NoonShadeModel") rfl (by decide) (Nat.le_of_ble_eq_true rfl) ?_
  intro p e s m below meth c ls X hD hN hr hlk h hl
  have hx := X.1.1
  have hb := X.1.2.1
  have hown := X.1.2.2.2.1
  have hts := X.1.2.2.2.2
  have hl : lv_has ls 2 [(0, .ref (ad 64)), (1, .int i)] := hl
  refine lv_iload_n hx hb dX9_type_0 rfl (lv_at hl 1 rfl) ?_
  obtain ⟨z1, e2⟩ : ∃ z : Int64, i.toInt64 = z := ⟨_, rfl⟩
  have tz1 : z1.toInt = (i).toInt := by rw [← e2]; exact Int32.toInt_toInt64 _
  refine lv_i2l (v := z1) hx hb dX9_type_1 e2 ?_
  refine lv_lconst (v := 0) hx hb dX9_type_2 (by decide) ?_
  refine lv_ldc2 (v := 127) hx hb hown (hts _ kv_716) dX9_type_3 ?_
  refine n_Si (na := 3) (As := [.long z1, .long 0, .long 127]) (rest := []) X hD hN h (c_M_in l G cI cB cZ cO ad w z1 (0 : Int64) (127 : Int64) ((i).toInt) 0 127 tz1 rfl rfl) ⟨kv_468, kv_469, kv_470, kv_471⟩ ⟨by decide, by decide, by decide⟩ ⟨Nat.le_of_ble_eq_true rfl, Nat.le_of_ble_eq_true rfl⟩ ⟨Nat.zero_le _, Nat.zero_le _⟩ rfl hl.1 rfl (Nat.le_of_ble_eq_true rfl) dX9_type_6 (fun r3 w4 H locs hp5 h => ?_)
  obtain ⟨rfl, hq6⟩ := hp5
  rcases hq6 with ⟨hq7, hq8, rfl⟩ | ⟨hq6, rfl⟩
  · refine lv_if_ne (tgt := 19) hx hb dX9_type_9 (by decide) (fun _ => ?_) (fun hc => absurd hc (by decide))
    refine lv_aload_n hx hb dX9_type_19 rfl (lv_at hl 0 rfl) ?_
    refine r_get kc9 X h 64 10 (by decide) rfl pf (by decide) kv_539 rfl dX9_type_20 ?_
    refine lv_sipush (v := 150) hx hb dX9_type_23 (by decide) ?_
    refine lv_icmp_ne (tgt := 34) hx hb dX9_type_26 (by decide) (fun hc9 => ?_) (fun hc9 => ?_)
    · have hc9 : ¬ (bl).toInt = 150 := i_ne hc9 rfl rfl
      refine lv_aload_n hx hb dX9_type_34 rfl (lv_at hl 0 rfl) ?_
      refine r_get kc9 X h 64 9 (by decide) rfl pf (by decide) kv_667 rfl dX9_type_35 ?_
      refine lv_aload_n hx hb dX9_type_38 rfl (lv_at hl 0 rfl) ?_
      refine r_get kc9 X h 64 10 (by decide) rfl pf (by decide) kv_539 rfl dX9_type_39 ?_
      refine lv_iload_n hx hb dX9_type_42 rfl (lv_at hl 1 rfl) ?_
      obtain ⟨g10, e11⟩ : ∃ z : Nat → Int32, upd bs bl.toNatClampNeg i = z := ⟨_, rfl⟩
      have p13 : anyA g10 := trivial
      refine o_iast (f1 := g10) X hD h 71 0 (by decide) rfl p71 rfl (in_of (by omega) (by omega)) e11 dX9_type_43 (fun H locs w14 e15 h => ?_)
      have f16 : w14 71 = .inl (cI, 150, .inl g10) := (congrFun e15 _).trans (va_up_self _ _ _)
      have ok17 : OK cI cB cZ cO ad w14 := OK.up ok e15 (sA_mk p13)
      have kx18 : KV w w14 := KV.up KV.rf e15 p71 (Or.inr (Or.inl rfl))
      refine lv_aload_n hx hb dX9_type_44 rfl (lv_at hl 0 rfl) ?_
      refine lv_dup hx hb dX9_type_45 rfl ?_
      have f19 : w14 64 = .inr (7, [.ref (ad 65), .ref (ad 66), .ref (ad 67), .ref (ad 68), .long x, .long y, .ref (ad 69), .int mb, .ref (ad 70), .ref (ad 71), .int bl, .int ta, .int tl, .int tk, .int va, .ref (ad 72), .ref (ad 73)]) := by rw [e15, va_up_ne _ _ (by decide)]; exact pf
      refine r_get kc9 X h 64 10 (by decide) rfl f19 (by decide) kv_539 rfl dX9_type_46 ?_
      refine lv_iconst (v := 1) hx hb dX9_type_49 (by decide) ?_
      obtain ⟨z22, e20, t21⟩ := x_add (x := bl) (y := (1 : Int32)) (a := (bl).toInt) (b := 1) rfl rfl (by omega) (by omega)
      have n23 : z22.toNatClampNeg = bl.toNatClampNeg + 1 := cl_addn (x := bl) (y := (1 : Int32)) rfl rfl t21 (by omega) (by decide)
      refine o_iadd (z := z22) hx hb dX9_type_50 e20 ?_
      refine r_put kc9 X hD h 64 10 (by decide) rfl f19 (by decide) kv_539 rfl rfl rfl (Nat.le_of_ble_eq_true rfl) dX9_type_51 (fun H locs w24 e25 h => ?_)
      have f26 : w24 64 = .inr (7, [.ref (ad 65), .ref (ad 66), .ref (ad 67), .ref (ad 68), .long x, .long y, .ref (ad 69), .int mb, .ref (ad 70), .ref (ad 71), .int z22, .int ta, .int tl, .int tk, .int va, .ref (ad 72), .ref (ad 73)]) := (congrFun e25 _).trans (va_up_self _ _ _)
      have ok27 : OK cI cB cZ cO ad w24 := OK.up ok17 e25 (sM_mk (by omega) (by omega))
      have kx28 : KV w w24 := KV.up kx18 e25 f19 (Or.inl rfl)
      refine lv_aload_n hx hb dX9_type_54 rfl (lv_at hl 0 rfl) ?_
      refine r_get kc9 X h 64 10 (by decide) rfl f26 (by decide) kv_539 rfl dX9_type_55 ?_
      have f29 : w24 71 = .inl (cI, 150, .inl g10) := by rw [e25, va_up_ne _ _ (by decide)]; exact f16
      exact e_i X h hr hlk dX9_type_58 ⟨ok27, kx28, Or.inr (Or.inr ⟨by omega, by omega, by first | rfl | (subst_vars; rfl), by rw [f26]; first | rfl | (subst_vars; rfl), by rw [f29, ← e11], (fun k h1 h2 => ((congrFun e25 k).trans (va_up_ne _ _ (by omega))).trans ((congrFun e15 k).trans (va_up_ne _ _ (by omega))))⟩)⟩
    · have hc9 : (bl).toInt = 150 := i_eq hc9 rfl rfl
      refine lv_aload_n hx hb dX9_type_29 rfl (lv_at hl 0 rfl) ?_
      refine n_Vi (na := 0) (As := []) (rest := []) X hD hN h rfl (c_M_full l G cI cB cZ cO ad w  ok   ) ⟨kv_644, kv_645, kv_646, kv_470, kv_647⟩ rfl ⟨by decide, by decide, by decide⟩ ⟨Nat.le_of_ble_eq_true rfl, Nat.le_of_ble_eq_true rfl⟩ ⟨Nat.zero_le _, Nat.zero_le _⟩ (by decide) pf rfl rfl hl.1 rfl (Nat.le_of_ble_eq_true rfl) dX9_type_30 (fun r30 w31 H locs hp32 h => ?_)
      have kM33 : KM w w31 := hp32.2.1
      have kn34 : KN w w31 := hp32.2.1.n
      obtain ⟨ok36, kk37, hr35⟩ := hp32
      have kx38 : KV w w31 := (KN.v kk37.n)
      subst hr35
      exact e_i X h hr hlk dX9_type_33 ⟨ok36, kx38, Or.inr (Or.inl ⟨by omega, by omega, kM33, rfl⟩)⟩
  · refine lv_if_ne (tgt := 19) hx hb dX9_type_9 (by decide) (fun hc => absurd (by decide) hc) (fun _ => ?_)
    refine lv_aload_n hx hb dX9_type_12 rfl (lv_at hl 0 rfl) ?_
    refine lv_bipush (v := (-2)) hx hb dX9_type_13 (by decide) ?_
    refine n_Vi (na := 1) (As := [.int (-2)]) (rest := []) X hD hN h rfl (c_M_bad l G cI cB cZ cO ad w  ok ((-2) : Int32)  ) ⟨kv_553, kv_554, kv_555, kv_470, kv_556⟩ rfl ⟨by decide, by decide, by decide⟩ ⟨Nat.le_of_ble_eq_true rfl, Nat.le_of_ble_eq_true rfl⟩ ⟨Nat.zero_le _, Nat.zero_le _⟩ (by decide) pf rfl rfl hl.1 rfl (Nat.le_of_ble_eq_true rfl) dX9_type_15 (fun r39 w40 H locs hp41 h => ?_)
    have kM42 : KM w w40 := hp41.2.1
    have kn43 : KN w w40 := hp41.2.1.n
    obtain ⟨ok45, kk46, hr44⟩ := hp41
    have kx47 : KV w w40 := (KN.v kk46.n)
    subst hr44
    exact e_i X h hr hlk dX9_type_18 ⟨ok45, kx47, Or.inl ⟨by omega, kM42, rfl⟩⟩

set_option maxHeartbeats 4000000 in
set_option maxRecDepth 100000 in
theorem c_F_Tempty2 (l : Launch) (G : va_G) (cI cB cZ cO : ClassId) (ad : Nat → Nat) (w : Nat → va_E) (z a b c0 d : Int32) (ok : OK cI cB cZ cO ad w)   (pf : w 55 = .inr (5, [.ref (ad 56), .ref (ad 57), .int z, .int a, .int b, .int c0, .int d])) (hz1 : z.toInt ≤ 150) (hd0 : 0 ≤ d.toInt) (hd1 : d.toInt ≤ 99) (hz0 : 0 ≤ z.toInt) : NI l G (tyq cI cB cZ cO) yX7_empty cX7_empty 2 (some .int) 0 0 74 ad w [.ref (ad 55)] (fun r w1 => OK cI cB cZ cO ad w1 ∧ KL w w1 ∧ z = r ∧ pT (w1 55) = .inr (5, [.int 0]) ∧ ∀ k, k ≠ 55 → w1 k = w k) := by
  refine nk_i (own := "NoonShade$Text") rfl (by decide) (Nat.le_of_ble_eq_true rfl) ?_
  intro p e s m below meth c ls X hD hN hr hlk h hl
  have hx := X.1.1
  have hb := X.1.2.1
  have hown := X.1.2.2.2.1
  have hts := X.1.2.2.2.2
  have hl : lv_has ls 2 [(0, .ref (ad 55))] := hl
  refine lv_aload_n hx hb dX7_empty_0 rfl (lv_at hl 0 rfl) ?_
  refine r_get kc7 X h 55 2 (by decide) rfl pf (by decide) kv_391 rfl dX7_empty_1 ?_
  refine lv_istore_n (lv' := [(1, .int z), (0, .ref (ad 55))]) hx hb dX7_empty_4 rfl hl (by decide) rfl (fun ls hl => ?_)
  refine lv_aload_n hx hb dX7_empty_5 rfl (lv_at hl 1 rfl) ?_
  refine lv_iconst (v := 0) hx hb dX7_empty_6 (by decide) ?_
  refine r_put kc7 X hD h 55 2 (by decide) rfl pf (by decide) kv_391 rfl rfl rfl (Nat.le_of_ble_eq_true rfl) dX7_empty_7 (fun H locs w1 e2 h => ?_)
  have f3 : w1 55 = .inr (5, [.ref (ad 56), .ref (ad 57), .int 0, .int a, .int b, .int c0, .int d]) := (congrFun e2 _).trans (va_up_self _ _ _)
  have ok4 : OK cI cB cZ cO ad w1 := OK.up ok e2 (sT_mk (by decide) (by decide) (by omega) (by omega))
  have kx5 : KL w w1 := KL.up KL.rf e2 pf (Or.inl rfl)
  refine lv_iload_n hx hb dX7_empty_10 rfl (lv_at hl 0 rfl) ?_
  exact e_i X h hr hlk dX7_empty_11 ⟨ok4, kx5, ⟨rfl, by rw [f3]; rfl, (fun k h1 => (congrFun e2 k).trans (va_up_ne _ _ (by omega)))⟩⟩

set_option maxHeartbeats 4000000 in
set_option maxRecDepth 100000 in
theorem c_F_clear2 (l : Launch) (G : va_G) (cI cB cZ cO : ClassId) (ad : Nat → Nat) (w : Nat → va_E) (z a b c0 d : Int32) (ok : OK cI cB cZ cO ad w)   (pf : w 55 = .inr (5, [.ref (ad 56), .ref (ad 57), .int z, .int a, .int b, .int c0, .int d])) (hz1 : z.toInt ≤ 150) (hd0 : 0 ≤ d.toInt) (hd1 : d.toInt ≤ 99) (hz0 : 0 ≤ z.toInt) : NI l G (tyq cI cB cZ cO) yX8_clear cX8_clear 1 (some .int) 1 21 74 ad w [.ref (ad 0)] (fun r w1 => OK cI cB cZ cO ad w1 ∧ KL w w1 ∧ z = r ∧ pT (w1 55) = .inr (5, [.int 0]) ∧ ∀ k, k ≠ 55 → w1 k = w k) := by
  refine nk_i (own := "NoonShade") rfl (by decide) (Nat.le_of_ble_eq_true rfl) ?_
  intro p e s m below meth c ls X hD hN hr hlk h hl
  have hx := X.1.1
  have hb := X.1.2.1
  have hown := X.1.2.2.2.1
  have hts := X.1.2.2.2.2
  have hl : lv_has ls 1 [(0, .ref (ad 0))] := hl
  refine lv_aload_n hx hb dX8_clear_0 rfl (lv_at hl 0 rfl) ?_
  obtain ⟨x2, x3, q4, q5, q6, f1⟩ := (show sN ad (w 0) from ok 0 (by decide))
  have f7 : w 0 = .inr (6, [.ref (ad 1), .ref (ad 14), .ref (ad 27), .ref (ad 54), .ref (ad 55), .ref (ad 58), .ref (ad 62), .long x2, .long x3, .int q4, .int q5, .int q6]) := f1
  refine r_get kc8 X h 0 4 (by decide) rfl f7 (by decide) kv_191 rfl dX8_clear_1 ?_
  refine n_Vi (na := 0) (As := []) (rest := []) X hD hN h rfl (c_F_Tempty2 l G cI cB cZ cO ad w z a b c0 d ok   pf (by first | omega | decide | (simp only [k00]; omega)) (by first | omega | decide | (simp only [k00]; omega)) (by first | omega | decide | (simp only [k00]; omega)) (by first | omega | decide | (simp only [k00]; omega))) ⟨kv_456, kv_457, kv_458, kv_388, kv_459⟩ rfl ⟨by decide, by decide, by decide⟩ ⟨Nat.le_of_ble_eq_true rfl, Nat.le_of_ble_eq_true rfl⟩ ⟨Nat.zero_le _, Nat.zero_le _⟩ (by decide) pf rfl rfl hl.1 rfl (Nat.le_of_ble_eq_true rfl) dX8_clear_4 (fun r8 w9 H locs hp10 h => ?_)
  obtain ⟨ok12, kk13, hr11⟩ := hp10
  have kx14 : KL w w9 := kk13
  exact e_i X h hr hlk dX8_clear_7 ⟨ok12, kx14, hr11⟩

set_option maxHeartbeats 4000000 in
set_option maxRecDepth 100000 in
theorem c_MF_clear2 (l : Launch) (G : va_G) (cI cB cZ cO : ClassId) (ad : Nat → Nat) (w : Nat → va_E) (x y : Int64) (mb bl ta tl tk va : Int32) (ok : OK cI cB cZ cO ad w)   (pf : w 64 = .inr (7, [.ref (ad 65), .ref (ad 66), .ref (ad 67), .ref (ad 68), .long x, .long y, .ref (ad 69), .int mb, .ref (ad 70), .ref (ad 71), .int bl, .int ta, .int tl, .int tk, .int va, .ref (ad 72), .ref (ad 73)])) (hbl0 : 0 ≤ bl.toInt) (hbl1 : bl.toInt ≤ 150) : NI l G (tyq cI cB cZ cO) yX9_clear cX9_clear 2 (some .int) 0 0 74 ad w [.ref (ad 64)] (fun r w1 => OK cI cB cZ cO ad w1 ∧ KV w w1 ∧ bl = r ∧ pM (w1 64) = .inr (7, [.int 0]) ∧ ∀ k, k ≠ 64 → w1 k = w k) := by
  refine nk_i (own := "NoonShadeModel") rfl (by decide) (Nat.le_of_ble_eq_true rfl) ?_
  intro p e s m below meth c ls X hD hN hr hlk h hl
  have hx := X.1.1
  have hb := X.1.2.1
  have hown := X.1.2.2.2.1
  have hts := X.1.2.2.2.2
  have hl : lv_has ls 2 [(0, .ref (ad 64))] := hl
  refine lv_aload_n hx hb dX9_clear_0 rfl (lv_at hl 0 rfl) ?_
  refine r_get kc9 X h 64 10 (by decide) rfl pf (by decide) kv_539 rfl dX9_clear_1 ?_
  refine lv_istore_n (lv' := [(1, .int bl), (0, .ref (ad 64))]) hx hb dX9_clear_4 rfl hl (by decide) rfl (fun ls hl => ?_)
  refine lv_aload_n hx hb dX9_clear_5 rfl (lv_at hl 1 rfl) ?_
  refine lv_iconst (v := 0) hx hb dX9_clear_6 (by decide) ?_
  refine r_put kc9 X hD h 64 10 (by decide) rfl pf (by decide) kv_539 rfl rfl rfl (Nat.le_of_ble_eq_true rfl) dX9_clear_7 (fun H locs w1 e2 h => ?_)
  have f3 : w1 64 = .inr (7, [.ref (ad 65), .ref (ad 66), .ref (ad 67), .ref (ad 68), .long x, .long y, .ref (ad 69), .int mb, .ref (ad 70), .ref (ad 71), .int 0, .int ta, .int tl, .int tk, .int va, .ref (ad 72), .ref (ad 73)]) := (congrFun e2 _).trans (va_up_self _ _ _)
  have ok4 : OK cI cB cZ cO ad w1 := OK.up ok e2 (sM_mk (by decide) (by decide))
  have kx5 : KV w w1 := KV.up KV.rf e2 pf (Or.inl rfl)
  refine lv_iload_n hx hb dX9_clear_10 rfl (lv_at hl 0 rfl) ?_
  exact e_i X h hr hlk dX9_clear_11 ⟨ok4, kx5, ⟨rfl, by rw [f3]; rfl, (fun k h1 => (congrFun e2 k).trans (va_up_ne _ _ (by omega)))⟩⟩
