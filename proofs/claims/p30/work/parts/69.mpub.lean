set_option maxHeartbeats 4000000 in
set_option maxRecDepth 100000 in
theorem c_M_ladle_ (l : Launch) (G : va_G) (cI cB cZ cO : ClassId) (ad : Nat → Nat) (w : Nat → va_E)  (ok : OK cI cB cZ cO ad w) (i : Int32) (j : Int32)   : NI l G (tyq cI cB cZ cO) yX9_ladle cX9_ladle 3 (some .int) 3 69 74 ad w [.ref (ad 64), .int i, .int j] (fun r w1 => OK cI cB cZ cO ad w1 ∧ KM w w1 ∧ True) := by
  refine nk_i (own := "NoonShadeModel") rfl (by decide) (Nat.le_of_ble_eq_true rfl) ?_
  intro p e s m below meth c ls X hD hN hr hlk h hl
  have hx := X.1.1
  have hb := X.1.2.1
  have hown := X.1.2.2.2.1
  have hts := X.1.2.2.2.2
  have hl : lv_has ls 3 [(0, .ref (ad 64)), (1, .int i), (2, .int j)] := hl
  refine lv_aload_n hx hb dX9_ladle_0 rfl (lv_at hl 0 rfl) ?_
  refine lv_iload_n hx hb dX9_ladle_1 rfl (lv_at hl 1 rfl) ?_
  obtain ⟨x5, x6, t7, t8, t9, t10, t11, t12, f4, h13, h14⟩ := (show sM ad (w 64) from ok 64 (by decide))
  have f15 : w 64 = .inr (7, [.ref (ad 65), .ref (ad 66), .ref (ad 67), .ref (ad 68), .long x5, .long x6, .ref (ad 69), .int t7, .ref (ad 70), .ref (ad 71), .int t8, .int t9, .int t10, .int t11, .int t12, .ref (ad 72), .ref (ad 73)]) := f4
  refine n_Vi (na := 1) (As := [.int i]) (rest := []) X hD hN h rfl (c_M_isCaster l G cI cB cZ cO ad w  ok i  ) ⟨kv_519, kv_520, kv_521, kv_470, kv_522⟩ rfl ⟨by decide, by decide, by decide⟩ ⟨Nat.le_of_ble_eq_true rfl, Nat.le_of_ble_eq_true rfl⟩ ⟨Nat.zero_le _, Nat.zero_le _⟩ (by decide) f15 rfl rfl hl.1 rfl (Nat.le_of_ble_eq_true rfl) dX9_ladle_2 (fun r1 w2 H locs hp3 h => ?_)
  obtain ⟨rfl, hr16⟩ := hp3
  rcases hr16 with ⟨hq17, hq18, rfl⟩ | rfl
  · refine lv_if_eq (tgt := 16) hx hb dX9_ladle_5 (by decide) (fun hc => absurd hc (by decide)) (fun _ => ?_)
    refine lv_aload_n hx hb dX9_ladle_8 rfl (lv_at hl 0 rfl) ?_
    refine lv_iload_n hx hb dX9_ladle_9 rfl (lv_at hl 2 rfl) ?_
    refine n_Vi (na := 1) (As := [.int j]) (rest := []) X hD hN h rfl (c_M_isJar l G cI cB cZ cO ad w  ok j  ) ⟨kv_541, kv_542, kv_543, kv_470, kv_544⟩ rfl ⟨by decide, by decide, by decide⟩ ⟨Nat.le_of_ble_eq_true rfl, Nat.le_of_ble_eq_true rfl⟩ ⟨Nat.zero_le _, Nat.zero_le _⟩ (by decide) f15 rfl rfl hl.1 rfl (Nat.le_of_ble_eq_true rfl) dX9_ladle_10 (fun r19 w20 H locs hp21 h => ?_)
    obtain ⟨rfl, hr22⟩ := hp21
    rcases hr22 with ⟨hq23, hq24, rfl⟩ | rfl
    · refine lv_if_ne (tgt := 23) hx hb dX9_ladle_13 (by decide) (fun _ => ?_) (fun hc => absurd hc (by decide))
      refine lv_aload_n hx hb dX9_ladle_23 rfl (lv_at hl 0 rfl) ?_
      refine r_get kc9 X h 64 0 (by decide) rfl f15 (by decide) kv_467 rfl dX9_ladle_24 ?_
      refine lv_bipush (v := 7) hx hb dX9_ladle_27 (by decide) ?_
      obtain ⟨g26, f25, p27⟩ := (show sA cI 177 (alA) (w 65) from ok 65 (by decide))
      have f28 : w 65 = .inl (cI, 177, .inl g26) := f25
      obtain ⟨v29, e30⟩ : ∃ z : Int32, g26 7 = z := ⟨_, rfl⟩
      refine o_iald (v := v29) X h 65 0 (by decide) rfl f28 rfl (by unfold vp_in; decide) e30 dX9_ladle_29 ?_
      refine lv_iload_n hx hb dX9_ladle_30 rfl (lv_at hl 1 rfl) ?_
      refine n_Si (na := 2) (As := [.int v29, .int i]) (rest := []) X hD hN h (c_M_has l G cI cB cZ cO ad w   v29 i  ) ⟨kv_496, kv_497, kv_470, kv_498⟩ ⟨by decide, by decide, by decide⟩ ⟨Nat.le_of_ble_eq_true rfl, Nat.le_of_ble_eq_true rfl⟩ ⟨Nat.zero_le _, Nat.zero_le _⟩ rfl hl.1 rfl (Nat.le_of_ble_eq_true rfl) dX9_ladle_31 (fun r32 w33 H locs hp34 h => ?_)
      obtain ⟨rfl, hr35⟩ := hp34
      rcases hr35 with rfl | rfl
      · refine lv_if_eq (tgt := 42) hx hb dX9_ladle_34 (by decide) (fun hc => absurd hc (by decide)) (fun _ => ?_)
        refine lv_aload_n hx hb dX9_ladle_37 rfl (lv_at hl 0 rfl) ?_
        refine n_Vi (na := 0) (As := []) (rest := []) X hD hN h rfl (c_M_no l G cI cB cZ cO ad w  ok   ) ⟨kv_545, kv_546, kv_547, kv_470, kv_548⟩ rfl ⟨by decide, by decide, by decide⟩ ⟨Nat.le_of_ble_eq_true rfl, Nat.le_of_ble_eq_true rfl⟩ ⟨Nat.zero_le _, Nat.zero_le _⟩ (by decide) f15 rfl rfl hl.1 rfl (Nat.le_of_ble_eq_true rfl) dX9_ladle_38 (fun r36 w37 H locs hp38 h => ?_)
        obtain ⟨ok40, kk41, hr39⟩ := hp38
        have kx42 : KM w w37 := kk41
        subst hr39
        exact e_i X h hr hlk dX9_ladle_41 ⟨ok40, kx42, trivial⟩
      · refine lv_if_eq (tgt := 42) hx hb dX9_ladle_34 (by decide) (fun _ => ?_) (fun hc => absurd (by decide) hc)
        refine lv_aload_n hx hb dX9_ladle_42 rfl (lv_at hl 0 rfl) ?_
        refine n_Vv (na := 0) (As := []) (rest := []) X hD hN h rfl (c_M_save l G cI cB cZ cO ad w  ok   ) ⟨kv_549, kv_550, kv_551, kv_470, kv_552⟩ rfl ⟨by decide, by decide, by decide⟩ ⟨Nat.le_of_ble_eq_true rfl, Nat.le_of_ble_eq_true rfl⟩ ⟨Nat.zero_le _, Nat.zero_le _⟩ (by decide) f15 rfl rfl hl.1 rfl (Nat.le_of_ble_eq_true rfl) dX9_ladle_43 (fun w44 H locs hp45 h => ?_)
        obtain ⟨ok47, kk48, hr46⟩ := hp45
        have kx49 : KM w w44 := kk48
        refine lv_aload_n hx hb dX9_ladle_46 rfl (lv_at hl 0 rfl) ?_
        obtain ⟨x51, x52, t53, t54, t55, t56, t57, t58, f50, h59, h60⟩ := (show sM ad (w44 64) from ok47 64 (by decide))
        have f61 : w44 64 = .inr (7, [.ref (ad 65), .ref (ad 66), .ref (ad 67), .ref (ad 68), .long x51, .long x52, .ref (ad 69), .int t53, .ref (ad 70), .ref (ad 71), .int t54, .int t55, .int t56, .int t57, .int t58, .ref (ad 72), .ref (ad 73)]) := f50
        refine r_get kc9 X h 64 0 (by decide) rfl f61 (by decide) kv_467 rfl dX9_ladle_47 ?_
        refine lv_iload_n hx hb dX9_ladle_50 rfl (lv_at hl 1 rfl) ?_
        refine lv_iload_n hx hb dX9_ladle_51 rfl (lv_at hl 2 rfl) ?_
        refine n_Si (na := 3) (As := [.ref (ad 65), .int i, .int j]) (rest := []) X hD hN h (c_M_goLadle l G cI cB cZ cO ad w44 65 (Or.inl rfl) ok47 i j (by omega) (by omega) (by omega) (by omega) ) ⟨kv_511, kv_512, kv_470, kv_513⟩ ⟨by decide, by decide, by decide⟩ ⟨Nat.le_of_ble_eq_true rfl, Nat.le_of_ble_eq_true rfl⟩ ⟨Nat.zero_le _, Nat.zero_le _⟩ rfl hl.1 rfl (Nat.le_of_ble_eq_true rfl) dX9_ladle_52 (fun r62 w63 H locs hp64 h => ?_)
        obtain ⟨ok66, kk67, hr65⟩ := hp64
        have kx68 : KM w w63 := KM.tr kx49 kk67.1
        exact e_i X h hr hlk dX9_ladle_55 ⟨ok66, kx68, trivial⟩
    · refine lv_if_ne (tgt := 23) hx hb dX9_ladle_13 (by decide) (fun hc => absurd (by decide) hc) (fun _ => ?_)
      refine lv_aload_n hx hb dX9_ladle_16 rfl (lv_at hl 0 rfl) ?_
      refine lv_bipush (v := (-2)) hx hb dX9_ladle_17 (by decide) ?_
      refine n_Vi (na := 1) (As := [.int (-2)]) (rest := []) X hD hN h rfl (c_M_bad l G cI cB cZ cO ad w  ok ((-2) : Int32)  ) ⟨kv_553, kv_554, kv_555, kv_470, kv_556⟩ rfl ⟨by decide, by decide, by decide⟩ ⟨Nat.le_of_ble_eq_true rfl, Nat.le_of_ble_eq_true rfl⟩ ⟨Nat.zero_le _, Nat.zero_le _⟩ (by decide) f15 rfl rfl hl.1 rfl (Nat.le_of_ble_eq_true rfl) dX9_ladle_19 (fun r69 w70 H locs hp71 h => ?_)
      obtain ⟨ok73, kk74, hr72⟩ := hp71
      have kx75 : KM w w70 := kk74
      subst hr72
      exact e_i X h hr hlk dX9_ladle_22 ⟨ok73, kx75, trivial⟩
  · refine lv_if_eq (tgt := 16) hx hb dX9_ladle_5 (by decide) (fun _ => ?_) (fun hc => absurd (by decide) hc)
    refine lv_aload_n hx hb dX9_ladle_16 rfl (lv_at hl 0 rfl) ?_
    refine lv_bipush (v := (-2)) hx hb dX9_ladle_17 (by decide) ?_
    refine n_Vi (na := 1) (As := [.int (-2)]) (rest := []) X hD hN h rfl (c_M_bad l G cI cB cZ cO ad w  ok ((-2) : Int32)  ) ⟨kv_553, kv_554, kv_555, kv_470, kv_556⟩ rfl ⟨by decide, by decide, by decide⟩ ⟨Nat.le_of_ble_eq_true rfl, Nat.le_of_ble_eq_true rfl⟩ ⟨Nat.zero_le _, Nat.zero_le _⟩ (by decide) f15 rfl rfl hl.1 rfl (Nat.le_of_ble_eq_true rfl) dX9_ladle_19 (fun r76 w77 H locs hp78 h => ?_)
    obtain ⟨ok80, kk81, hr79⟩ := hp78
    have kx82 : KM w w77 := kk81
    subst hr79
    exact e_i X h hr hlk dX9_ladle_22 ⟨ok80, kx82, trivial⟩

set_option maxHeartbeats 4000000 in
set_option maxRecDepth 100000 in
theorem c_M_pours_ (l : Launch) (G : va_G) (cI cB cZ cO : ClassId) (ad : Nat → Nat) (w : Nat → va_E)  (ok : OK cI cB cZ cO ad w) (j : Int32) (k : Int32)   : NI l G (tyq cI cB cZ cO) yX9_pours cX9_pours 3 (some .int) 2 48 74 ad w [.ref (ad 64), .int j, .int k] (fun r w1 => OK cI cB cZ cO ad w1 ∧ KM w w1 ∧ True) := by
  refine nk_i (own := "NoonShadeModel") rfl (by decide) (Nat.le_of_ble_eq_true rfl) ?_
  intro p e s m below meth c ls X hD hN hr hlk h hl
  have hx := X.1.1
  have hb := X.1.2.1
  have hown := X.1.2.2.2.1
  have hts := X.1.2.2.2.2
  have hl : lv_has ls 3 [(0, .ref (ad 64)), (1, .int j), (2, .int k)] := hl
  refine lv_aload_n hx hb dX9_pours_0 rfl (lv_at hl 0 rfl) ?_
  refine lv_iload_n hx hb dX9_pours_1 rfl (lv_at hl 1 rfl) ?_
  obtain ⟨x5, x6, t7, t8, t9, t10, t11, t12, f4, h13, h14⟩ := (show sM ad (w 64) from ok 64 (by decide))
  have f15 : w 64 = .inr (7, [.ref (ad 65), .ref (ad 66), .ref (ad 67), .ref (ad 68), .long x5, .long x6, .ref (ad 69), .int t7, .ref (ad 70), .ref (ad 71), .int t8, .int t9, .int t10, .int t11, .int t12, .ref (ad 72), .ref (ad 73)]) := f4
  refine n_Vi (na := 1) (As := [.int j]) (rest := []) X hD hN h rfl (c_M_isJar l G cI cB cZ cO ad w  ok j  ) ⟨kv_541, kv_542, kv_543, kv_470, kv_544⟩ rfl ⟨by decide, by decide, by decide⟩ ⟨Nat.le_of_ble_eq_true rfl, Nat.le_of_ble_eq_true rfl⟩ ⟨Nat.zero_le _, Nat.zero_le _⟩ (by decide) f15 rfl rfl hl.1 rfl (Nat.le_of_ble_eq_true rfl) dX9_pours_2 (fun r1 w2 H locs hp3 h => ?_)
  obtain ⟨rfl, hr16⟩ := hp3
  rcases hr16 with ⟨hq17, hq18, rfl⟩ | rfl
  · refine lv_if_eq (tgt := 21) hx hb dX9_pours_5 (by decide) (fun hc => absurd hc (by decide)) (fun _ => ?_)
    refine lv_aload_n hx hb dX9_pours_8 rfl (lv_at hl 0 rfl) ?_
    refine lv_iload_n hx hb dX9_pours_9 rfl (lv_at hl 2 rfl) ?_
    refine n_Vi (na := 1) (As := [.int k]) (rest := []) X hD hN h rfl (c_M_isJar l G cI cB cZ cO ad w  ok k  ) ⟨kv_541, kv_542, kv_543, kv_470, kv_544⟩ rfl ⟨by decide, by decide, by decide⟩ ⟨Nat.le_of_ble_eq_true rfl, Nat.le_of_ble_eq_true rfl⟩ ⟨Nat.zero_le _, Nat.zero_le _⟩ (by decide) f15 rfl rfl hl.1 rfl (Nat.le_of_ble_eq_true rfl) dX9_pours_10 (fun r19 w20 H locs hp21 h => ?_)
    obtain ⟨rfl, hr22⟩ := hp21
    rcases hr22 with ⟨hq23, hq24, rfl⟩ | rfl
    · refine lv_if_eq (tgt := 21) hx hb dX9_pours_13 (by decide) (fun hc => absurd hc (by decide)) (fun _ => ?_)
      refine lv_iload_n hx hb dX9_pours_16 rfl (lv_at hl 1 rfl) ?_
      refine lv_iload_n hx hb dX9_pours_17 rfl (lv_at hl 2 rfl) ?_
      refine lv_icmp_ne (tgt := 28) hx hb dX9_pours_18 (by decide) (fun hc25 => ?_) (fun hc25 => ?_)
      · have hc25 : ¬ (j).toInt = (k).toInt := i_ne hc25 rfl rfl
        refine lv_aload_n hx hb dX9_pours_28 rfl (lv_at hl 0 rfl) ?_
        refine r_get kc9 X h 64 0 (by decide) rfl f15 (by decide) kv_467 rfl dX9_pours_29 ?_
        refine lv_bipush (v := 8) hx hb dX9_pours_32 (by decide) ?_
        refine lv_iload_n hx hb dX9_pours_34 rfl (lv_at hl 1 rfl) ?_
        obtain ⟨z28, e26, t27⟩ := x_add (x := (8 : Int32)) (y := j) (a := 8) (b := (j).toInt) rfl rfl (by omega) (by omega)
        refine o_iadd (z := z28) hx hb dX9_pours_35 e26 ?_
        obtain ⟨g30, f29, p31⟩ := (show sA cI 177 (alA) (w 65) from ok 65 (by decide))
        have f32 : w 65 = .inl (cI, 177, .inl g30) := f29
        obtain ⟨v33, e34⟩ : ∃ z : Int32, g30 (z28).toNatClampNeg = z := ⟨_, rfl⟩
        refine o_iald (v := v33) X h 65 0 (by decide) rfl f32 rfl (in_of (by omega) (by omega)) e34 dX9_pours_36 ?_
        refine lv_if_ne (tgt := 45) hx hb dX9_pours_37 (by decide) (fun hc36 => ?_) (fun hc36 => ?_)
        · have hc36 : ¬ (v33).toInt = 0 := i_ne hc36 rfl rfl
          refine lv_aload_n hx hb dX9_pours_45 rfl (lv_at hl 0 rfl) ?_
          refine n_Vv (na := 0) (As := []) (rest := []) X hD hN h rfl (c_M_save l G cI cB cZ cO ad w  ok   ) ⟨kv_549, kv_550, kv_551, kv_470, kv_552⟩ rfl ⟨by decide, by decide, by decide⟩ ⟨Nat.le_of_ble_eq_true rfl, Nat.le_of_ble_eq_true rfl⟩ ⟨Nat.zero_le _, Nat.zero_le _⟩ (by decide) f15 rfl rfl hl.1 rfl (Nat.le_of_ble_eq_true rfl) dX9_pours_46 (fun w38 H locs hp39 h => ?_)
          obtain ⟨ok41, kk42, hr40⟩ := hp39
          have kx43 : KM w w38 := kk42
          refine lv_aload_n hx hb dX9_pours_49 rfl (lv_at hl 0 rfl) ?_
          obtain ⟨x45, x46, t47, t48, t49, t50, t51, t52, f44, h53, h54⟩ := (show sM ad (w38 64) from ok41 64 (by decide))
          have f55 : w38 64 = .inr (7, [.ref (ad 65), .ref (ad 66), .ref (ad 67), .ref (ad 68), .long x45, .long x46, .ref (ad 69), .int t47, .ref (ad 70), .ref (ad 71), .int t48, .int t49, .int t50, .int t51, .int t52, .ref (ad 72), .ref (ad 73)]) := f44
          refine r_get kc9 X h 64 0 (by decide) rfl f55 (by decide) kv_467 rfl dX9_pours_50 ?_
          refine lv_iload_n hx hb dX9_pours_53 rfl (lv_at hl 1 rfl) ?_
          refine lv_iload_n hx hb dX9_pours_54 rfl (lv_at hl 2 rfl) ?_
          refine n_Si (na := 3) (As := [.ref (ad 65), .int j, .int k]) (rest := []) X hD hN h (c_M_goPour l G cI cB cZ cO ad w38 65 (Or.inl rfl) ok41 j k (by omega) (by omega) (by omega) (by omega) ) ⟨kv_557, kv_558, kv_470, kv_559⟩ ⟨by decide, by decide, by decide⟩ ⟨Nat.le_of_ble_eq_true rfl, Nat.le_of_ble_eq_true rfl⟩ ⟨Nat.zero_le _, Nat.zero_le _⟩ rfl hl.1 rfl (Nat.le_of_ble_eq_true rfl) dX9_pours_55 (fun r56 w57 H locs hp58 h => ?_)
          obtain ⟨ok60, kk61, hr59⟩ := hp58
          have kx62 : KM w w57 := KM.tr kx43 kk61.1
          exact e_i X h hr hlk dX9_pours_58 ⟨ok60, kx62, trivial⟩
        · have hc36 : (v33).toInt = 0 := i_eq hc36 rfl rfl
          refine lv_aload_n hx hb dX9_pours_40 rfl (lv_at hl 0 rfl) ?_
          refine n_Vi (na := 0) (As := []) (rest := []) X hD hN h rfl (c_M_no l G cI cB cZ cO ad w  ok   ) ⟨kv_545, kv_546, kv_547, kv_470, kv_548⟩ rfl ⟨by decide, by decide, by decide⟩ ⟨Nat.le_of_ble_eq_true rfl, Nat.le_of_ble_eq_true rfl⟩ ⟨Nat.zero_le _, Nat.zero_le _⟩ (by decide) f15 rfl rfl hl.1 rfl (Nat.le_of_ble_eq_true rfl) dX9_pours_41 (fun r63 w64 H locs hp65 h => ?_)
          obtain ⟨ok67, kk68, hr66⟩ := hp65
          have kx69 : KM w w64 := kk68
          subst hr66
          exact e_i X h hr hlk dX9_pours_44 ⟨ok67, kx69, trivial⟩
      · have hc25 : (j).toInt = (k).toInt := i_eq hc25 rfl rfl
        refine lv_aload_n hx hb dX9_pours_21 rfl (lv_at hl 0 rfl) ?_
        refine lv_bipush (v := (-2)) hx hb dX9_pours_22 (by decide) ?_
        refine n_Vi (na := 1) (As := [.int (-2)]) (rest := []) X hD hN h rfl (c_M_bad l G cI cB cZ cO ad w  ok ((-2) : Int32)  ) ⟨kv_553, kv_554, kv_555, kv_470, kv_556⟩ rfl ⟨by decide, by decide, by decide⟩ ⟨Nat.le_of_ble_eq_true rfl, Nat.le_of_ble_eq_true rfl⟩ ⟨Nat.zero_le _, Nat.zero_le _⟩ (by decide) f15 rfl rfl hl.1 rfl (Nat.le_of_ble_eq_true rfl) dX9_pours_24 (fun r70 w71 H locs hp72 h => ?_)
        obtain ⟨ok74, kk75, hr73⟩ := hp72
        have kx76 : KM w w71 := kk75
        subst hr73
        exact e_i X h hr hlk dX9_pours_27 ⟨ok74, kx76, trivial⟩
    · refine lv_if_eq (tgt := 21) hx hb dX9_pours_13 (by decide) (fun _ => ?_) (fun hc => absurd (by decide) hc)
      refine lv_aload_n hx hb dX9_pours_21 rfl (lv_at hl 0 rfl) ?_
      refine lv_bipush (v := (-2)) hx hb dX9_pours_22 (by decide) ?_
      refine n_Vi (na := 1) (As := [.int (-2)]) (rest := []) X hD hN h rfl (c_M_bad l G cI cB cZ cO ad w  ok ((-2) : Int32)  ) ⟨kv_553, kv_554, kv_555, kv_470, kv_556⟩ rfl ⟨by decide, by decide, by decide⟩ ⟨Nat.le_of_ble_eq_true rfl, Nat.le_of_ble_eq_true rfl⟩ ⟨Nat.zero_le _, Nat.zero_le _⟩ (by decide) f15 rfl rfl hl.1 rfl (Nat.le_of_ble_eq_true rfl) dX9_pours_24 (fun r77 w78 H locs hp79 h => ?_)
      obtain ⟨ok81, kk82, hr80⟩ := hp79
      have kx83 : KM w w78 := kk82
      subst hr80
      exact e_i X h hr hlk dX9_pours_27 ⟨ok81, kx83, trivial⟩
  · refine lv_if_eq (tgt := 21) hx hb dX9_pours_5 (by decide) (fun _ => ?_) (fun hc => absurd (by decide) hc)
    refine lv_aload_n hx hb dX9_pours_21 rfl (lv_at hl 0 rfl) ?_
    refine lv_bipush (v := (-2)) hx hb dX9_pours_22 (by decide) ?_
    refine n_Vi (na := 1) (As := [.int (-2)]) (rest := []) X hD hN h rfl (c_M_bad l G cI cB cZ cO ad w  ok ((-2) : Int32)  ) ⟨kv_553, kv_554, kv_555, kv_470, kv_556⟩ rfl ⟨by decide, by decide, by decide⟩ ⟨Nat.le_of_ble_eq_true rfl, Nat.le_of_ble_eq_true rfl⟩ ⟨Nat.zero_le _, Nat.zero_le _⟩ (by decide) f15 rfl rfl hl.1 rfl (Nat.le_of_ble_eq_true rfl) dX9_pours_24 (fun r84 w85 H locs hp86 h => ?_)
    obtain ⟨ok88, kk89, hr87⟩ := hp86
    have kx90 : KM w w85 := kk89
    subst hr87
    exact e_i X h hr hlk dX9_pours_27 ⟨ok88, kx90, trivial⟩

set_option maxHeartbeats 4000000 in
set_option maxRecDepth 100000 in
theorem c_M_sells_ (l : Launch) (G : va_G) (cI cB cZ cO : ClassId) (ad : Nat → Nat) (w : Nat → va_E)  (ok : OK cI cB cZ cO ad w) (j : Int32)   : NI l G (tyq cI cB cZ cO) yX9_sells cX9_sells 4 (some .int) 2 46 74 ad w [.ref (ad 64), .int j] (fun r w1 => OK cI cB cZ cO ad w1 ∧ KM w w1 ∧ True) := by
  refine nk_i (own := "NoonShadeModel") rfl (by decide) (Nat.le_of_ble_eq_true rfl) ?_
  intro p e s m below meth c ls X hD hN hr hlk h hl
  have hx := X.1.1
  have hb := X.1.2.1
  have hown := X.1.2.2.2.1
  have hts := X.1.2.2.2.2
  have hl : lv_has ls 4 [(0, .ref (ad 64)), (1, .int j)] := hl
  refine lv_aload_n hx hb dX9_sells_0 rfl (lv_at hl 0 rfl) ?_
  refine lv_iload_n hx hb dX9_sells_1 rfl (lv_at hl 1 rfl) ?_
  obtain ⟨x5, x6, t7, t8, t9, t10, t11, t12, f4, h13, h14⟩ := (show sM ad (w 64) from ok 64 (by decide))
  have f15 : w 64 = .inr (7, [.ref (ad 65), .ref (ad 66), .ref (ad 67), .ref (ad 68), .long x5, .long x6, .ref (ad 69), .int t7, .ref (ad 70), .ref (ad 71), .int t8, .int t9, .int t10, .int t11, .int t12, .ref (ad 72), .ref (ad 73)]) := f4
  refine n_Vi (na := 1) (As := [.int j]) (rest := []) X hD hN h rfl (c_M_isJar l G cI cB cZ cO ad w  ok j  ) ⟨kv_541, kv_542, kv_543, kv_470, kv_544⟩ rfl ⟨by decide, by decide, by decide⟩ ⟨Nat.le_of_ble_eq_true rfl, Nat.le_of_ble_eq_true rfl⟩ ⟨Nat.zero_le _, Nat.zero_le _⟩ (by decide) f15 rfl rfl hl.1 rfl (Nat.le_of_ble_eq_true rfl) dX9_sells_2 (fun r1 w2 H locs hp3 h => ?_)
  obtain ⟨rfl, hr16⟩ := hp3
  rcases hr16 with ⟨hq17, hq18, rfl⟩ | rfl
  · refine lv_if_ne (tgt := 15) hx hb dX9_sells_5 (by decide) (fun _ => ?_) (fun hc => absurd hc (by decide))
    refine lv_aload_n hx hb dX9_sells_15 rfl (lv_at hl 0 rfl) ?_
    refine r_get kc9 X h 64 0 (by decide) rfl f15 (by decide) kv_467 rfl dX9_sells_16 ?_
    refine lv_bipush (v := 8) hx hb dX9_sells_19 (by decide) ?_
    refine lv_iload_n hx hb dX9_sells_21 rfl (lv_at hl 1 rfl) ?_
    obtain ⟨z21, e19, t20⟩ := x_add (x := (8 : Int32)) (y := j) (a := 8) (b := (j).toInt) rfl rfl (by omega) (by omega)
    refine o_iadd (z := z21) hx hb dX9_sells_22 e19 ?_
    obtain ⟨g23, f22, p24⟩ := (show sA cI 177 (alA) (w 65) from ok 65 (by decide))
    have f25 : w 65 = .inl (cI, 177, .inl g23) := f22
    obtain ⟨v26, e27⟩ : ∃ z : Int32, g23 (z21).toNatClampNeg = z := ⟨_, rfl⟩
    refine o_iald (v := v26) X h 65 0 (by decide) rfl f25 rfl (in_of (by omega) (by omega)) e27 dX9_sells_23 ?_
    refine lv_if_ne (tgt := 32) hx hb dX9_sells_24 (by decide) (fun hc29 => ?_) (fun hc29 => ?_)
    · have hc29 : ¬ (v26).toInt = 0 := i_ne hc29 rfl rfl
      refine lv_aload_n hx hb dX9_sells_32 rfl (lv_at hl 0 rfl) ?_
      refine n_Vv (na := 0) (As := []) (rest := []) X hD hN h rfl (c_M_save l G cI cB cZ cO ad w  ok   ) ⟨kv_549, kv_550, kv_551, kv_470, kv_552⟩ rfl ⟨by decide, by decide, by decide⟩ ⟨Nat.le_of_ble_eq_true rfl, Nat.le_of_ble_eq_true rfl⟩ ⟨Nat.zero_le _, Nat.zero_le _⟩ (by decide) f15 rfl rfl hl.1 rfl (Nat.le_of_ble_eq_true rfl) dX9_sells_33 (fun w31 H locs hp32 h => ?_)
      obtain ⟨ok34, kk35, hr33⟩ := hp32
      have kx36 : KM w w31 := kk35
      refine lv_aload_n hx hb dX9_sells_36 rfl (lv_at hl 0 rfl) ?_
      obtain ⟨x38, x39, t40, t41, t42, t43, t44, t45, f37, h46, h47⟩ := (show sM ad (w31 64) from ok34 64 (by decide))
      have f48 : w31 64 = .inr (7, [.ref (ad 65), .ref (ad 66), .ref (ad 67), .ref (ad 68), .long x38, .long x39, .ref (ad 69), .int t40, .ref (ad 70), .ref (ad 71), .int t41, .int t42, .int t43, .int t44, .int t45, .ref (ad 72), .ref (ad 73)]) := f37
      refine r_get kc9 X h 64 0 (by decide) rfl f48 (by decide) kv_467 rfl dX9_sells_37 ?_
      refine lv_bipush (v := 6) hx hb dX9_sells_40 (by decide) ?_
      obtain ⟨g50, f49, p51⟩ := (show sA cI 177 (alA) (w31 65) from ok34 65 (by decide))
      have f52 : w31 65 = .inl (cI, 177, .inl g50) := f49
      obtain ⟨v53, e54⟩ : ∃ z : Int32, g50 6 = z := ⟨_, rfl⟩
      refine o_iald (v := v53) X h 65 0 (by decide) rfl f52 rfl (by unfold vp_in; decide) e54 dX9_sells_42 ?_
      refine lv_istore_n (lv' := [(2, .int v53), (0, .ref (ad 64)), (1, .int j)]) hx hb dX9_sells_43 rfl hl (by decide) rfl (fun ls hl => ?_)
      refine lv_iload_n hx hb dX9_sells_44 rfl (lv_at hl 0 rfl) ?_
      refine lv_aload_n hx hb dX9_sells_45 rfl (lv_at hl 1 rfl) ?_
      refine r_get kc9 X h 64 0 (by decide) rfl f48 (by decide) kv_467 rfl dX9_sells_46 ?_
      refine lv_bipush (v := 12) hx hb dX9_sells_49 (by decide) ?_
      refine lv_iload_n hx hb dX9_sells_51 rfl (lv_at hl 2 rfl) ?_
      obtain ⟨z58, e56, t57⟩ := x_add (x := (12 : Int32)) (y := j) (a := 12) (b := (j).toInt) rfl rfl (by omega) (by omega)
      refine o_iadd (z := z58) hx hb dX9_sells_52 e56 ?_
      obtain ⟨v59, e60⟩ : ∃ z : Int32, g50 (z58).toNatClampNeg = z := ⟨_, rfl⟩
      refine o_iald (v := v59) X h 65 0 (by decide) rfl f52 rfl (in_of (by omega) (by omega)) e60 dX9_sells_53 ?_
      refine lv_iconst (v := 4) hx hb dX9_sells_54 (by decide) ?_
      refine lv_icmp_ne (tgt := 70) hx hb dX9_sells_55 (by decide) (fun hc62 => ?_) (fun hc62 => ?_)
      · have hc62 : ¬ (v59).toInt = 4 := i_ne hc62 rfl rfl
        refine lv_iconst (v := 2) hx hb dX9_sells_70 (by decide) ?_
        refine lv_aload_n hx hb dX9_sells_71 rfl (lv_at hl 1 rfl) ?_
        refine r_get kc9 X h 64 0 (by decide) rfl f48 (by decide) kv_467 rfl dX9_sells_72 ?_
        refine lv_bipush (v := 8) hx hb dX9_sells_75 (by decide) ?_
        refine lv_iload_n hx hb dX9_sells_77 rfl (lv_at hl 2 rfl) ?_
        obtain ⟨z65, e63, t64⟩ := x_add (x := (8 : Int32)) (y := j) (a := 8) (b := (j).toInt) rfl rfl (by omega) (by omega)
        refine o_iadd (z := z65) hx hb dX9_sells_78 e63 ?_
        obtain ⟨v66, e67⟩ : ∃ z : Int32, g50 (z65).toNatClampNeg = z := ⟨_, rfl⟩
        refine o_iald (v := v66) X h 65 0 (by decide) rfl f52 rfl (in_of (by omega) (by omega)) e67 dX9_sells_79 ?_
        obtain ⟨z71, e69⟩ : ∃ z : Int32, (2 : Int32) * v66 = z := ⟨_, rfl⟩
        refine o_imul (z := z71) hx hb dX9_sells_80 e69 ?_
        obtain ⟨z74, e72⟩ : ∃ z : Int32, v53 + z71 = z := ⟨_, rfl⟩
        refine o_iadd (z := z74) hx hb dX9_sells_81 e72 ?_
        refine lv_istore_n (lv' := [(3, .int z74), (2, .int v53), (0, .ref (ad 64)), (1, .int j)]) hx hb dX9_sells_82 rfl hl (by decide) rfl (fun ls hl => ?_)
        refine lv_aload_n hx hb dX9_sells_83 rfl (lv_at hl 2 rfl) ?_
        refine r_get kc9 X h 64 0 (by decide) rfl f48 (by decide) kv_467 rfl dX9_sells_84 ?_
        refine lv_bipush (v := 6) hx hb dX9_sells_87 (by decide) ?_
        refine lv_iload_n hx hb dX9_sells_89 rfl (lv_at hl 0 rfl) ?_
        refine lv_sipush (v := 9999) hx hb dX9_sells_90 (by decide) ?_
        refine lv_icmp_le (tgt := 102) hx hb dX9_sells_93 (by decide) (fun hc75 => ?_) (fun hc75 => ?_)
        · have hc75 : (z74).toInt ≤ 9999 := i_le hc75 rfl rfl
          refine lv_iload_n hx hb dX9_sells_102 rfl (lv_at hl 0 rfl) ?_
          obtain ⟨g76, e77⟩ : ∃ z : Nat → Int32, upd g50 6 z74 = z := ⟨_, rfl⟩
          have p78 : alA g76 := alA_upd p51 e77 (by decide)
          refine o_iast (f1 := g76) X hD h 65 0 (by decide) rfl f52 rfl (by unfold vp_in; decide) e77 dX9_sells_103 (fun H locs w79 e80 h => ?_)
          have f81 : w79 65 = .inl (cI, 177, .inl g76) := (congrFun e80 _).trans (va_up_self _ _ _)
          have ok82 : OK cI cB cZ cO ad w79 := OK.up ok34 e80 (sA_mk p78)
          have kx83 : KM w w79 := KM.up kx36 e80 f52 (kmA e77 (by decide))
          refine lv_aload_n hx hb dX9_sells_104 rfl (lv_at hl 2 rfl) ?_
          have f84 : w79 64 = .inr (7, [.ref (ad 65), .ref (ad 66), .ref (ad 67), .ref (ad 68), .long x38, .long x39, .ref (ad 69), .int t40, .ref (ad 70), .ref (ad 71), .int t41, .int t42, .int t43, .int t44, .int t45, .ref (ad 72), .ref (ad 73)]) := by rw [e80, va_up_ne _ _ (by decide)]; exact f48
          refine r_get kc9 X h 64 0 (by decide) rfl f84 (by decide) kv_467 rfl dX9_sells_105 ?_
          refine lv_bipush (v := 8) hx hb dX9_sells_108 (by decide) ?_
          refine lv_iload_n hx hb dX9_sells_110 rfl (lv_at hl 3 rfl) ?_
          obtain ⟨z87, e85, t86⟩ := x_add (x := (8 : Int32)) (y := j) (a := 8) (b := (j).toInt) rfl rfl (by omega) (by omega)
          refine o_iadd (z := z87) hx hb dX9_sells_111 e85 ?_
          refine lv_iconst (v := 0) hx hb dX9_sells_112 (by decide) ?_
          obtain ⟨g88, e89⟩ : ∃ z : Nat → Int32, upd g76 (z87).toNatClampNeg (0 : Int32) = z := ⟨_, rfl⟩
          have p90 : alA g88 := alA_upd p78 e89 (by have := cl_of (x := z87) (by omega); omega)
          refine o_iast (f1 := g88) X hD h 65 0 (by decide) rfl f81 rfl (in_of (by omega) (by omega)) e89 dX9_sells_113 (fun H locs w91 e92 h => ?_)
          have f93 : w91 65 = .inl (cI, 177, .inl g88) := (congrFun e92 _).trans (va_up_self _ _ _)
          have ok94 : OK cI cB cZ cO ad w91 := OK.up ok82 e92 (sA_mk p90)
          have kx95 : KM w w91 := KM.up kx83 e92 f81 (kmA e89 (by have := cl_of (x := z87) (by omega); omega))
          refine lv_aload_n hx hb dX9_sells_114 rfl (lv_at hl 2 rfl) ?_
          have f96 : w91 64 = .inr (7, [.ref (ad 65), .ref (ad 66), .ref (ad 67), .ref (ad 68), .long x38, .long x39, .ref (ad 69), .int t40, .ref (ad 70), .ref (ad 71), .int t41, .int t42, .int t43, .int t44, .int t45, .ref (ad 72), .ref (ad 73)]) := by rw [e92, va_up_ne _ _ (by decide)]; exact f84
          refine r_get kc9 X h 64 0 (by decide) rfl f96 (by decide) kv_467 rfl dX9_sells_115 ?_
          refine lv_bipush (v := 6) hx hb dX9_sells_118 (by decide) ?_
          have e97 : g88 6 = z74 := by rw [← e89, pk_un (by have := cl_of (x := z87) (by omega); omega), ← e77, pk_us]
          refine o_iald (v := z74) X h 65 0 (by decide) rfl f93 rfl (by unfold vp_in; decide) e97 dX9_sells_120 ?_
          refine lv_iload_n hx hb dX9_sells_121 rfl (lv_at hl 1 rfl) ?_
          obtain ⟨z100, e98⟩ : ∃ z : Int32, z74 - v53 = z := ⟨_, rfl⟩
          refine o_isub (z := z100) hx hb dX9_sells_122 e98 ?_
          exact e_i X h hr hlk dX9_sells_123 ⟨ok94, kx95, trivial⟩
        · have hc75 : ¬ (z74).toInt ≤ 9999 := i_nle hc75 rfl rfl
          refine lv_sipush (v := 9999) hx hb dX9_sells_96 (by decide) ?_
          refine lv_goto (tgt := 103) hx hb dX9_sells_99 (by decide) ?_
          obtain ⟨g101, e102⟩ : ∃ z : Nat → Int32, upd g50 6 (9999 : Int32) = z := ⟨_, rfl⟩
          have p103 : alA g101 := alA_upd p51 e102 (by decide)
          refine o_iast (f1 := g101) X hD h 65 0 (by decide) rfl f52 rfl (by unfold vp_in; decide) e102 dX9_sells_103 (fun H locs w104 e105 h => ?_)
          have f106 : w104 65 = .inl (cI, 177, .inl g101) := (congrFun e105 _).trans (va_up_self _ _ _)
          have ok107 : OK cI cB cZ cO ad w104 := OK.up ok34 e105 (sA_mk p103)
          have kx108 : KM w w104 := KM.up kx36 e105 f52 (kmA e102 (by decide))
          refine lv_aload_n hx hb dX9_sells_104 rfl (lv_at hl 2 rfl) ?_
          have f109 : w104 64 = .inr (7, [.ref (ad 65), .ref (ad 66), .ref (ad 67), .ref (ad 68), .long x38, .long x39, .ref (ad 69), .int t40, .ref (ad 70), .ref (ad 71), .int t41, .int t42, .int t43, .int t44, .int t45, .ref (ad 72), .ref (ad 73)]) := by rw [e105, va_up_ne _ _ (by decide)]; exact f48
          refine r_get kc9 X h 64 0 (by decide) rfl f109 (by decide) kv_467 rfl dX9_sells_105 ?_
          refine lv_bipush (v := 8) hx hb dX9_sells_108 (by decide) ?_
          refine lv_iload_n hx hb dX9_sells_110 rfl (lv_at hl 3 rfl) ?_
          obtain ⟨z112, e110, t111⟩ := x_add (x := (8 : Int32)) (y := j) (a := 8) (b := (j).toInt) rfl rfl (by omega) (by omega)
          refine o_iadd (z := z112) hx hb dX9_sells_111 e110 ?_
          refine lv_iconst (v := 0) hx hb dX9_sells_112 (by decide) ?_
          obtain ⟨g113, e114⟩ : ∃ z : Nat → Int32, upd g101 (z112).toNatClampNeg (0 : Int32) = z := ⟨_, rfl⟩
          have p115 : alA g113 := alA_upd p103 e114 (by have := cl_of (x := z112) (by omega); omega)
          refine o_iast (f1 := g113) X hD h 65 0 (by decide) rfl f106 rfl (in_of (by omega) (by omega)) e114 dX9_sells_113 (fun H locs w116 e117 h => ?_)
          have f118 : w116 65 = .inl (cI, 177, .inl g113) := (congrFun e117 _).trans (va_up_self _ _ _)
          have ok119 : OK cI cB cZ cO ad w116 := OK.up ok107 e117 (sA_mk p115)
          have kx120 : KM w w116 := KM.up kx108 e117 f106 (kmA e114 (by have := cl_of (x := z112) (by omega); omega))
          refine lv_aload_n hx hb dX9_sells_114 rfl (lv_at hl 2 rfl) ?_
          have f121 : w116 64 = .inr (7, [.ref (ad 65), .ref (ad 66), .ref (ad 67), .ref (ad 68), .long x38, .long x39, .ref (ad 69), .int t40, .ref (ad 70), .ref (ad 71), .int t41, .int t42, .int t43, .int t44, .int t45, .ref (ad 72), .ref (ad 73)]) := by rw [e117, va_up_ne _ _ (by decide)]; exact f109
          refine r_get kc9 X h 64 0 (by decide) rfl f121 (by decide) kv_467 rfl dX9_sells_115 ?_
          refine lv_bipush (v := 6) hx hb dX9_sells_118 (by decide) ?_
          have e122 : g113 6 = 9999 := by rw [← e114, pk_un (by have := cl_of (x := z112) (by omega); omega), ← e102, pk_us]
          refine o_iald (v := 9999) X h 65 0 (by decide) rfl f118 rfl (by unfold vp_in; decide) e122 dX9_sells_120 ?_
          refine lv_iload_n hx hb dX9_sells_121 rfl (lv_at hl 1 rfl) ?_
          obtain ⟨z125, e123⟩ : ∃ z : Int32, (9999 : Int32) - v53 = z := ⟨_, rfl⟩
          refine o_isub (z := z125) hx hb dX9_sells_122 e123 ?_
          exact e_i X h hr hlk dX9_sells_123 ⟨ok119, kx120, trivial⟩
      · have hc62 : (v59).toInt = 4 := i_eq hc62 rfl rfl
        refine lv_aload_n hx hb dX9_sells_58 rfl (lv_at hl 1 rfl) ?_
        refine r_get kc9 X h 64 0 (by decide) rfl f48 (by decide) kv_467 rfl dX9_sells_59 ?_
        refine lv_bipush (v := 8) hx hb dX9_sells_62 (by decide) ?_
        refine lv_iload_n hx hb dX9_sells_64 rfl (lv_at hl 2 rfl) ?_
        obtain ⟨z128, e126, t127⟩ := x_add (x := (8 : Int32)) (y := j) (a := 8) (b := (j).toInt) rfl rfl (by omega) (by omega)
        refine o_iadd (z := z128) hx hb dX9_sells_65 e126 ?_
        obtain ⟨v129, e130⟩ : ∃ z : Int32, g50 (z128).toNatClampNeg = z := ⟨_, rfl⟩
        refine o_iald (v := v129) X h 65 0 (by decide) rfl f52 rfl (in_of (by omega) (by omega)) e130 dX9_sells_66 ?_
        refine lv_goto (tgt := 81) hx hb dX9_sells_67 (by decide) ?_
        obtain ⟨z134, e132⟩ : ∃ z : Int32, v53 + v129 = z := ⟨_, rfl⟩
        refine o_iadd (z := z134) hx hb dX9_sells_81 e132 ?_
        refine lv_istore_n (lv' := [(3, .int z134), (2, .int v53), (0, .ref (ad 64)), (1, .int j)]) hx hb dX9_sells_82 rfl hl (by decide) rfl (fun ls hl => ?_)
        refine lv_aload_n hx hb dX9_sells_83 rfl (lv_at hl 2 rfl) ?_
        refine r_get kc9 X h 64 0 (by decide) rfl f48 (by decide) kv_467 rfl dX9_sells_84 ?_
        refine lv_bipush (v := 6) hx hb dX9_sells_87 (by decide) ?_
        refine lv_iload_n hx hb dX9_sells_89 rfl (lv_at hl 0 rfl) ?_
        refine lv_sipush (v := 9999) hx hb dX9_sells_90 (by decide) ?_
        refine lv_icmp_le (tgt := 102) hx hb dX9_sells_93 (by decide) (fun hc135 => ?_) (fun hc135 => ?_)
        · have hc135 : (z134).toInt ≤ 9999 := i_le hc135 rfl rfl
          refine lv_iload_n hx hb dX9_sells_102 rfl (lv_at hl 0 rfl) ?_
          obtain ⟨g136, e137⟩ : ∃ z : Nat → Int32, upd g50 6 z134 = z := ⟨_, rfl⟩
          have p138 : alA g136 := alA_upd p51 e137 (by decide)
          refine o_iast (f1 := g136) X hD h 65 0 (by decide) rfl f52 rfl (by unfold vp_in; decide) e137 dX9_sells_103 (fun H locs w139 e140 h => ?_)
          have f141 : w139 65 = .inl (cI, 177, .inl g136) := (congrFun e140 _).trans (va_up_self _ _ _)
          have ok142 : OK cI cB cZ cO ad w139 := OK.up ok34 e140 (sA_mk p138)
          have kx143 : KM w w139 := KM.up kx36 e140 f52 (kmA e137 (by decide))
          refine lv_aload_n hx hb dX9_sells_104 rfl (lv_at hl 2 rfl) ?_
          have f144 : w139 64 = .inr (7, [.ref (ad 65), .ref (ad 66), .ref (ad 67), .ref (ad 68), .long x38, .long x39, .ref (ad 69), .int t40, .ref (ad 70), .ref (ad 71), .int t41, .int t42, .int t43, .int t44, .int t45, .ref (ad 72), .ref (ad 73)]) := by rw [e140, va_up_ne _ _ (by decide)]; exact f48
          refine r_get kc9 X h 64 0 (by decide) rfl f144 (by decide) kv_467 rfl dX9_sells_105 ?_
          refine lv_bipush (v := 8) hx hb dX9_sells_108 (by decide) ?_
          refine lv_iload_n hx hb dX9_sells_110 rfl (lv_at hl 3 rfl) ?_
          obtain ⟨z147, e145, t146⟩ := x_add (x := (8 : Int32)) (y := j) (a := 8) (b := (j).toInt) rfl rfl (by omega) (by omega)
          refine o_iadd (z := z147) hx hb dX9_sells_111 e145 ?_
          refine lv_iconst (v := 0) hx hb dX9_sells_112 (by decide) ?_
          obtain ⟨g148, e149⟩ : ∃ z : Nat → Int32, upd g136 (z147).toNatClampNeg (0 : Int32) = z := ⟨_, rfl⟩
          have p150 : alA g148 := alA_upd p138 e149 (by have := cl_of (x := z147) (by omega); omega)
          refine o_iast (f1 := g148) X hD h 65 0 (by decide) rfl f141 rfl (in_of (by omega) (by omega)) e149 dX9_sells_113 (fun H locs w151 e152 h => ?_)
          have f153 : w151 65 = .inl (cI, 177, .inl g148) := (congrFun e152 _).trans (va_up_self _ _ _)
          have ok154 : OK cI cB cZ cO ad w151 := OK.up ok142 e152 (sA_mk p150)
          have kx155 : KM w w151 := KM.up kx143 e152 f141 (kmA e149 (by have := cl_of (x := z147) (by omega); omega))
          refine lv_aload_n hx hb dX9_sells_114 rfl (lv_at hl 2 rfl) ?_
          have f156 : w151 64 = .inr (7, [.ref (ad 65), .ref (ad 66), .ref (ad 67), .ref (ad 68), .long x38, .long x39, .ref (ad 69), .int t40, .ref (ad 70), .ref (ad 71), .int t41, .int t42, .int t43, .int t44, .int t45, .ref (ad 72), .ref (ad 73)]) := by rw [e152, va_up_ne _ _ (by decide)]; exact f144
          refine r_get kc9 X h 64 0 (by decide) rfl f156 (by decide) kv_467 rfl dX9_sells_115 ?_
          refine lv_bipush (v := 6) hx hb dX9_sells_118 (by decide) ?_
          have e157 : g148 6 = z134 := by rw [← e149, pk_un (by have := cl_of (x := z147) (by omega); omega), ← e137, pk_us]
          refine o_iald (v := z134) X h 65 0 (by decide) rfl f153 rfl (by unfold vp_in; decide) e157 dX9_sells_120 ?_
          refine lv_iload_n hx hb dX9_sells_121 rfl (lv_at hl 1 rfl) ?_
          obtain ⟨z160, e158⟩ : ∃ z : Int32, z134 - v53 = z := ⟨_, rfl⟩
          refine o_isub (z := z160) hx hb dX9_sells_122 e158 ?_
          exact e_i X h hr hlk dX9_sells_123 ⟨ok154, kx155, trivial⟩
        · have hc135 : ¬ (z134).toInt ≤ 9999 := i_nle hc135 rfl rfl
          refine lv_sipush (v := 9999) hx hb dX9_sells_96 (by decide) ?_
          refine lv_goto (tgt := 103) hx hb dX9_sells_99 (by decide) ?_
          obtain ⟨g161, e162⟩ : ∃ z : Nat → Int32, upd g50 6 (9999 : Int32) = z := ⟨_, rfl⟩
          have p163 : alA g161 := alA_upd p51 e162 (by decide)
          refine o_iast (f1 := g161) X hD h 65 0 (by decide) rfl f52 rfl (by unfold vp_in; decide) e162 dX9_sells_103 (fun H locs w164 e165 h => ?_)
          have f166 : w164 65 = .inl (cI, 177, .inl g161) := (congrFun e165 _).trans (va_up_self _ _ _)
          have ok167 : OK cI cB cZ cO ad w164 := OK.up ok34 e165 (sA_mk p163)
          have kx168 : KM w w164 := KM.up kx36 e165 f52 (kmA e162 (by decide))
          refine lv_aload_n hx hb dX9_sells_104 rfl (lv_at hl 2 rfl) ?_
          have f169 : w164 64 = .inr (7, [.ref (ad 65), .ref (ad 66), .ref (ad 67), .ref (ad 68), .long x38, .long x39, .ref (ad 69), .int t40, .ref (ad 70), .ref (ad 71), .int t41, .int t42, .int t43, .int t44, .int t45, .ref (ad 72), .ref (ad 73)]) := by rw [e165, va_up_ne _ _ (by decide)]; exact f48
          refine r_get kc9 X h 64 0 (by decide) rfl f169 (by decide) kv_467 rfl dX9_sells_105 ?_
          refine lv_bipush (v := 8) hx hb dX9_sells_108 (by decide) ?_
          refine lv_iload_n hx hb dX9_sells_110 rfl (lv_at hl 3 rfl) ?_
          obtain ⟨z172, e170, t171⟩ := x_add (x := (8 : Int32)) (y := j) (a := 8) (b := (j).toInt) rfl rfl (by omega) (by omega)
          refine o_iadd (z := z172) hx hb dX9_sells_111 e170 ?_
          refine lv_iconst (v := 0) hx hb dX9_sells_112 (by decide) ?_
          obtain ⟨g173, e174⟩ : ∃ z : Nat → Int32, upd g161 (z172).toNatClampNeg (0 : Int32) = z := ⟨_, rfl⟩
          have p175 : alA g173 := alA_upd p163 e174 (by have := cl_of (x := z172) (by omega); omega)
          refine o_iast (f1 := g173) X hD h 65 0 (by decide) rfl f166 rfl (in_of (by omega) (by omega)) e174 dX9_sells_113 (fun H locs w176 e177 h => ?_)
          have f178 : w176 65 = .inl (cI, 177, .inl g173) := (congrFun e177 _).trans (va_up_self _ _ _)
          have ok179 : OK cI cB cZ cO ad w176 := OK.up ok167 e177 (sA_mk p175)
          have kx180 : KM w w176 := KM.up kx168 e177 f166 (kmA e174 (by have := cl_of (x := z172) (by omega); omega))
          refine lv_aload_n hx hb dX9_sells_114 rfl (lv_at hl 2 rfl) ?_
          have f181 : w176 64 = .inr (7, [.ref (ad 65), .ref (ad 66), .ref (ad 67), .ref (ad 68), .long x38, .long x39, .ref (ad 69), .int t40, .ref (ad 70), .ref (ad 71), .int t41, .int t42, .int t43, .int t44, .int t45, .ref (ad 72), .ref (ad 73)]) := by rw [e177, va_up_ne _ _ (by decide)]; exact f169
          refine r_get kc9 X h 64 0 (by decide) rfl f181 (by decide) kv_467 rfl dX9_sells_115 ?_
          refine lv_bipush (v := 6) hx hb dX9_sells_118 (by decide) ?_
          have e182 : g173 6 = 9999 := by rw [← e174, pk_un (by have := cl_of (x := z172) (by omega); omega), ← e162, pk_us]
          refine o_iald (v := 9999) X h 65 0 (by decide) rfl f178 rfl (by unfold vp_in; decide) e182 dX9_sells_120 ?_
          refine lv_iload_n hx hb dX9_sells_121 rfl (lv_at hl 1 rfl) ?_
          obtain ⟨z185, e183⟩ : ∃ z : Int32, (9999 : Int32) - v53 = z := ⟨_, rfl⟩
          refine o_isub (z := z185) hx hb dX9_sells_122 e183 ?_
          exact e_i X h hr hlk dX9_sells_123 ⟨ok179, kx180, trivial⟩
    · have hc29 : (v26).toInt = 0 := i_eq hc29 rfl rfl
      refine lv_aload_n hx hb dX9_sells_27 rfl (lv_at hl 0 rfl) ?_
      refine n_Vi (na := 0) (As := []) (rest := []) X hD hN h rfl (c_M_no l G cI cB cZ cO ad w  ok   ) ⟨kv_545, kv_546, kv_547, kv_470, kv_548⟩ rfl ⟨by decide, by decide, by decide⟩ ⟨Nat.le_of_ble_eq_true rfl, Nat.le_of_ble_eq_true rfl⟩ ⟨Nat.zero_le _, Nat.zero_le _⟩ (by decide) f15 rfl rfl hl.1 rfl (Nat.le_of_ble_eq_true rfl) dX9_sells_28 (fun r186 w187 H locs hp188 h => ?_)
      obtain ⟨ok190, kk191, hr189⟩ := hp188
      have kx192 : KM w w187 := kk191
      subst hr189
      exact e_i X h hr hlk dX9_sells_31 ⟨ok190, kx192, trivial⟩
  · refine lv_if_ne (tgt := 15) hx hb dX9_sells_5 (by decide) (fun hc => absurd (by decide) hc) (fun _ => ?_)
    refine lv_aload_n hx hb dX9_sells_8 rfl (lv_at hl 0 rfl) ?_
    refine lv_bipush (v := (-2)) hx hb dX9_sells_9 (by decide) ?_
    refine n_Vi (na := 1) (As := [.int (-2)]) (rest := []) X hD hN h rfl (c_M_bad l G cI cB cZ cO ad w  ok ((-2) : Int32)  ) ⟨kv_553, kv_554, kv_555, kv_470, kv_556⟩ rfl ⟨by decide, by decide, by decide⟩ ⟨Nat.le_of_ble_eq_true rfl, Nat.le_of_ble_eq_true rfl⟩ ⟨Nat.zero_le _, Nat.zero_le _⟩ (by decide) f15 rfl rfl hl.1 rfl (Nat.le_of_ble_eq_true rfl) dX9_sells_11 (fun r193 w194 H locs hp195 h => ?_)
    obtain ⟨ok197, kk198, hr196⟩ := hp195
    have kx199 : KM w w194 := kk198
    subst hr196
    exact e_i X h hr hlk dX9_sells_14 ⟨ok197, kx199, trivial⟩

set_option maxHeartbeats 4000000 in
set_option maxRecDepth 100000 in
theorem c_M_hours_ (l : Launch) (G : va_G) (cI cB cZ cO : ClassId) (ad : Nat → Nat) (w : Nat → va_E)  (ok : OK cI cB cZ cO ad w) (n : Int32)   : NI l G (tyq cI cB cZ cO) yX9_hours cX9_hours 2 (some .int) 4 89 74 ad w [.ref (ad 64), .int n] (fun r w1 => OK cI cB cZ cO ad w1 ∧ KM w w1 ∧ True) := by
  refine nk_i (own := "NoonShadeModel") rfl (by decide) (Nat.le_of_ble_eq_true rfl) ?_
  intro p e s m below meth c ls X hD hN hr hlk h hl
  have hx := X.1.1
  have hb := X.1.2.1
  have hown := X.1.2.2.2.1
  have hts := X.1.2.2.2.2
  have hl : lv_has ls 2 [(0, .ref (ad 64)), (1, .int n)] := hl
  refine lv_iload_n hx hb dX9_hours_0 rfl (lv_at hl 1 rfl) ?_
  obtain ⟨z1, e2⟩ : ∃ z : Int64, n.toInt64 = z := ⟨_, rfl⟩
  have tz1 : z1.toInt = (n).toInt := by rw [← e2]; exact Int32.toInt_toInt64 _
  refine lv_i2l (v := z1) hx hb dX9_hours_1 e2 ?_
  refine lv_lconst (v := 1) hx hb dX9_hours_2 (by decide) ?_
  refine lv_ldc2 (v := 60) hx hb hown (hts _ kv_476) dX9_hours_3 ?_
  refine n_Si (na := 3) (As := [.long z1, .long 1, .long 60]) (rest := []) X hD hN h (c_M_in l G cI cB cZ cO ad w z1 (1 : Int64) (60 : Int64) ((n).toInt) 1 60 tz1 rfl rfl) ⟨kv_468, kv_469, kv_470, kv_471⟩ ⟨by decide, by decide, by decide⟩ ⟨Nat.le_of_ble_eq_true rfl, Nat.le_of_ble_eq_true rfl⟩ ⟨Nat.zero_le _, Nat.zero_le _⟩ rfl hl.1 rfl (Nat.le_of_ble_eq_true rfl) dX9_hours_6 (fun r3 w4 H locs hp5 h => ?_)
  obtain ⟨rfl, hq6⟩ := hp5
  rcases hq6 with ⟨hq7, hq8, rfl⟩ | ⟨hq6, rfl⟩
  · refine lv_if_ne (tgt := 19) hx hb dX9_hours_9 (by decide) (fun _ => ?_) (fun hc => absurd hc (by decide))
    refine lv_aload_n hx hb dX9_hours_19 rfl (lv_at hl 0 rfl) ?_
    obtain ⟨x13, x14, t15, t16, t17, t18, t19, t20, f12, h21, h22⟩ := (show sM ad (w 64) from ok 64 (by decide))
    have f23 : w 64 = .inr (7, [.ref (ad 65), .ref (ad 66), .ref (ad 67), .ref (ad 68), .long x13, .long x14, .ref (ad 69), .int t15, .ref (ad 70), .ref (ad 71), .int t16, .int t17, .int t18, .int t19, .int t20, .ref (ad 72), .ref (ad 73)]) := f12
    refine n_Vv (na := 0) (As := []) (rest := []) X hD hN h rfl (c_M_save l G cI cB cZ cO ad w  ok   ) ⟨kv_549, kv_550, kv_551, kv_470, kv_552⟩ rfl ⟨by decide, by decide, by decide⟩ ⟨Nat.le_of_ble_eq_true rfl, Nat.le_of_ble_eq_true rfl⟩ ⟨Nat.zero_le _, Nat.zero_le _⟩ (by decide) f23 rfl rfl hl.1 rfl (Nat.le_of_ble_eq_true rfl) dX9_hours_20 (fun w10 H locs hp11 h => ?_)
    obtain ⟨ok25, kk26, hr24⟩ := hp11
    have kx27 : KM w w10 := kk26
    refine lv_aload_n hx hb dX9_hours_23 rfl (lv_at hl 0 rfl) ?_
    obtain ⟨x29, x30, t31, t32, t33, t34, t35, t36, f28, h37, h38⟩ := (show sM ad (w10 64) from ok25 64 (by decide))
    have f39 : w10 64 = .inr (7, [.ref (ad 65), .ref (ad 66), .ref (ad 67), .ref (ad 68), .long x29, .long x30, .ref (ad 69), .int t31, .ref (ad 70), .ref (ad 71), .int t32, .int t33, .int t34, .int t35, .int t36, .ref (ad 72), .ref (ad 73)]) := f28
    refine r_get kc9 X h 64 0 (by decide) rfl f39 (by decide) kv_467 rfl dX9_hours_24 ?_
    refine lv_iload_n hx hb dX9_hours_27 rfl (lv_at hl 1 rfl) ?_
    refine n_Sv (na := 2) (As := [.ref (ad 65), .int n]) (rest := []) X hD hN h (c_M_goHours l G cI cB cZ cO ad w10 65 (Or.inl rfl) ok25 n  ) ⟨kv_560, kv_561, kv_470, kv_562⟩ ⟨by decide, by decide, by decide⟩ ⟨Nat.le_of_ble_eq_true rfl, Nat.le_of_ble_eq_true rfl⟩ ⟨Nat.zero_le _, Nat.zero_le _⟩ rfl hl.1 rfl (Nat.le_of_ble_eq_true rfl) dX9_hours_28 (fun w41 H locs hp42 h => ?_)
    obtain ⟨ok44, kk45, hr43⟩ := hp42
    have kx46 : KM w w41 := KM.tr kx27 kk45.1
    refine lv_aload_n hx hb dX9_hours_31 rfl (lv_at hl 0 rfl) ?_
    have f47 : w41 64 = .inr (7, [.ref (ad 65), .ref (ad 66), .ref (ad 67), .ref (ad 68), .long x29, .long x30, .ref (ad 69), .int t31, .ref (ad 70), .ref (ad 71), .int t32, .int t33, .int t34, .int t35, .int t36, .ref (ad 72), .ref (ad 73)]) := (kk45.2 64 (by decide)).trans f39
    refine r_get kc9 X h 64 0 (by decide) rfl f47 (by decide) kv_467 rfl dX9_hours_32 ?_
    refine lv_iconst (v := 5) hx hb dX9_hours_35 (by decide) ?_
    obtain ⟨g49, f48, p50⟩ := (show sA cI 177 (alA) (w41 65) from ok44 65 (by decide))
    have f51 : w41 65 = .inl (cI, 177, .inl g49) := f48
    obtain ⟨v52, e53⟩ : ∃ z : Int32, g49 5 = z := ⟨_, rfl⟩
    refine o_iald (v := v52) X h 65 0 (by decide) rfl f51 rfl (by unfold vp_in; decide) e53 dX9_hours_36 ?_
    exact e_i X h hr hlk dX9_hours_37 ⟨ok44, kx46, trivial⟩
  · refine lv_if_ne (tgt := 19) hx hb dX9_hours_9 (by decide) (fun hc => absurd (by decide) hc) (fun _ => ?_)
    refine lv_aload_n hx hb dX9_hours_12 rfl (lv_at hl 0 rfl) ?_
    refine lv_bipush (v := (-2)) hx hb dX9_hours_13 (by decide) ?_
    obtain ⟨x59, x60, t61, t62, t63, t64, t65, t66, f58, h67, h68⟩ := (show sM ad (w 64) from ok 64 (by decide))
    have f69 : w 64 = .inr (7, [.ref (ad 65), .ref (ad 66), .ref (ad 67), .ref (ad 68), .long x59, .long x60, .ref (ad 69), .int t61, .ref (ad 70), .ref (ad 71), .int t62, .int t63, .int t64, .int t65, .int t66, .ref (ad 72), .ref (ad 73)]) := f58
    refine n_Vi (na := 1) (As := [.int (-2)]) (rest := []) X hD hN h rfl (c_M_bad l G cI cB cZ cO ad w  ok ((-2) : Int32)  ) ⟨kv_553, kv_554, kv_555, kv_470, kv_556⟩ rfl ⟨by decide, by decide, by decide⟩ ⟨Nat.le_of_ble_eq_true rfl, Nat.le_of_ble_eq_true rfl⟩ ⟨Nat.zero_le _, Nat.zero_le _⟩ (by decide) f69 rfl rfl hl.1 rfl (Nat.le_of_ble_eq_true rfl) dX9_hours_15 (fun r55 w56 H locs hp57 h => ?_)
    obtain ⟨ok71, kk72, hr70⟩ := hp57
    have kx73 : KM w w56 := kk72
    subst hr70
    exact e_i X h hr hlk dX9_hours_18 ⟨ok71, kx73, trivial⟩

set_option maxHeartbeats 4000000 in
set_option maxRecDepth 100000 in
theorem c_M_of_ (l : Launch) (G : va_G) (cI cB cZ cO : ClassId) (ad : Nat → Nat) (w : Nat → va_E)  (ok : OK cI cB cZ cO ad w) (i : Int32) (u : Int32)   : NI l G (tyq cI cB cZ cO) yX9_of cX9_of 3 (some .int) 3 69 74 ad w [.ref (ad 64), .int i, .int u] (fun r w1 => OK cI cB cZ cO ad w1 ∧ KM w w1 ∧ True) := by
  refine nk_i (own := "NoonShadeModel") rfl (by decide) (Nat.le_of_ble_eq_true rfl) ?_
  intro p e s m below meth c ls X hD hN hr hlk h hl
  have hx := X.1.1
  have hb := X.1.2.1
  have hown := X.1.2.2.2.1
  have hts := X.1.2.2.2.2
  have hl : lv_has ls 3 [(0, .ref (ad 64)), (1, .int i), (2, .int u)] := hl
  refine lv_aload_n hx hb dX9_of_0 rfl (lv_at hl 0 rfl) ?_
  refine lv_iload_n hx hb dX9_of_1 rfl (lv_at hl 1 rfl) ?_
  obtain ⟨x5, x6, t7, t8, t9, t10, t11, t12, f4, h13, h14⟩ := (show sM ad (w 64) from ok 64 (by decide))
  have f15 : w 64 = .inr (7, [.ref (ad 65), .ref (ad 66), .ref (ad 67), .ref (ad 68), .long x5, .long x6, .ref (ad 69), .int t7, .ref (ad 70), .ref (ad 71), .int t8, .int t9, .int t10, .int t11, .int t12, .ref (ad 72), .ref (ad 73)]) := f4
  refine n_Vi (na := 1) (As := [.int i]) (rest := []) X hD hN h rfl (c_M_isCaster l G cI cB cZ cO ad w  ok i  ) ⟨kv_519, kv_520, kv_521, kv_470, kv_522⟩ rfl ⟨by decide, by decide, by decide⟩ ⟨Nat.le_of_ble_eq_true rfl, Nat.le_of_ble_eq_true rfl⟩ ⟨Nat.zero_le _, Nat.zero_le _⟩ (by decide) f15 rfl rfl hl.1 rfl (Nat.le_of_ble_eq_true rfl) dX9_of_2 (fun r1 w2 H locs hp3 h => ?_)
  obtain ⟨rfl, hr16⟩ := hp3
  rcases hr16 with ⟨hq17, hq18, rfl⟩ | rfl
  · refine lv_if_eq (tgt := 29) hx hb dX9_of_5 (by decide) (fun hc => absurd hc (by decide)) (fun _ => ?_)
    refine lv_iload_n hx hb dX9_of_8 rfl (lv_at hl 2 rfl) ?_
    obtain ⟨z19, e20⟩ : ∃ z : Int64, u.toInt64 = z := ⟨_, rfl⟩
    have tz19 : z19.toInt = (u).toInt := by rw [← e20]; exact Int32.toInt_toInt64 _
    refine lv_i2l (v := z19) hx hb dX9_of_9 e20 ?_
    refine lv_lconst (v := 0) hx hb dX9_of_10 (by decide) ?_
    refine lv_ldc2 (v := 4) hx hb hown (hts _ kv_563) dX9_of_11 ?_
    refine n_Si (na := 3) (As := [.long z19, .long 0, .long 4]) (rest := []) X hD hN h (c_M_in l G cI cB cZ cO ad w z19 (0 : Int64) (4 : Int64) ((u).toInt) 0 4 tz19 rfl rfl) ⟨kv_468, kv_469, kv_470, kv_471⟩ ⟨by decide, by decide, by decide⟩ ⟨Nat.le_of_ble_eq_true rfl, Nat.le_of_ble_eq_true rfl⟩ ⟨Nat.zero_le _, Nat.zero_le _⟩ rfl hl.1 rfl (Nat.le_of_ble_eq_true rfl) dX9_of_14 (fun r21 w22 H locs hp23 h => ?_)
    obtain ⟨rfl, hq24⟩ := hp23
    rcases hq24 with ⟨hq25, hq26, rfl⟩ | ⟨hq24, rfl⟩
    · refine lv_if_eq (tgt := 29) hx hb dX9_of_17 (by decide) (fun hc => absurd hc (by decide)) (fun _ => ?_)
      refine lv_aload_n hx hb dX9_of_20 rfl (lv_at hl 0 rfl) ?_
      refine lv_iload_n hx hb dX9_of_21 rfl (lv_at hl 1 rfl) ?_
      refine lv_iload_n hx hb dX9_of_22 rfl (lv_at hl 2 rfl) ?_
      refine n_Vi (na := 2) (As := [.int i, .int u]) (rest := []) X hD hN h rfl (c_M_toldCaster l G cI cB cZ cO ad w  ok i u (by omega) (by omega) ) ⟨kv_564, kv_565, kv_566, kv_470, kv_567⟩ rfl ⟨by decide, by decide, by decide⟩ ⟨Nat.le_of_ble_eq_true rfl, Nat.le_of_ble_eq_true rfl⟩ ⟨Nat.zero_le _, Nat.zero_le _⟩ (by decide) f15 rfl rfl hl.1 rfl (Nat.le_of_ble_eq_true rfl) dX9_of_23 (fun r27 w28 H locs hp29 h => ?_)
      obtain ⟨rfl, hr30⟩ := hp29
      refine lv_goto (tgt := 35) hx hb dX9_of_26 (by decide) ?_
      exact e_i X h hr hlk dX9_of_35 ⟨ok, KM.rf, trivial⟩
    · refine lv_if_eq (tgt := 29) hx hb dX9_of_17 (by decide) (fun _ => ?_) (fun hc => absurd (by decide) hc)
      refine lv_aload_n hx hb dX9_of_29 rfl (lv_at hl 0 rfl) ?_
      refine lv_bipush (v := (-2)) hx hb dX9_of_30 (by decide) ?_
      refine n_Vi (na := 1) (As := [.int (-2)]) (rest := []) X hD hN h rfl (c_M_bad l G cI cB cZ cO ad w  ok ((-2) : Int32)  ) ⟨kv_553, kv_554, kv_555, kv_470, kv_556⟩ rfl ⟨by decide, by decide, by decide⟩ ⟨Nat.le_of_ble_eq_true rfl, Nat.le_of_ble_eq_true rfl⟩ ⟨Nat.zero_le _, Nat.zero_le _⟩ (by decide) f15 rfl rfl hl.1 rfl (Nat.le_of_ble_eq_true rfl) dX9_of_32 (fun r31 w32 H locs hp33 h => ?_)
      obtain ⟨ok35, kk36, hr34⟩ := hp33
      have kx37 : KM w w32 := kk36
      subst hr34
      exact e_i X h hr hlk dX9_of_35 ⟨ok35, kx37, trivial⟩
  · refine lv_if_eq (tgt := 29) hx hb dX9_of_5 (by decide) (fun _ => ?_) (fun hc => absurd (by decide) hc)
    refine lv_aload_n hx hb dX9_of_29 rfl (lv_at hl 0 rfl) ?_
    refine lv_bipush (v := (-2)) hx hb dX9_of_30 (by decide) ?_
    refine n_Vi (na := 1) (As := [.int (-2)]) (rest := []) X hD hN h rfl (c_M_bad l G cI cB cZ cO ad w  ok ((-2) : Int32)  ) ⟨kv_553, kv_554, kv_555, kv_470, kv_556⟩ rfl ⟨by decide, by decide, by decide⟩ ⟨Nat.le_of_ble_eq_true rfl, Nat.le_of_ble_eq_true rfl⟩ ⟨Nat.zero_le _, Nat.zero_le _⟩ (by decide) f15 rfl rfl hl.1 rfl (Nat.le_of_ble_eq_true rfl) dX9_of_32 (fun r38 w39 H locs hp40 h => ?_)
    obtain ⟨ok42, kk43, hr41⟩ := hp40
    have kx44 : KM w w39 := kk43
    subst hr41
    exact e_i X h hr hlk dX9_of_35 ⟨ok42, kx44, trivial⟩

set_option maxHeartbeats 4000000 in
set_option maxRecDepth 100000 in
theorem c_M_about_ (l : Launch) (G : va_G) (cI cB cZ cO : ClassId) (ad : Nat → Nat) (w : Nat → va_E)  (ok : OK cI cB cZ cO ad w) (j : Int32) (u : Int32)   : NI l G (tyq cI cB cZ cO) yX9_about cX9_about 3 (some .int) 3 68 74 ad w [.ref (ad 64), .int j, .int u] (fun r w1 => OK cI cB cZ cO ad w1 ∧ KM w w1 ∧ True) := by
  refine nk_i (own := "NoonShadeModel") rfl (by decide) (Nat.le_of_ble_eq_true rfl) ?_
  intro p e s m below meth c ls X hD hN hr hlk h hl
  have hx := X.1.1
  have hb := X.1.2.1
  have hown := X.1.2.2.2.1
  have hts := X.1.2.2.2.2
  have hl : lv_has ls 3 [(0, .ref (ad 64)), (1, .int j), (2, .int u)] := hl
  refine lv_aload_n hx hb dX9_about_0 rfl (lv_at hl 0 rfl) ?_
  refine lv_iload_n hx hb dX9_about_1 rfl (lv_at hl 1 rfl) ?_
  obtain ⟨x5, x6, t7, t8, t9, t10, t11, t12, f4, h13, h14⟩ := (show sM ad (w 64) from ok 64 (by decide))
  have f15 : w 64 = .inr (7, [.ref (ad 65), .ref (ad 66), .ref (ad 67), .ref (ad 68), .long x5, .long x6, .ref (ad 69), .int t7, .ref (ad 70), .ref (ad 71), .int t8, .int t9, .int t10, .int t11, .int t12, .ref (ad 72), .ref (ad 73)]) := f4
  refine n_Vi (na := 1) (As := [.int j]) (rest := []) X hD hN h rfl (c_M_isJar l G cI cB cZ cO ad w  ok j  ) ⟨kv_541, kv_542, kv_543, kv_470, kv_544⟩ rfl ⟨by decide, by decide, by decide⟩ ⟨Nat.le_of_ble_eq_true rfl, Nat.le_of_ble_eq_true rfl⟩ ⟨Nat.zero_le _, Nat.zero_le _⟩ (by decide) f15 rfl rfl hl.1 rfl (Nat.le_of_ble_eq_true rfl) dX9_about_2 (fun r1 w2 H locs hp3 h => ?_)
  obtain ⟨rfl, hr16⟩ := hp3
  rcases hr16 with ⟨hq17, hq18, rfl⟩ | rfl
  · refine lv_if_eq (tgt := 29) hx hb dX9_about_5 (by decide) (fun hc => absurd hc (by decide)) (fun _ => ?_)
    refine lv_iload_n hx hb dX9_about_8 rfl (lv_at hl 2 rfl) ?_
    obtain ⟨z19, e20⟩ : ∃ z : Int64, u.toInt64 = z := ⟨_, rfl⟩
    have tz19 : z19.toInt = (u).toInt := by rw [← e20]; exact Int32.toInt_toInt64 _
    refine lv_i2l (v := z19) hx hb dX9_about_9 e20 ?_
    refine lv_lconst (v := 0) hx hb dX9_about_10 (by decide) ?_
    refine lv_ldc2 (v := 3) hx hb hown (hts _ kv_474) dX9_about_11 ?_
    refine n_Si (na := 3) (As := [.long z19, .long 0, .long 3]) (rest := []) X hD hN h (c_M_in l G cI cB cZ cO ad w z19 (0 : Int64) (3 : Int64) ((u).toInt) 0 3 tz19 rfl rfl) ⟨kv_468, kv_469, kv_470, kv_471⟩ ⟨by decide, by decide, by decide⟩ ⟨Nat.le_of_ble_eq_true rfl, Nat.le_of_ble_eq_true rfl⟩ ⟨Nat.zero_le _, Nat.zero_le _⟩ rfl hl.1 rfl (Nat.le_of_ble_eq_true rfl) dX9_about_14 (fun r21 w22 H locs hp23 h => ?_)
    obtain ⟨rfl, hq24⟩ := hp23
    rcases hq24 with ⟨hq25, hq26, rfl⟩ | ⟨hq24, rfl⟩
    · refine lv_if_eq (tgt := 29) hx hb dX9_about_17 (by decide) (fun hc => absurd hc (by decide)) (fun _ => ?_)
      refine lv_aload_n hx hb dX9_about_20 rfl (lv_at hl 0 rfl) ?_
      refine lv_iload_n hx hb dX9_about_21 rfl (lv_at hl 1 rfl) ?_
      refine lv_iload_n hx hb dX9_about_22 rfl (lv_at hl 2 rfl) ?_
      refine n_Vi (na := 2) (As := [.int j, .int u]) (rest := []) X hD hN h rfl (c_M_toldJar l G cI cB cZ cO ad w  ok j u (by omega) (by omega) ) ⟨kv_568, kv_569, kv_570, kv_470, kv_571⟩ rfl ⟨by decide, by decide, by decide⟩ ⟨Nat.le_of_ble_eq_true rfl, Nat.le_of_ble_eq_true rfl⟩ ⟨Nat.zero_le _, Nat.zero_le _⟩ (by decide) f15 rfl rfl hl.1 rfl (Nat.le_of_ble_eq_true rfl) dX9_about_23 (fun r27 w28 H locs hp29 h => ?_)
      obtain ⟨rfl, hr30⟩ := hp29
      refine lv_goto (tgt := 35) hx hb dX9_about_26 (by decide) ?_
      exact e_i X h hr hlk dX9_about_35 ⟨ok, KM.rf, trivial⟩
    · refine lv_if_eq (tgt := 29) hx hb dX9_about_17 (by decide) (fun _ => ?_) (fun hc => absurd (by decide) hc)
      refine lv_aload_n hx hb dX9_about_29 rfl (lv_at hl 0 rfl) ?_
      refine lv_bipush (v := (-2)) hx hb dX9_about_30 (by decide) ?_
      refine n_Vi (na := 1) (As := [.int (-2)]) (rest := []) X hD hN h rfl (c_M_bad l G cI cB cZ cO ad w  ok ((-2) : Int32)  ) ⟨kv_553, kv_554, kv_555, kv_470, kv_556⟩ rfl ⟨by decide, by decide, by decide⟩ ⟨Nat.le_of_ble_eq_true rfl, Nat.le_of_ble_eq_true rfl⟩ ⟨Nat.zero_le _, Nat.zero_le _⟩ (by decide) f15 rfl rfl hl.1 rfl (Nat.le_of_ble_eq_true rfl) dX9_about_32 (fun r31 w32 H locs hp33 h => ?_)
      obtain ⟨ok35, kk36, hr34⟩ := hp33
      have kx37 : KM w w32 := kk36
      subst hr34
      exact e_i X h hr hlk dX9_about_35 ⟨ok35, kx37, trivial⟩
  · refine lv_if_eq (tgt := 29) hx hb dX9_about_5 (by decide) (fun _ => ?_) (fun hc => absurd (by decide) hc)
    refine lv_aload_n hx hb dX9_about_29 rfl (lv_at hl 0 rfl) ?_
    refine lv_bipush (v := (-2)) hx hb dX9_about_30 (by decide) ?_
    refine n_Vi (na := 1) (As := [.int (-2)]) (rest := []) X hD hN h rfl (c_M_bad l G cI cB cZ cO ad w  ok ((-2) : Int32)  ) ⟨kv_553, kv_554, kv_555, kv_470, kv_556⟩ rfl ⟨by decide, by decide, by decide⟩ ⟨Nat.le_of_ble_eq_true rfl, Nat.le_of_ble_eq_true rfl⟩ ⟨Nat.zero_le _, Nat.zero_le _⟩ (by decide) f15 rfl rfl hl.1 rfl (Nat.le_of_ble_eq_true rfl) dX9_about_32 (fun r38 w39 H locs hp40 h => ?_)
    obtain ⟨ok42, kk43, hr41⟩ := hp40
    have kx44 : KM w w39 := kk43
    subst hr41
    exact e_i X h hr hlk dX9_about_35 ⟨ok42, kx44, trivial⟩

set_option maxHeartbeats 4000000 in
set_option maxRecDepth 100000 in
theorem c_M_gives_ (l : Launch) (G : va_G) (cI cB cZ cO : ClassId) (ad : Nat → Nat) (w : Nat → va_E)  (ok : OK cI cB cZ cO ad w) (i : Int32) (n : Int32)   : NI l G (tyq cI cB cZ cO) yX9_gives cX9_gives 3 (some .int) 2 47 74 ad w [.ref (ad 64), .int i, .int n] (fun r w1 => OK cI cB cZ cO ad w1 ∧ KM w w1 ∧ True) := by
  refine nk_i (own := "NoonShadeModel") rfl (by decide) (Nat.le_of_ble_eq_true rfl) ?_
  intro p e s m below meth c ls X hD hN hr hlk h hl
  have hx := X.1.1
  have hb := X.1.2.1
  have hown := X.1.2.2.2.1
  have hts := X.1.2.2.2.2
  have hl : lv_has ls 3 [(0, .ref (ad 64)), (1, .int i), (2, .int n)] := hl
  refine lv_aload_n hx hb dX9_gives_0 rfl (lv_at hl 0 rfl) ?_
  refine lv_iload_n hx hb dX9_gives_1 rfl (lv_at hl 1 rfl) ?_
  obtain ⟨x5, x6, t7, t8, t9, t10, t11, t12, f4, h13, h14⟩ := (show sM ad (w 64) from ok 64 (by decide))
  have f15 : w 64 = .inr (7, [.ref (ad 65), .ref (ad 66), .ref (ad 67), .ref (ad 68), .long x5, .long x6, .ref (ad 69), .int t7, .ref (ad 70), .ref (ad 71), .int t8, .int t9, .int t10, .int t11, .int t12, .ref (ad 72), .ref (ad 73)]) := f4
  refine n_Vi (na := 1) (As := [.int i]) (rest := []) X hD hN h rfl (c_M_isCaster l G cI cB cZ cO ad w  ok i  ) ⟨kv_519, kv_520, kv_521, kv_470, kv_522⟩ rfl ⟨by decide, by decide, by decide⟩ ⟨Nat.le_of_ble_eq_true rfl, Nat.le_of_ble_eq_true rfl⟩ ⟨Nat.zero_le _, Nat.zero_le _⟩ (by decide) f15 rfl rfl hl.1 rfl (Nat.le_of_ble_eq_true rfl) dX9_gives_2 (fun r1 w2 H locs hp3 h => ?_)
  obtain ⟨rfl, hr16⟩ := hp3
  rcases hr16 with ⟨hq17, hq18, rfl⟩ | rfl
  · refine lv_if_eq (tgt := 32) hx hb dX9_gives_5 (by decide) (fun hc => absurd hc (by decide)) (fun _ => ?_)
    refine lv_iload_n hx hb dX9_gives_8 rfl (lv_at hl 2 rfl) ?_
    obtain ⟨z19, e20⟩ : ∃ z : Int64, n.toInt64 = z := ⟨_, rfl⟩
    have tz19 : z19.toInt = (n).toInt := by rw [← e20]; exact Int32.toInt_toInt64 _
    refine lv_i2l (v := z19) hx hb dX9_gives_9 e20 ?_
    refine lv_lconst (v := 0) hx hb dX9_gives_10 (by decide) ?_
    refine lv_ldc2 (v := 60) hx hb hown (hts _ kv_476) dX9_gives_11 ?_
    refine n_Si (na := 3) (As := [.long z19, .long 0, .long 60]) (rest := []) X hD hN h (c_M_in l G cI cB cZ cO ad w z19 (0 : Int64) (60 : Int64) ((n).toInt) 0 60 tz19 rfl rfl) ⟨kv_468, kv_469, kv_470, kv_471⟩ ⟨by decide, by decide, by decide⟩ ⟨Nat.le_of_ble_eq_true rfl, Nat.le_of_ble_eq_true rfl⟩ ⟨Nat.zero_le _, Nat.zero_le _⟩ rfl hl.1 rfl (Nat.le_of_ble_eq_true rfl) dX9_gives_14 (fun r21 w22 H locs hp23 h => ?_)
    obtain ⟨rfl, hq24⟩ := hp23
    rcases hq24 with ⟨hq25, hq26, rfl⟩ | ⟨hq24, rfl⟩
    · refine lv_if_eq (tgt := 32) hx hb dX9_gives_17 (by decide) (fun hc => absurd hc (by decide)) (fun _ => ?_)
      refine lv_aload_n hx hb dX9_gives_20 rfl (lv_at hl 0 rfl) ?_
      refine r_get kc9 X h 64 0 (by decide) rfl f15 (by decide) kv_467 rfl dX9_gives_21 ?_
      refine lv_iload_n hx hb dX9_gives_24 rfl (lv_at hl 1 rfl) ?_
      refine lv_iload_n hx hb dX9_gives_25 rfl (lv_at hl 2 rfl) ?_
      refine n_Si (na := 3) (As := [.ref (ad 65), .int i, .int n]) (rest := []) X hD hN h (c_M_givesOf l G cI cB cZ cO ad w 65 (Or.inl rfl) ok i n (by omega) (by omega) ) ⟨kv_483, kv_484, kv_470, kv_485⟩ ⟨by decide, by decide, by decide⟩ ⟨Nat.le_of_ble_eq_true rfl, Nat.le_of_ble_eq_true rfl⟩ ⟨Nat.zero_le _, Nat.zero_le _⟩ rfl hl.1 rfl (Nat.le_of_ble_eq_true rfl) dX9_gives_26 (fun r27 w28 H locs hp29 h => ?_)
      obtain ⟨rfl, hr30⟩ := hp29
      refine lv_goto (tgt := 38) hx hb dX9_gives_29 (by decide) ?_
      exact e_i X h hr hlk dX9_gives_38 ⟨ok, KM.rf, trivial⟩
    · refine lv_if_eq (tgt := 32) hx hb dX9_gives_17 (by decide) (fun _ => ?_) (fun hc => absurd (by decide) hc)
      refine lv_aload_n hx hb dX9_gives_32 rfl (lv_at hl 0 rfl) ?_
      refine lv_bipush (v := (-2)) hx hb dX9_gives_33 (by decide) ?_
      refine n_Vi (na := 1) (As := [.int (-2)]) (rest := []) X hD hN h rfl (c_M_bad l G cI cB cZ cO ad w  ok ((-2) : Int32)  ) ⟨kv_553, kv_554, kv_555, kv_470, kv_556⟩ rfl ⟨by decide, by decide, by decide⟩ ⟨Nat.le_of_ble_eq_true rfl, Nat.le_of_ble_eq_true rfl⟩ ⟨Nat.zero_le _, Nat.zero_le _⟩ (by decide) f15 rfl rfl hl.1 rfl (Nat.le_of_ble_eq_true rfl) dX9_gives_35 (fun r31 w32 H locs hp33 h => ?_)
      obtain ⟨ok35, kk36, hr34⟩ := hp33
      have kx37 : KM w w32 := kk36
      subst hr34
      exact e_i X h hr hlk dX9_gives_38 ⟨ok35, kx37, trivial⟩
  · refine lv_if_eq (tgt := 32) hx hb dX9_gives_5 (by decide) (fun _ => ?_) (fun hc => absurd (by decide) hc)
    refine lv_aload_n hx hb dX9_gives_32 rfl (lv_at hl 0 rfl) ?_
    refine lv_bipush (v := (-2)) hx hb dX9_gives_33 (by decide) ?_
    refine n_Vi (na := 1) (As := [.int (-2)]) (rest := []) X hD hN h rfl (c_M_bad l G cI cB cZ cO ad w  ok ((-2) : Int32)  ) ⟨kv_553, kv_554, kv_555, kv_470, kv_556⟩ rfl ⟨by decide, by decide, by decide⟩ ⟨Nat.le_of_ble_eq_true rfl, Nat.le_of_ble_eq_true rfl⟩ ⟨Nat.zero_le _, Nat.zero_le _⟩ (by decide) f15 rfl rfl hl.1 rfl (Nat.le_of_ble_eq_true rfl) dX9_gives_35 (fun r38 w39 H locs hp40 h => ?_)
    obtain ⟨ok42, kk43, hr41⟩ := hp40
    have kx44 : KM w w39 := kk43
    subst hr41
    exact e_i X h hr hlk dX9_gives_38 ⟨ok42, kx44, trivial⟩

set_option maxHeartbeats 4000000 in
set_option maxRecDepth 100000 in
theorem c_M_undo_ (l : Launch) (G : va_G) (cI cB cZ cO : ClassId) (ad : Nat → Nat) (w : Nat → va_E)  (ok : OK cI cB cZ cO ad w)    : NI l G (tyq cI cB cZ cO) yX9_undo cX9_undo 2 (some .int) 1 20 74 ad w [.ref (ad 64)] (fun r w1 => OK cI cB cZ cO ad w1 ∧ KM w w1 ∧ True) := by
  refine nk_i (own := "NoonShadeModel") rfl (by decide) (Nat.le_of_ble_eq_true rfl) ?_
  intro p e s m below meth c ls X hD hN hr hlk h hl
  have hx := X.1.1
  have hb := X.1.2.1
  have hown := X.1.2.2.2.1
  have hts := X.1.2.2.2.2
  have hl : lv_has ls 2 [(0, .ref (ad 64))] := hl
  refine lv_aload_n hx hb dX9_undo_0 rfl (lv_at hl 0 rfl) ?_
  obtain ⟨x2, x3, t4, t5, t6, t7, t8, t9, f1, h10, h11⟩ := (show sM ad (w 64) from ok 64 (by decide))
  have f12 : w 64 = .inr (7, [.ref (ad 65), .ref (ad 66), .ref (ad 67), .ref (ad 68), .long x2, .long x3, .ref (ad 69), .int t4, .ref (ad 70), .ref (ad 71), .int t5, .int t6, .int t7, .int t8, .int t9, .ref (ad 72), .ref (ad 73)]) := f1
  refine r_get kc9 X h 64 0 (by decide) rfl f12 (by decide) kv_467 rfl dX9_undo_1 ?_
  refine lv_iconst (v := 4) hx hb dX9_undo_4 (by decide) ?_
  obtain ⟨g14, f13, p15⟩ := (show sA cI 177 (alA) (w 65) from ok 65 (by decide))
  have f16 : w 65 = .inl (cI, 177, .inl g14) := f13
  obtain ⟨v17, e18⟩ : ∃ z : Int32, g14 4 = z := ⟨_, rfl⟩
  have h19 := (alA_rd p15 e18).2.2.2.2 rfl
  refine o_iald (v := v17) X h 65 0 (by decide) rfl f16 rfl (by unfold vp_in; decide) e18 dX9_undo_5 ?_
  refine lv_if_ne (tgt := 14) hx hb dX9_undo_6 (by decide) (fun hc20 => ?_) (fun hc20 => ?_)
  · have hc20 : ¬ (v17).toInt = 0 := i_ne hc20 rfl rfl
    refine lv_aload_n hx hb dX9_undo_14 rfl (lv_at hl 0 rfl) ?_
    refine r_get kc9 X h 64 0 (by decide) rfl f12 (by decide) kv_467 rfl dX9_undo_15 ?_
    refine lv_iconst (v := 4) hx hb dX9_undo_18 (by decide) ?_
    refine lv_dup2_11 hx hb dX9_undo_19 rfl rfl ?_
    refine o_iald (v := v17) X h 65 0 (by decide) rfl f16 rfl (by unfold vp_in; decide) e18 dX9_undo_20 ?_
    refine lv_iconst (v := 1) hx hb dX9_undo_21 (by decide) ?_
    obtain ⟨z23, e21, t22⟩ := x_sub (x := v17) (y := (1 : Int32)) (a := (v17).toInt) (b := 1) rfl rfl (by omega) (by omega)
    refine o_isub (z := z23) hx hb dX9_undo_22 e21 ?_
    obtain ⟨g24, e25⟩ : ∃ z : Nat → Int32, upd g14 4 z23 = z := ⟨_, rfl⟩
    have p26 : alA g24 := alA_upd5 p15 e25 (by omega) (by first | omega | (simp; omega))
    refine o_iast (f1 := g24) X hD h 65 0 (by decide) rfl f16 rfl (by unfold vp_in; decide) e25 dX9_undo_23 (fun H locs w27 e28 h => ?_)
    have f29 : w27 65 = .inl (cI, 177, .inl g24) := (congrFun e28 _).trans (va_up_self _ _ _)
    have ok30 : OK cI cB cZ cO ad w27 := OK.up ok e28 (sA_mk p26)
    have kx31 : KM w w27 := KM.up KM.rf e28 f16 (kmA e25 (by decide))
    refine lv_iconst (v := 0) hx hb dX9_undo_24 (by decide) ?_
    refine lv_istore_n (lv' := [(1, .int 0), (0, .ref (ad 64))]) hx hb dX9_undo_25 rfl hl (by decide) rfl (fun ls hl => ?_)
    have hloop34 : ∀ (d35 : Nat) (L32 : Int32) (wL33 : Nat → va_E) (H : Heap) (locs : List Loc) (ls : Array Slot), 0 ≤ L32.toInt → L32.toInt ≤ 11 → OK cI cB cZ cO ad wL33 → KM w wL33 → U7 cI wL33 → 11 - L32.toInt < (d35 : Int) → St G 74 ad (wA 74 ad s.heap.size) s.heap wL33 H locs → lv_has ls 2 [(1, .int L32), (0, .ref (ad 64))] → W p l e { frames := 1, cells := 0, slots := 0, locals := 20 } s m [.ref (ad 64)].toArray below meth c H locs 0 0 (MQ below (va_Qi (fun r w1 => OK cI cB cZ cO ad w1 ∧ KM w w1 ∧ True) (Aft G 74 ad) (wA 74 ad s.heap.size)) [.ref (ad 64)].toArray s 0 0 (wA 74 ad s.heap.size)) (F0 m 26 ls []) := by
      intro d35
      induction d35 with
      | zero => intro L32 wL33 H locs ls hi38 hi39 ok40 kx41 wp43 hm37 h hl; exfalso; omega
      | succ d35 ih36 =>
        intro L32 wL33 H locs ls hi38 hi39 ok40 kx41 wp43 hm37 h hl
        obtain ⟨g44, f45, p46, h47⟩ := wp43
        obtain ⟨v48, e49⟩ : ∃ z : Int32, g44 4 = z := ⟨_, rfl⟩
        rw [e49] at h47
        have h50 := (alA_rd p46 e49).2.2.2.2 rfl
        refine lv_iload_n hx hb dX9_undo_26 rfl (lv_at hl 0 rfl) ?_
        refine lv_bipush (v := 11) hx hb dX9_undo_27 (by decide) ?_
        refine lv_icmp_ge (tgt := 65) hx hb dX9_undo_29 (by decide) (fun hc51 => ?_) (fun hc51 => ?_)
        · have hc51 : 11 ≤ (L32).toInt := i_le hc51 rfl rfl
          refine lv_aload_n hx hb dX9_undo_65 rfl (lv_at hl 1 rfl) ?_
          obtain ⟨x53, x54, t55, t56, t57, t58, t59, t60, f52, h61, h62⟩ := (show sM ad (wL33 64) from ok40 64 (by decide))
          have f63 : wL33 64 = .inr (7, [.ref (ad 65), .ref (ad 66), .ref (ad 67), .ref (ad 68), .long x53, .long x54, .ref (ad 69), .int t55, .ref (ad 70), .ref (ad 71), .int t56, .int t57, .int t58, .int t59, .int t60, .ref (ad 72), .ref (ad 73)]) := f52
          refine r_get kc9 X h 64 0 (by decide) rfl f63 (by decide) kv_467 rfl dX9_undo_66 ?_
          refine lv_iconst (v := 5) hx hb dX9_undo_69 (by decide) ?_
          obtain ⟨v64, e65⟩ : ∃ z : Int32, g44 5 = z := ⟨_, rfl⟩
          refine o_iald (v := v64) X h 65 0 (by decide) rfl f45 rfl (by unfold vp_in; decide) e65 dX9_undo_70 ?_
          exact e_i X h hr hlk dX9_undo_71 ⟨ok40, kx41, trivial⟩
        · have hc51 : ¬ 11 ≤ (L32).toInt := i_nle hc51 rfl rfl
          refine lv_aload_n hx hb dX9_undo_32 rfl (lv_at hl 1 rfl) ?_
          obtain ⟨x68, x69, t70, t71, t72, t73, t74, t75, f67, h76, h77⟩ := (show sM ad (wL33 64) from ok40 64 (by decide))
          have f78 : wL33 64 = .inr (7, [.ref (ad 65), .ref (ad 66), .ref (ad 67), .ref (ad 68), .long x68, .long x69, .ref (ad 69), .int t70, .ref (ad 70), .ref (ad 71), .int t71, .int t72, .int t73, .int t74, .int t75, .ref (ad 72), .ref (ad 73)]) := f67
          refine r_get kc9 X h 64 0 (by decide) rfl f78 (by decide) kv_467 rfl dX9_undo_33 ?_
          refine lv_iconst (v := 5) hx hb dX9_undo_36 (by decide) ?_
          refine lv_iload_n hx hb dX9_undo_37 rfl (lv_at hl 0 rfl) ?_
          obtain ⟨z81, e79, t80⟩ := x_add (x := (5 : Int32)) (y := L32) (a := 5) (b := (L32).toInt) rfl rfl (by omega) (by omega)
          refine o_iadd (z := z81) hx hb dX9_undo_38 e79 ?_
          refine lv_aload_n hx hb dX9_undo_39 rfl (lv_at hl 1 rfl) ?_
          refine r_get kc9 X h 64 0 (by decide) rfl f78 (by decide) kv_467 rfl dX9_undo_40 ?_
          refine lv_bipush (v := 89) hx hb dX9_undo_43 (by decide) ?_
          refine lv_bipush (v := 11) hx hb dX9_undo_45 (by decide) ?_
          refine lv_aload_n hx hb dX9_undo_47 rfl (lv_at hl 1 rfl) ?_
          refine r_get kc9 X h 64 0 (by decide) rfl f78 (by decide) kv_467 rfl dX9_undo_48 ?_
          refine lv_iconst (v := 4) hx hb dX9_undo_51 (by decide) ?_
          refine o_iald (v := v48) X h 65 0 (by decide) rfl f45 rfl (by unfold vp_in; decide) e49 dX9_undo_52 ?_
          obtain ⟨z84, e82, t83⟩ := x_mul (x := (11 : Int32)) (y := v48) (a := 11) (b := (v48).toInt) rfl rfl (by omega) (by omega)
          refine o_imul (z := z84) hx hb dX9_undo_53 e82 ?_
          obtain ⟨z87, e85, t86⟩ := x_add (x := (89 : Int32)) (y := z84) (a := 89) (b := (z84).toInt) rfl rfl (by omega) (by omega)
          refine o_iadd (z := z87) hx hb dX9_undo_54 e85 ?_
          refine lv_iload_n hx hb dX9_undo_55 rfl (lv_at hl 0 rfl) ?_
          obtain ⟨z90, e88, t89⟩ := x_add (x := z87) (y := L32) (a := (z87).toInt) (b := (L32).toInt) rfl rfl (by omega) (by omega)
          refine o_iadd (z := z90) hx hb dX9_undo_56 e88 ?_
          obtain ⟨v91, e92⟩ : ∃ z : Int32, g44 (z90).toNatClampNeg = z := ⟨_, rfl⟩
          refine o_iald (v := v91) X h 65 0 (by decide) rfl f45 rfl (in_of (by omega) (by omega)) e92 dX9_undo_57 ?_
          obtain ⟨g94, e95⟩ : ∃ z : Nat → Int32, upd g44 (z81).toNatClampNeg v91 = z := ⟨_, rfl⟩
          have p96 : alA g94 := alA_upd p46 e95 (by have := cl_of (x := z81) (by omega); omega)
          refine o_iast (f1 := g94) X hD h 65 0 (by decide) rfl f45 rfl (in_of (by omega) (by omega)) e95 dX9_undo_58 (fun H locs w97 e98 h => ?_)
          have f99 : w97 65 = .inl (cI, 177, .inl g94) := (congrFun e98 _).trans (va_up_self _ _ _)
          have ok100 : OK cI cB cZ cO ad w97 := OK.up ok40 e98 (sA_mk p96)
          have kx101 : KM w w97 := KM.up kx41 e98 f45 (kmA e95 (by have := cl_of (x := z81) (by omega); omega))
          obtain ⟨z102, e103, t104⟩ := x_add (x := L32) (y := 1) (a := L32.toInt) (b := 1) rfl rfl (by omega) (by omega)
          refine lv_iinc (v := z102) (lv' := [(1, .int z102), (0, .ref (ad 64))]) hx hb dX9_undo_59 hl (k := 0) rfl e103 (by decide) rfl (fun ls hl => ?_)
          refine lv_goto (tgt := 26) hx hb dX9_undo_62 (by decide) ?_
          have e105 : g94 4 = v48 := by rw [← e95, pk_un (by have := cl_of (x := z81) (by omega); omega)]; exact e49
          exact ih36  z102 w97 _ _ _ (by omega) (by omega) ok100 kx101 ⟨g94, f99, p96, by rw [e105]; first | omega | decide⟩ (by omega) h (lv_sub hl [0, 1] rfl)
    have e106 : g24 4 = z23 := by rw [← e25, pk_us]
    exact hloop34 12 (0 : Int32) w27 _ _ _ (by have q0 : (0 : Int32).toInt = 0 := rfl; omega) (by have q0 : (0 : Int32).toInt = 0 := rfl; omega) ok30 kx31 ⟨g24, f29, p26, by rw [e106]; first | omega | decide⟩ (by have q0 : (0 : Int32).toInt = 0 := rfl; omega) h (lv_sub hl [0, 1] rfl)
  · have hc20 : (v17).toInt = 0 := i_eq hc20 rfl rfl
    refine lv_aload_n hx hb dX9_undo_9 rfl (lv_at hl 0 rfl) ?_
    refine n_Vi (na := 0) (As := []) (rest := []) X hD hN h rfl (c_M_no l G cI cB cZ cO ad w  ok   ) ⟨kv_545, kv_546, kv_547, kv_470, kv_548⟩ rfl ⟨by decide, by decide, by decide⟩ ⟨Nat.le_of_ble_eq_true rfl, Nat.le_of_ble_eq_true rfl⟩ ⟨Nat.zero_le _, Nat.zero_le _⟩ (by decide) f12 rfl rfl hl.1 rfl (Nat.le_of_ble_eq_true rfl) dX9_undo_10 (fun r107 w108 H locs hp109 h => ?_)
    obtain ⟨ok111, kk112, hr110⟩ := hp109
    have kx113 : KM w w108 := kk112
    subst hr110
    exact e_i X h hr hlk dX9_undo_13 ⟨ok111, kx113, trivial⟩

set_option maxHeartbeats 4000000 in
set_option maxRecDepth 100000 in
theorem c_M_keeps_ (l : Launch) (G : va_G) (cI cB cZ cO : ClassId) (ad : Nat → Nat) (w : Nat → va_E)  (ok : OK cI cB cZ cO ad w) (j : Int32) (n : Int32)   : NI l G (tyq cI cB cZ cO) yX9_keeps cX9_keeps 4 (some .int) 3 67 74 ad w [.ref (ad 64), .int j, .int n] (fun r w1 => OK cI cB cZ cO ad w1 ∧ KM w w1 ∧ True) := by
  refine nk_i (own := "NoonShadeModel") rfl (by decide) (Nat.le_of_ble_eq_true rfl) ?_
  intro p e s m below meth c ls X hD hN hr hlk h hl
  have hx := X.1.1
  have hb := X.1.2.1
  have hown := X.1.2.2.2.1
  have hts := X.1.2.2.2.2
  have hl : lv_has ls 4 [(0, .ref (ad 64)), (1, .int j), (2, .int n)] := hl
  refine lv_aload_n hx hb dX9_keeps_0 rfl (lv_at hl 0 rfl) ?_
  refine lv_iload_n hx hb dX9_keeps_1 rfl (lv_at hl 1 rfl) ?_
  obtain ⟨x5, x6, t7, t8, t9, t10, t11, t12, f4, h13, h14⟩ := (show sM ad (w 64) from ok 64 (by decide))
  have f15 : w 64 = .inr (7, [.ref (ad 65), .ref (ad 66), .ref (ad 67), .ref (ad 68), .long x5, .long x6, .ref (ad 69), .int t7, .ref (ad 70), .ref (ad 71), .int t8, .int t9, .int t10, .int t11, .int t12, .ref (ad 72), .ref (ad 73)]) := f4
  refine n_Vi (na := 1) (As := [.int j]) (rest := []) X hD hN h rfl (c_M_isJar l G cI cB cZ cO ad w  ok j  ) ⟨kv_541, kv_542, kv_543, kv_470, kv_544⟩ rfl ⟨by decide, by decide, by decide⟩ ⟨Nat.le_of_ble_eq_true rfl, Nat.le_of_ble_eq_true rfl⟩ ⟨Nat.zero_le _, Nat.zero_le _⟩ (by decide) f15 rfl rfl hl.1 rfl (Nat.le_of_ble_eq_true rfl) dX9_keeps_2 (fun r1 w2 H locs hp3 h => ?_)
  obtain ⟨rfl, hr16⟩ := hp3
  rcases hr16 with ⟨hq17, hq18, rfl⟩ | rfl
  · refine lv_if_eq (tgt := 20) hx hb dX9_keeps_5 (by decide) (fun hc => absurd hc (by decide)) (fun _ => ?_)
    refine lv_iload_n hx hb dX9_keeps_8 rfl (lv_at hl 2 rfl) ?_
    obtain ⟨z19, e20⟩ : ∃ z : Int64, n.toInt64 = z := ⟨_, rfl⟩
    have tz19 : z19.toInt = (n).toInt := by rw [← e20]; exact Int32.toInt_toInt64 _
    refine lv_i2l (v := z19) hx hb dX9_keeps_9 e20 ?_
    refine lv_lconst (v := 0) hx hb dX9_keeps_10 (by decide) ?_
    refine lv_ldc2 (v := 60) hx hb hown (hts _ kv_476) dX9_keeps_11 ?_
    refine n_Si (na := 3) (As := [.long z19, .long 0, .long 60]) (rest := []) X hD hN h (c_M_in l G cI cB cZ cO ad w z19 (0 : Int64) (60 : Int64) ((n).toInt) 0 60 tz19 rfl rfl) ⟨kv_468, kv_469, kv_470, kv_471⟩ ⟨by decide, by decide, by decide⟩ ⟨Nat.le_of_ble_eq_true rfl, Nat.le_of_ble_eq_true rfl⟩ ⟨Nat.zero_le _, Nat.zero_le _⟩ rfl hl.1 rfl (Nat.le_of_ble_eq_true rfl) dX9_keeps_14 (fun r21 w22 H locs hp23 h => ?_)
    obtain ⟨rfl, hq24⟩ := hp23
    rcases hq24 with ⟨hq25, hq26, rfl⟩ | ⟨hq24, rfl⟩
    · refine lv_if_ne (tgt := 27) hx hb dX9_keeps_17 (by decide) (fun _ => ?_) (fun hc => absurd hc (by decide))
      refine lv_aload_n hx hb dX9_keeps_27 rfl (lv_at hl 0 rfl) ?_
      refine n_Vv (na := 0) (As := []) (rest := []) X hD hN h rfl (c_M_layHand l G cI cB cZ cO ad w  ok   ) ⟨kv_503, kv_504, kv_505, kv_470, kv_506⟩ rfl ⟨by decide, by decide, by decide⟩ ⟨Nat.le_of_ble_eq_true rfl, Nat.le_of_ble_eq_true rfl⟩ ⟨Nat.zero_le _, Nat.zero_le _⟩ (by decide) f15 rfl rfl hl.1 rfl (Nat.le_of_ble_eq_true rfl) dX9_keeps_28 (fun w28 H locs hp29 h => ?_)
      obtain ⟨ok31, kk32, hr30⟩ := hp29
      have kx33 : KM w w28 := kk32
      refine lv_iconst (v := 0) hx hb dX9_keeps_31 (by decide) ?_
      refine lv_istore_n (lv' := [(3, .int 0), (0, .ref (ad 64)), (1, .int j), (2, .int n)]) hx hb dX9_keeps_32 rfl hl (by decide) rfl (fun ls hl => ?_)
      have hloop36 : ∀ (d37 : Nat) (L34 : Int32) (wL35 : Nat → va_E) (H : Heap) (locs : List Loc) (ls : Array Slot), 0 ≤ L34.toInt → L34.toInt ≤ 60 → OK cI cB cZ cO ad wL35 → KM w wL35 → 60 - L34.toInt < (d37 : Int) → St G 74 ad (wA 74 ad s.heap.size) s.heap wL35 H locs → lv_has ls 4 [(3, .int L34), (0, .ref (ad 64)), (1, .int j), (2, .int n)] → W p l e { frames := 3, cells := 0, slots := 0, locals := 67 } s m [.ref (ad 64), .int j, .int n].toArray below meth c H locs 0 0 (MQ below (va_Qi (fun r w1 => OK cI cB cZ cO ad w1 ∧ KM w w1 ∧ True) (Aft G 74 ad) (wA 74 ad s.heap.size)) [.ref (ad 64), .int j, .int n].toArray s 0 0 (wA 74 ad s.heap.size)) (F0 m 33 ls []) := by
        intro d37
        induction d37 with
        | zero => intro L34 wL35 H locs ls hi40 hi41 ok42 kx43 hm39 h hl; exfalso; omega
        | succ d37 ih38 =>
          intro L34 wL35 H locs ls hi40 hi41 ok42 kx43 hm39 h hl
          refine lv_iload_n hx hb dX9_keeps_33 rfl (lv_at hl 0 rfl) ?_
          refine lv_iload_n hx hb dX9_keeps_34 rfl (lv_at hl 3 rfl) ?_
          refine lv_icmp_ge (tgt := 51) hx hb dX9_keeps_35 (by decide) (fun hc45 => ?_) (fun hc45 => ?_)
          · have hc45 : (n).toInt ≤ (L34).toInt := i_le hc45 rfl rfl
            refine lv_aload_n hx hb dX9_keeps_51 rfl (lv_at hl 1 rfl) ?_
            obtain ⟨x47, x48, t49, t50, t51, t52, t53, t54, f46, h55, h56⟩ := (show sM ad (wL35 64) from ok42 64 (by decide))
            have f57 : wL35 64 = .inr (7, [.ref (ad 65), .ref (ad 66), .ref (ad 67), .ref (ad 68), .long x47, .long x48, .ref (ad 69), .int t49, .ref (ad 70), .ref (ad 71), .int t50, .int t51, .int t52, .int t53, .int t54, .ref (ad 72), .ref (ad 73)]) := f46
            refine r_get kc9 X h 64 6 (by decide) rfl f57 (by decide) kv_495 rfl dX9_keeps_52 ?_
            refine lv_bipush (v := 8) hx hb dX9_keeps_55 (by decide) ?_
            refine lv_iload_n hx hb dX9_keeps_57 rfl (lv_at hl 2 rfl) ?_
            obtain ⟨z60, e58, t59⟩ := x_add (x := (8 : Int32)) (y := j) (a := 8) (b := (j).toInt) rfl rfl (by omega) (by omega)
            refine o_iadd (z := z60) hx hb dX9_keeps_58 e58 ?_
            obtain ⟨g62, f61, p63⟩ := (show sA cI 41 (alA) (wL35 69) from ok42 69 (by decide))
            have f64 : wL35 69 = .inl (cI, 41, .inl g62) := f61
            obtain ⟨v65, e66⟩ : ∃ z : Int32, g62 (z60).toNatClampNeg = z := ⟨_, rfl⟩
            refine o_iald (v := v65) X h 69 0 (by decide) rfl f64 rfl (in_of (by omega) (by omega)) e66 dX9_keeps_59 ?_
            exact e_i X h hr hlk dX9_keeps_60 ⟨ok42, kx43, trivial⟩
          · have hc45 : ¬ (n).toInt ≤ (L34).toInt := i_nle hc45 rfl rfl
            refine lv_aload_n hx hb dX9_keeps_38 rfl (lv_at hl 1 rfl) ?_
            obtain ⟨x69, x70, t71, t72, t73, t74, t75, t76, f68, h77, h78⟩ := (show sM ad (wL35 64) from ok42 64 (by decide))
            have f79 : wL35 64 = .inr (7, [.ref (ad 65), .ref (ad 66), .ref (ad 67), .ref (ad 68), .long x69, .long x70, .ref (ad 69), .int t71, .ref (ad 70), .ref (ad 71), .int t72, .int t73, .int t74, .int t75, .int t76, .ref (ad 72), .ref (ad 73)]) := f68
            refine r_get kc9 X h 64 6 (by decide) rfl f79 (by decide) kv_495 rfl dX9_keeps_39 ?_
            refine n_Sv (na := 1) (As := [.ref (ad 69)]) (rest := []) X hD hN h (c_M_goHour l G cI cB cZ cO ad wL35 69 (Or.inr (Or.inl rfl)) ok42   ) ⟨kv_492, kv_493, kv_470, kv_494⟩ ⟨by decide, by decide, by decide⟩ ⟨Nat.le_of_ble_eq_true rfl, Nat.le_of_ble_eq_true rfl⟩ ⟨Nat.zero_le _, Nat.zero_le _⟩ rfl hl.1 rfl (Nat.le_of_ble_eq_true rfl) dX9_keeps_42 (fun w81 H locs hp82 h => ?_)
            obtain ⟨ok84, kk85, hr83⟩ := hp82
            have kx86 : KM w w81 := KM.tr kx43 kk85.1
            obtain ⟨z87, e88, t89⟩ := x_add (x := L34) (y := 1) (a := L34.toInt) (b := 1) rfl rfl (by omega) (by omega)
            refine lv_iinc (v := z87) (lv' := [(3, .int z87), (0, .ref (ad 64)), (1, .int j), (2, .int n)]) hx hb dX9_keeps_45 hl (k := 0) rfl e88 (by decide) rfl (fun ls hl => ?_)
            refine lv_goto (tgt := 33) hx hb dX9_keeps_48 (by decide) ?_
            exact ih38  z87 w81 _ _ _ (by omega) (by omega) ok84 kx86 (by omega) h (lv_sub hl [0, 1, 2, 3] rfl)
      exact hloop36 61 (0 : Int32) w28 _ _ _ (by have q0 : (0 : Int32).toInt = 0 := rfl; omega) (by have q0 : (0 : Int32).toInt = 0 := rfl; omega) ok31 kx33 (by have q0 : (0 : Int32).toInt = 0 := rfl; omega) h (lv_sub hl [0, 1, 2, 3] rfl)
    · refine lv_if_ne (tgt := 27) hx hb dX9_keeps_17 (by decide) (fun hc => absurd (by decide) hc) (fun _ => ?_)
      refine lv_aload_n hx hb dX9_keeps_20 rfl (lv_at hl 0 rfl) ?_
      refine lv_bipush (v := (-2)) hx hb dX9_keeps_21 (by decide) ?_
      refine n_Vi (na := 1) (As := [.int (-2)]) (rest := []) X hD hN h rfl (c_M_bad l G cI cB cZ cO ad w  ok ((-2) : Int32)  ) ⟨kv_553, kv_554, kv_555, kv_470, kv_556⟩ rfl ⟨by decide, by decide, by decide⟩ ⟨Nat.le_of_ble_eq_true rfl, Nat.le_of_ble_eq_true rfl⟩ ⟨Nat.zero_le _, Nat.zero_le _⟩ (by decide) f15 rfl rfl hl.1 rfl (Nat.le_of_ble_eq_true rfl) dX9_keeps_23 (fun r90 w91 H locs hp92 h => ?_)
      obtain ⟨ok94, kk95, hr93⟩ := hp92
      have kx96 : KM w w91 := kk95
      subst hr93
      exact e_i X h hr hlk dX9_keeps_26 ⟨ok94, kx96, trivial⟩
  · refine lv_if_eq (tgt := 20) hx hb dX9_keeps_5 (by decide) (fun _ => ?_) (fun hc => absurd (by decide) hc)
    refine lv_aload_n hx hb dX9_keeps_20 rfl (lv_at hl 0 rfl) ?_
    refine lv_bipush (v := (-2)) hx hb dX9_keeps_21 (by decide) ?_
    refine n_Vi (na := 1) (As := [.int (-2)]) (rest := []) X hD hN h rfl (c_M_bad l G cI cB cZ cO ad w  ok ((-2) : Int32)  ) ⟨kv_553, kv_554, kv_555, kv_470, kv_556⟩ rfl ⟨by decide, by decide, by decide⟩ ⟨Nat.le_of_ble_eq_true rfl, Nat.le_of_ble_eq_true rfl⟩ ⟨Nat.zero_le _, Nat.zero_le _⟩ (by decide) f15 rfl rfl hl.1 rfl (Nat.le_of_ble_eq_true rfl) dX9_keeps_23 (fun r97 w98 H locs hp99 h => ?_)
    obtain ⟨ok101, kk102, hr100⟩ := hp99
    have kx103 : KM w w98 := kk102
    subst hr100
    exact e_i X h hr hlk dX9_keeps_26 ⟨ok101, kx103, trivial⟩

set_option maxHeartbeats 4000000 in
set_option maxRecDepth 100000 in
theorem c_M_when_ (l : Launch) (G : va_G) (cI cB cZ cO : ClassId) (ad : Nat → Nat) (w : Nat → va_E)  (ok : OK cI cB cZ cO ad w) (i : Int32)   : NI l G (tyq cI cB cZ cO) yX9_when cX9_when 4 (some .int) 2 47 74 ad w [.ref (ad 64), .int i] (fun r w1 => OK cI cB cZ cO ad w1 ∧ KM w w1 ∧ True) := by
  refine nk_i (own := "NoonShadeModel") rfl (by decide) (Nat.le_of_ble_eq_true rfl) ?_
  intro p e s m below meth c ls X hD hN hr hlk h hl
  have hx := X.1.1
  have hb := X.1.2.1
  have hown := X.1.2.2.2.1
  have hts := X.1.2.2.2.2
  have hl : lv_has ls 4 [(0, .ref (ad 64)), (1, .int i)] := hl
  refine lv_aload_n hx hb dX9_when_0 rfl (lv_at hl 0 rfl) ?_
  refine lv_iload_n hx hb dX9_when_1 rfl (lv_at hl 1 rfl) ?_
  obtain ⟨x5, x6, t7, t8, t9, t10, t11, t12, f4, h13, h14⟩ := (show sM ad (w 64) from ok 64 (by decide))
  have f15 : w 64 = .inr (7, [.ref (ad 65), .ref (ad 66), .ref (ad 67), .ref (ad 68), .long x5, .long x6, .ref (ad 69), .int t7, .ref (ad 70), .ref (ad 71), .int t8, .int t9, .int t10, .int t11, .int t12, .ref (ad 72), .ref (ad 73)]) := f4
  refine n_Vi (na := 1) (As := [.int i]) (rest := []) X hD hN h rfl (c_M_isCaster l G cI cB cZ cO ad w  ok i  ) ⟨kv_519, kv_520, kv_521, kv_470, kv_522⟩ rfl ⟨by decide, by decide, by decide⟩ ⟨Nat.le_of_ble_eq_true rfl, Nat.le_of_ble_eq_true rfl⟩ ⟨Nat.zero_le _, Nat.zero_le _⟩ (by decide) f15 rfl rfl hl.1 rfl (Nat.le_of_ble_eq_true rfl) dX9_when_2 (fun r1 w2 H locs hp3 h => ?_)
  obtain ⟨rfl, hr16⟩ := hp3
  rcases hr16 with ⟨hq17, hq18, rfl⟩ | rfl
  · refine lv_if_ne (tgt := 15) hx hb dX9_when_5 (by decide) (fun _ => ?_) (fun hc => absurd hc (by decide))
    refine lv_iconst (v := 0) hx hb dX9_when_15 (by decide) ?_
    refine lv_istore_n (lv' := [(2, .int 0), (0, .ref (ad 64)), (1, .int i)]) hx hb dX9_when_16 rfl hl (by decide) rfl (fun ls hl => ?_)
    refine lv_iconst (v := 1) hx hb dX9_when_17 (by decide) ?_
    refine lv_istore_n (lv' := [(3, .int 1), (2, .int 0), (0, .ref (ad 64)), (1, .int i)]) hx hb dX9_when_18 rfl hl (by decide) rfl (fun ls hl => ?_)
    have hloop22 : ∀ (d23 : Nat) (L19 : Int32) (L20 : Int32) (wL21 : Nat → va_E) (H : Heap) (locs : List Loc) (ls : Array Slot), 1 ≤ L19.toInt → L19.toInt ≤ 24 → OK cI cB cZ cO ad wL21 → KM w wL21 → 24 - L19.toInt < (d23 : Int) → St G 74 ad (wA 74 ad s.heap.size) s.heap wL21 H locs → lv_has ls 4 [(3, .int L19), (2, .int L20), (0, .ref (ad 64)), (1, .int i)] → W p l e { frames := 2, cells := 0, slots := 0, locals := 47 } s m [.ref (ad 64), .int i].toArray below meth c H locs 0 0 (MQ below (va_Qi (fun r w1 => OK cI cB cZ cO ad w1 ∧ KM w w1 ∧ True) (Aft G 74 ad) (wA 74 ad s.heap.size)) [.ref (ad 64), .int i].toArray s 0 0 (wA 74 ad s.heap.size)) (F0 m 19 ls []) := by
      intro d23
      induction d23 with
      | zero => intro L19 L20 wL21 H locs ls hi26 hi27 ok28 kx29 hm25 h hl; exfalso; omega
      | succ d23 ih24 =>
        intro L19 L20 wL21 H locs ls hi26 hi27 ok28 kx29 hm25 h hl
        refine lv_iload_n hx hb dX9_when_19 rfl (lv_at hl 0 rfl) ?_
        refine lv_bipush (v := 24) hx hb dX9_when_20 (by decide) ?_
        refine lv_icmp_ge (tgt := 58) hx hb dX9_when_22 (by decide) (fun hc31 => ?_) (fun hc31 => ?_)
        · have hc31 : 24 ≤ (L19).toInt := i_le hc31 rfl rfl
          refine lv_iload_n hx hb dX9_when_58 rfl (lv_at hl 1 rfl) ?_
          exact e_i X h hr hlk dX9_when_59 ⟨ok28, kx29, trivial⟩
        · have hc31 : ¬ 24 ≤ (L19).toInt := i_nle hc31 rfl rfl
          refine lv_aload_n hx hb dX9_when_25 rfl (lv_at hl 2 rfl) ?_
          obtain ⟨x33, x34, t35, t36, t37, t38, t39, t40, f32, h41, h42⟩ := (show sM ad (wL21 64) from ok28 64 (by decide))
          have f43 : wL21 64 = .inr (7, [.ref (ad 65), .ref (ad 66), .ref (ad 67), .ref (ad 68), .long x33, .long x34, .ref (ad 69), .int t35, .ref (ad 70), .ref (ad 71), .int t36, .int t37, .int t38, .int t39, .int t40, .ref (ad 72), .ref (ad 73)]) := f32
          refine r_get kc9 X h 64 0 (by decide) rfl f43 (by decide) kv_467 rfl dX9_when_26 ?_
          refine lv_iload_n hx hb dX9_when_29 rfl (lv_at hl 3 rfl) ?_
          refine lv_iload_n hx hb dX9_when_30 rfl (lv_at hl 0 rfl) ?_
          refine n_Si (na := 3) (As := [.ref (ad 65), .int i, .int L19]) (rest := []) X hD hN h (c_M_givesOf l G cI cB cZ cO ad wL21 65 (Or.inl rfl) ok28 i L19 (by omega) (by omega) ) ⟨kv_483, kv_484, kv_470, kv_485⟩ ⟨by decide, by decide, by decide⟩ ⟨Nat.le_of_ble_eq_true rfl, Nat.le_of_ble_eq_true rfl⟩ ⟨Nat.zero_le _, Nat.zero_le _⟩ rfl hl.1 rfl (Nat.le_of_ble_eq_true rfl) dX9_when_31 (fun r44 w45 H locs hp46 h => ?_)
          obtain ⟨rfl, hr47⟩ := hp46
          refine lv_aload_n hx hb dX9_when_34 rfl (lv_at hl 2 rfl) ?_
          refine r_get kc9 X h 64 0 (by decide) rfl f43 (by decide) kv_467 rfl dX9_when_35 ?_
          refine lv_iload_n hx hb dX9_when_38 rfl (lv_at hl 3 rfl) ?_
          refine lv_iload_n hx hb dX9_when_39 rfl (lv_at hl 1 rfl) ?_
          refine n_Si (na := 3) (As := [.ref (ad 65), .int i, .int L20]) (rest := [.int r44]) X hD hN h (c_M_givesOf l G cI cB cZ cO ad wL21 65 (Or.inl rfl) ok28 i L20 (by omega) (by omega) ) ⟨kv_483, kv_484, kv_470, kv_485⟩ ⟨by decide, by decide, by decide⟩ ⟨Nat.le_of_ble_eq_true rfl, Nat.le_of_ble_eq_true rfl⟩ ⟨Nat.zero_le _, Nat.zero_le _⟩ rfl hl.1 rfl (Nat.le_of_ble_eq_true rfl) dX9_when_40 (fun r48 w49 H locs hp50 h => ?_)
          obtain ⟨rfl, hr51⟩ := hp50
          refine lv_icmp_le (tgt := 50) hx hb dX9_when_43 (by decide) (fun hc52 => ?_) (fun hc52 => ?_)
          · have hc52 : (r44).toInt ≤ (r48).toInt := i_le hc52 rfl rfl
            refine lv_iload_n hx hb dX9_when_50 rfl (lv_at hl 1 rfl) ?_
            refine lv_istore_n (lv' := [(2, .int L20), (3, .int L19), (0, .ref (ad 64)), (1, .int i)]) hx hb dX9_when_51 rfl hl (by decide) rfl (fun ls hl => ?_)
            obtain ⟨z53, e54, t55⟩ := x_add (x := L19) (y := 1) (a := L19.toInt) (b := 1) rfl rfl (by omega) (by omega)
            refine lv_iinc (v := z53) (lv' := [(3, .int z53), (2, .int L20), (0, .ref (ad 64)), (1, .int i)]) hx hb dX9_when_52 hl (k := 1) rfl e54 (by decide) rfl (fun ls hl => ?_)
            refine lv_goto (tgt := 19) hx hb dX9_when_55 (by decide) ?_
            exact ih24  z53 L20 wL21 _ _ _ (by omega) (by omega) ok28 kx29 (by omega) h (lv_sub hl [0, 1, 2, 3] rfl)
          · have hc52 : ¬ (r44).toInt ≤ (r48).toInt := i_nle hc52 rfl rfl
            refine lv_iload_n hx hb dX9_when_46 rfl (lv_at hl 0 rfl) ?_
            refine lv_goto (tgt := 51) hx hb dX9_when_47 (by decide) ?_
            refine lv_istore_n (lv' := [(2, .int L19), (3, .int L19), (0, .ref (ad 64)), (1, .int i)]) hx hb dX9_when_51 rfl hl (by decide) rfl (fun ls hl => ?_)
            obtain ⟨z56, e57, t58⟩ := x_add (x := L19) (y := 1) (a := L19.toInt) (b := 1) rfl rfl (by omega) (by omega)
            refine lv_iinc (v := z56) (lv' := [(3, .int z56), (2, .int L19), (0, .ref (ad 64)), (1, .int i)]) hx hb dX9_when_52 hl (k := 1) rfl e57 (by decide) rfl (fun ls hl => ?_)
            refine lv_goto (tgt := 19) hx hb dX9_when_55 (by decide) ?_
            exact ih24  z56 L19 wL21 _ _ _ (by omega) (by omega) ok28 kx29 (by omega) h (lv_sub hl [0, 1, 2, 3] rfl)
    exact hloop22 24 (1 : Int32) (0 : Int32) w _ _ _ (by have q0 : (1 : Int32).toInt = 1 := rfl; have q1 : (0 : Int32).toInt = 0 := rfl; omega) (by have q0 : (1 : Int32).toInt = 1 := rfl; have q1 : (0 : Int32).toInt = 0 := rfl; omega) ok KM.rf (by have q0 : (1 : Int32).toInt = 1 := rfl; have q1 : (0 : Int32).toInt = 0 := rfl; omega) h (lv_sub hl [0, 1, 2, 3] rfl)
  · refine lv_if_ne (tgt := 15) hx hb dX9_when_5 (by decide) (fun hc => absurd (by decide) hc) (fun _ => ?_)
    refine lv_aload_n hx hb dX9_when_8 rfl (lv_at hl 0 rfl) ?_
    refine lv_bipush (v := (-2)) hx hb dX9_when_9 (by decide) ?_
    refine n_Vi (na := 1) (As := [.int (-2)]) (rest := []) X hD hN h rfl (c_M_bad l G cI cB cZ cO ad w  ok ((-2) : Int32)  ) ⟨kv_553, kv_554, kv_555, kv_470, kv_556⟩ rfl ⟨by decide, by decide, by decide⟩ ⟨Nat.le_of_ble_eq_true rfl, Nat.le_of_ble_eq_true rfl⟩ ⟨Nat.zero_le _, Nat.zero_le _⟩ (by decide) f15 rfl rfl hl.1 rfl (Nat.le_of_ble_eq_true rfl) dX9_when_11 (fun r59 w60 H locs hp61 h => ?_)
    obtain ⟨ok63, kk64, hr62⟩ := hp61
    have kx65 : KM w w60 := kk64
    subst hr62
    exact e_i X h hr hlk dX9_when_14 ⟨ok63, kx65, trivial⟩

set_option maxHeartbeats 4000000 in
set_option maxRecDepth 100000 in
theorem c_M_gone_ (l : Launch) (G : va_G) (cI cB cZ cO : ClassId) (ad : Nat → Nat) (w : Nat → va_E)  (ok : OK cI cB cZ cO ad w) (j : Int32)   : NI l G (tyq cI cB cZ cO) yX9_gone cX9_gone 3 (some .int) 3 67 74 ad w [.ref (ad 64), .int j] (fun r w1 => OK cI cB cZ cO ad w1 ∧ KM w w1 ∧ True) := by
  refine nk_i (own := "NoonShadeModel") rfl (by decide) (Nat.le_of_ble_eq_true rfl) ?_
  intro p e s m below meth c ls X hD hN hr hlk h hl
  have hx := X.1.1
  have hb := X.1.2.1
  have hown := X.1.2.2.2.1
  have hts := X.1.2.2.2.2
  have hl : lv_has ls 3 [(0, .ref (ad 64)), (1, .int j)] := hl
  refine lv_aload_n hx hb dX9_gone_0 rfl (lv_at hl 0 rfl) ?_
  refine lv_iload_n hx hb dX9_gone_1 rfl (lv_at hl 1 rfl) ?_
  obtain ⟨x5, x6, t7, t8, t9, t10, t11, t12, f4, h13, h14⟩ := (show sM ad (w 64) from ok 64 (by decide))
  have f15 : w 64 = .inr (7, [.ref (ad 65), .ref (ad 66), .ref (ad 67), .ref (ad 68), .long x5, .long x6, .ref (ad 69), .int t7, .ref (ad 70), .ref (ad 71), .int t8, .int t9, .int t10, .int t11, .int t12, .ref (ad 72), .ref (ad 73)]) := f4
  refine n_Vi (na := 1) (As := [.int j]) (rest := []) X hD hN h rfl (c_M_isJar l G cI cB cZ cO ad w  ok j  ) ⟨kv_541, kv_542, kv_543, kv_470, kv_544⟩ rfl ⟨by decide, by decide, by decide⟩ ⟨Nat.le_of_ble_eq_true rfl, Nat.le_of_ble_eq_true rfl⟩ ⟨Nat.zero_le _, Nat.zero_le _⟩ (by decide) f15 rfl rfl hl.1 rfl (Nat.le_of_ble_eq_true rfl) dX9_gone_2 (fun r1 w2 H locs hp3 h => ?_)
  obtain ⟨rfl, hr16⟩ := hp3
  rcases hr16 with ⟨hq17, hq18, rfl⟩ | rfl
  · refine lv_if_ne (tgt := 15) hx hb dX9_gone_5 (by decide) (fun _ => ?_) (fun hc => absurd hc (by decide))
    refine lv_aload_n hx hb dX9_gone_15 rfl (lv_at hl 0 rfl) ?_
    refine n_Vv (na := 0) (As := []) (rest := []) X hD hN h rfl (c_M_layHand l G cI cB cZ cO ad w  ok   ) ⟨kv_503, kv_504, kv_505, kv_470, kv_506⟩ rfl ⟨by decide, by decide, by decide⟩ ⟨Nat.le_of_ble_eq_true rfl, Nat.le_of_ble_eq_true rfl⟩ ⟨Nat.zero_le _, Nat.zero_le _⟩ (by decide) f15 rfl rfl hl.1 rfl (Nat.le_of_ble_eq_true rfl) dX9_gone_16 (fun w20 H locs hp21 h => ?_)
    obtain ⟨ok23, kk24, hr22⟩ := hp21
    have kx25 : KM w w20 := kk24
    refine lv_iconst (v := 0) hx hb dX9_gone_19 (by decide) ?_
    refine lv_istore_n (lv' := [(2, .int 0), (0, .ref (ad 64)), (1, .int j)]) hx hb dX9_gone_20 rfl hl (by decide) rfl (fun ls hl => ?_)
    have hloop28 : ∀ (d29 : Nat) (L26 : Int32) (wL27 : Nat → va_E) (H : Heap) (locs : List Loc) (ls : Array Slot), 0 ≤ L26.toInt → L26.toInt ≤ 61 → OK cI cB cZ cO ad wL27 → KM w wL27 → 61 - L26.toInt < (d29 : Int) → St G 74 ad (wA 74 ad s.heap.size) s.heap wL27 H locs → lv_has ls 3 [(2, .int L26), (0, .ref (ad 64)), (1, .int j)] → W p l e { frames := 3, cells := 0, slots := 0, locals := 67 } s m [.ref (ad 64), .int j].toArray below meth c H locs 0 0 (MQ below (va_Qi (fun r w1 => OK cI cB cZ cO ad w1 ∧ KM w w1 ∧ True) (Aft G 74 ad) (wA 74 ad s.heap.size)) [.ref (ad 64), .int j].toArray s 0 0 (wA 74 ad s.heap.size)) (F0 m 21 ls []) := by
      intro d29
      induction d29 with
      | zero => intro L26 wL27 H locs ls hi32 hi33 ok34 kx35 hm31 h hl; exfalso; omega
      | succ d29 ih30 =>
        intro L26 wL27 H locs ls hi32 hi33 ok34 kx35 hm31 h hl
        refine lv_iload_n hx hb dX9_gone_21 rfl (lv_at hl 0 rfl) ?_
        refine lv_bipush (v := 60) hx hb dX9_gone_22 (by decide) ?_
        refine lv_icmp_gt (tgt := 54) hx hb dX9_gone_24 (by decide) (fun hc37 => ?_) (fun hc37 => ?_)
        · have hc37 : 60 < (L26).toInt := i_lt hc37 rfl rfl
          refine lv_iconst (v := (-1)) hx hb dX9_gone_54 (by decide) ?_
          exact e_i X h hr hlk dX9_gone_55 ⟨ok34, kx35, trivial⟩
        · have hc37 : ¬ 60 < (L26).toInt := i_nlt hc37 rfl rfl
          refine lv_aload_n hx hb dX9_gone_27 rfl (lv_at hl 1 rfl) ?_
          obtain ⟨x39, x40, t41, t42, t43, t44, t45, t46, f38, h47, h48⟩ := (show sM ad (wL27 64) from ok34 64 (by decide))
          have f49 : wL27 64 = .inr (7, [.ref (ad 65), .ref (ad 66), .ref (ad 67), .ref (ad 68), .long x39, .long x40, .ref (ad 69), .int t41, .ref (ad 70), .ref (ad 71), .int t42, .int t43, .int t44, .int t45, .int t46, .ref (ad 72), .ref (ad 73)]) := f38
          refine r_get kc9 X h 64 6 (by decide) rfl f49 (by decide) kv_495 rfl dX9_gone_28 ?_
          refine lv_bipush (v := 8) hx hb dX9_gone_31 (by decide) ?_
          refine lv_iload_n hx hb dX9_gone_33 rfl (lv_at hl 2 rfl) ?_
          obtain ⟨z52, e50, t51⟩ := x_add (x := (8 : Int32)) (y := j) (a := 8) (b := (j).toInt) rfl rfl (by omega) (by omega)
          refine o_iadd (z := z52) hx hb dX9_gone_34 e50 ?_
          obtain ⟨g54, f53, p55⟩ := (show sA cI 41 (alA) (wL27 69) from ok34 69 (by decide))
          have f56 : wL27 69 = .inl (cI, 41, .inl g54) := f53
          obtain ⟨v57, e58⟩ : ∃ z : Int32, g54 (z52).toNatClampNeg = z := ⟨_, rfl⟩
          refine o_iald (v := v57) X h 69 0 (by decide) rfl f56 rfl (in_of (by omega) (by omega)) e58 dX9_gone_35 ?_
          refine lv_if_ne (tgt := 41) hx hb dX9_gone_36 (by decide) (fun hc60 => ?_) (fun hc60 => ?_)
          · have hc60 : ¬ (v57).toInt = 0 := i_ne hc60 rfl rfl
            refine lv_aload_n hx hb dX9_gone_41 rfl (lv_at hl 1 rfl) ?_
            refine r_get kc9 X h 64 6 (by decide) rfl f49 (by decide) kv_495 rfl dX9_gone_42 ?_
            refine n_Sv (na := 1) (As := [.ref (ad 69)]) (rest := []) X hD hN h (c_M_goHour l G cI cB cZ cO ad wL27 69 (Or.inr (Or.inl rfl)) ok34   ) ⟨kv_492, kv_493, kv_470, kv_494⟩ ⟨by decide, by decide, by decide⟩ ⟨Nat.le_of_ble_eq_true rfl, Nat.le_of_ble_eq_true rfl⟩ ⟨Nat.zero_le _, Nat.zero_le _⟩ rfl hl.1 rfl (Nat.le_of_ble_eq_true rfl) dX9_gone_45 (fun w62 H locs hp63 h => ?_)
            obtain ⟨ok65, kk66, hr64⟩ := hp63
            have kx67 : KM w w62 := KM.tr kx35 kk66.1
            obtain ⟨z68, e69, t70⟩ := x_add (x := L26) (y := 1) (a := L26.toInt) (b := 1) rfl rfl (by omega) (by omega)
            refine lv_iinc (v := z68) (lv' := [(2, .int z68), (0, .ref (ad 64)), (1, .int j)]) hx hb dX9_gone_48 hl (k := 0) rfl e69 (by decide) rfl (fun ls hl => ?_)
            refine lv_goto (tgt := 21) hx hb dX9_gone_51 (by decide) ?_
            exact ih30  z68 w62 _ _ _ (by omega) (by omega) ok65 kx67 (by omega) h (lv_sub hl [0, 1, 2] rfl)
          · have hc60 : (v57).toInt = 0 := i_eq hc60 rfl rfl
            refine lv_iload_n hx hb dX9_gone_39 rfl (lv_at hl 0 rfl) ?_
            exact e_i X h hr hlk dX9_gone_40 ⟨ok34, kx35, trivial⟩
    exact hloop28 62 (0 : Int32) w20 _ _ _ (by have q0 : (0 : Int32).toInt = 0 := rfl; omega) (by have q0 : (0 : Int32).toInt = 0 := rfl; omega) ok23 kx25 (by have q0 : (0 : Int32).toInt = 0 := rfl; omega) h (lv_sub hl [0, 1, 2] rfl)
  · refine lv_if_ne (tgt := 15) hx hb dX9_gone_5 (by decide) (fun hc => absurd (by decide) hc) (fun _ => ?_)
    refine lv_aload_n hx hb dX9_gone_8 rfl (lv_at hl 0 rfl) ?_
    refine lv_bipush (v := (-2)) hx hb dX9_gone_9 (by decide) ?_
    refine n_Vi (na := 1) (As := [.int (-2)]) (rest := []) X hD hN h rfl (c_M_bad l G cI cB cZ cO ad w  ok ((-2) : Int32)  ) ⟨kv_553, kv_554, kv_555, kv_470, kv_556⟩ rfl ⟨by decide, by decide, by decide⟩ ⟨Nat.le_of_ble_eq_true rfl, Nat.le_of_ble_eq_true rfl⟩ ⟨Nat.zero_le _, Nat.zero_le _⟩ (by decide) f15 rfl rfl hl.1 rfl (Nat.le_of_ble_eq_true rfl) dX9_gone_11 (fun r71 w72 H locs hp73 h => ?_)
    obtain ⟨ok75, kk76, hr74⟩ := hp73
    have kx77 : KM w w72 := kk76
    subst hr74
    exact e_i X h hr hlk dX9_gone_14 ⟨ok75, kx77, trivial⟩

set_option maxHeartbeats 4000000 in
set_option maxRecDepth 100000 in
theorem c_M_round_ (l : Launch) (G : va_G) (cI cB cZ cO : ClassId) (ad : Nat → Nat) (w : Nat → va_E)  (ok : OK cI cB cZ cO ad w) (j : Int32) (n : Int32) (k : Int32)   : NI l G (tyq cI cB cZ cO) yX9_round cX9_round 6 (some .int) 4 97 74 ad w [.ref (ad 64), .int j, .int n, .int k] (fun r w1 => OK cI cB cZ cO ad w1 ∧ KM w w1 ∧ True) := by
  refine nk_i (own := "NoonShadeModel") rfl (by decide) (Nat.le_of_ble_eq_true rfl) ?_
  intro p e s m below meth c ls X hD hN hr hlk h hl
  have hx := X.1.1
  have hb := X.1.2.1
  have hown := X.1.2.2.2.1
  have hts := X.1.2.2.2.2
  have hl : lv_has ls 6 [(0, .ref (ad 64)), (1, .int j), (2, .int n), (3, .int k)] := hl
  refine lv_aload_n hx hb dX9_round_0 rfl (lv_at hl 0 rfl) ?_
  refine lv_iload_n hx hb dX9_round_1 rfl (lv_at hl 1 rfl) ?_
  obtain ⟨x5, x6, t7, t8, t9, t10, t11, t12, f4, h13, h14⟩ := (show sM ad (w 64) from ok 64 (by decide))
  have f15 : w 64 = .inr (7, [.ref (ad 65), .ref (ad 66), .ref (ad 67), .ref (ad 68), .long x5, .long x6, .ref (ad 69), .int t7, .ref (ad 70), .ref (ad 71), .int t8, .int t9, .int t10, .int t11, .int t12, .ref (ad 72), .ref (ad 73)]) := f4
  refine n_Vi (na := 1) (As := [.int j]) (rest := []) X hD hN h rfl (c_M_isJar l G cI cB cZ cO ad w  ok j  ) ⟨kv_541, kv_542, kv_543, kv_470, kv_544⟩ rfl ⟨by decide, by decide, by decide⟩ ⟨Nat.le_of_ble_eq_true rfl, Nat.le_of_ble_eq_true rfl⟩ ⟨Nat.zero_le _, Nat.zero_le _⟩ (by decide) f15 rfl rfl hl.1 rfl (Nat.le_of_ble_eq_true rfl) dX9_round_2 (fun r1 w2 H locs hp3 h => ?_)
  obtain ⟨rfl, hr16⟩ := hp3
  rcases hr16 with ⟨hq17, hq18, rfl⟩ | rfl
  · refine lv_if_eq (tgt := 30) hx hb dX9_round_5 (by decide) (fun hc => absurd hc (by decide)) (fun _ => ?_)
    refine lv_iload_n hx hb dX9_round_8 rfl (lv_at hl 2 rfl) ?_
    obtain ⟨z19, e20⟩ : ∃ z : Int64, n.toInt64 = z := ⟨_, rfl⟩
    have tz19 : z19.toInt = (n).toInt := by rw [← e20]; exact Int32.toInt_toInt64 _
    refine lv_i2l (v := z19) hx hb dX9_round_9 e20 ?_
    refine lv_lconst (v := 1) hx hb dX9_round_10 (by decide) ?_
    refine lv_ldc2 (v := 4) hx hb hown (hts _ kv_563) dX9_round_11 ?_
    refine n_Si (na := 3) (As := [.long z19, .long 1, .long 4]) (rest := []) X hD hN h (c_M_in l G cI cB cZ cO ad w z19 (1 : Int64) (4 : Int64) ((n).toInt) 1 4 tz19 rfl rfl) ⟨kv_468, kv_469, kv_470, kv_471⟩ ⟨by decide, by decide, by decide⟩ ⟨Nat.le_of_ble_eq_true rfl, Nat.le_of_ble_eq_true rfl⟩ ⟨Nat.zero_le _, Nat.zero_le _⟩ rfl hl.1 rfl (Nat.le_of_ble_eq_true rfl) dX9_round_14 (fun r21 w22 H locs hp23 h => ?_)
    obtain ⟨rfl, hq24⟩ := hp23
    rcases hq24 with ⟨hq25, hq26, rfl⟩ | ⟨hq24, rfl⟩
    · refine lv_if_eq (tgt := 30) hx hb dX9_round_17 (by decide) (fun hc => absurd hc (by decide)) (fun _ => ?_)
      refine lv_iload_n hx hb dX9_round_20 rfl (lv_at hl 3 rfl) ?_
      refine lv_if_ge (tgt := 37) hx hb dX9_round_21 (by decide) (fun hc27 => ?_) (fun hc27 => ?_)
      · have hc27 : 0 ≤ (k).toInt := i_le hc27 rfl rfl
        refine lv_iload_n hx hb dX9_round_37 rfl (lv_at hl 3 rfl) ?_
        refine lv_iload_n hx hb dX9_round_38 rfl (lv_at hl 2 rfl) ?_
        refine lv_icmp_lt (tgt := 45) hx hb dX9_round_39 (by decide) (fun hc28 => ?_) (fun hc28 => ?_)
        · have hc28 : (k).toInt < (n).toInt := i_lt hc28 rfl rfl
          refine lv_aload_n hx hb dX9_round_45 rfl (lv_at hl 0 rfl) ?_
          refine lv_iload_n hx hb dX9_round_46 rfl (lv_at hl 1 rfl) ?_
          refine lv_iload_n hx hb dX9_round_47 rfl (lv_at hl 2 rfl) ?_
          refine n_Vi (na := 2) (As := [.int j, .int n]) (rest := []) X hD hN h rfl (c_M_bestRow l G cI cB cZ cO ad w  ok j n (by omega) (by omega) (by omega) (by omega) ) ⟨kv_572, kv_573, kv_574, kv_470, kv_575⟩ rfl ⟨by decide, by decide, by decide⟩ ⟨Nat.le_of_ble_eq_true rfl, Nat.le_of_ble_eq_true rfl⟩ ⟨Nat.zero_le _, Nat.zero_le _⟩ (by decide) f15 rfl rfl hl.1 rfl (Nat.le_of_ble_eq_true rfl) dX9_round_48 (fun r29 w30 H locs hp31 h => ?_)
          obtain ⟨ok33, kk34, hr32⟩ := hp31
          have kx35 : KM w w30 := kk34
          obtain ⟨h36, h37⟩ := hr32
          refine lv_istore (lv' := [(4, .int r29), (0, .ref (ad 64)), (1, .int j), (2, .int n), (3, .int k)]) hx hb dX9_round_51 hl (by decide) rfl (fun ls hl => ?_)
          refine lv_iload_n hx hb dX9_round_53 rfl (lv_at hl 4 rfl) ?_
          refine lv_if_ge (tgt := 61) hx hb dX9_round_54 (by decide) (fun hc38 => ?_) (fun hc38 => ?_)
          · have hc38 : 0 ≤ (k).toInt := i_le hc38 rfl rfl
            refine lv_aload_n hx hb dX9_round_61 rfl (lv_at hl 1 rfl) ?_
            refine lv_iload hx hb dX9_round_62 (lv_at hl 0 rfl) ?_
            refine lv_iload_n hx hb dX9_round_64 rfl (lv_at hl 3 rfl) ?_
            refine lv_iload_n hx hb dX9_round_65 rfl (lv_at hl 4 rfl) ?_
            obtain ⟨x43, x44, t45, t46, t47, t48, t49, t50, f42, h51, h52⟩ := (show sM ad (w30 64) from ok33 64 (by decide))
            have f53 : w30 64 = .inr (7, [.ref (ad 65), .ref (ad 66), .ref (ad 67), .ref (ad 68), .long x43, .long x44, .ref (ad 69), .int t45, .ref (ad 70), .ref (ad 71), .int t46, .int t47, .int t48, .int t49, .int t50, .ref (ad 72), .ref (ad 73)]) := f42
            refine n_Vi (na := 3) (As := [.int r29, .int n, .int k]) (rest := []) X hD hN h rfl (c_M_casterBy l G cI cB cZ cO ad w30  ok33 r29 n k (by omega) (by omega) (by omega) (by omega) (by omega) (by omega) (by first | decide | omega)) ⟨kv_507, kv_508, kv_509, kv_470, kv_510⟩ rfl ⟨by decide, by decide, by decide⟩ ⟨Nat.le_of_ble_eq_true rfl, Nat.le_of_ble_eq_true rfl⟩ ⟨Nat.zero_le _, Nat.zero_le _⟩ (by decide) f53 rfl rfl hl.1 rfl (Nat.le_of_ble_eq_true rfl) dX9_round_66 (fun r39 w40 H locs hp41 h => ?_)
            obtain ⟨rfl, hr54⟩ := hp41
            obtain ⟨h55, h56⟩ := hr54
            refine lv_istore (lv' := [(5, .int r39), (4, .int r29), (0, .ref (ad 64)), (1, .int j), (2, .int n), (3, .int k)]) hx hb dX9_round_69 hl (by decide) rfl (fun ls hl => ?_)
            refine lv_iload_n hx hb dX9_round_71 rfl (lv_at hl 5 rfl) ?_
            refine lv_if_ge (tgt := 82) hx hb dX9_round_72 (by decide) (fun hc57 => ?_) (fun hc57 => ?_)
            · have hc57 : 0 ≤ (k).toInt := i_le hc57 rfl rfl
              refine lv_iload hx hb dX9_round_82 (lv_at hl 0 rfl) ?_
              refine lv_aload_n hx hb dX9_round_84 rfl (lv_at hl 2 rfl) ?_
              refine r_get kc9 X h 64 0 (by decide) rfl f53 (by decide) kv_467 rfl dX9_round_85 ?_
              refine lv_iconst (v := 0) hx hb dX9_round_88 (by decide) ?_
              obtain ⟨g59, f58, p60⟩ := (show sA cI 177 (alA) (w30 65) from ok33 65 (by decide))
              have f61 : w30 65 = .inl (cI, 177, .inl g59) := f58
              obtain ⟨v62, e63⟩ : ∃ z : Int32, g59 0 = z := ⟨_, rfl⟩
              have h64 := (alA_rd p60 e63).1 rfl
              refine o_iald (v := v62) X h 65 0 (by decide) rfl f61 rfl (by unfold vp_in; decide) e63 dX9_round_89 ?_
              refine lv_icmp_ne (tgt := 97) hx hb dX9_round_90 (by decide) (fun hc65 => ?_) (fun hc65 => ?_)
              · have hc65 : ¬ (r39).toInt = (v62).toInt := i_ne hc65 rfl rfl
                refine lv_iload hx hb dX9_round_97 (lv_at hl 0 rfl) ?_
                exact e_i X h hr hlk dX9_round_99 ⟨ok33, kx35, trivial⟩
              · have hc65 : (r39).toInt = (v62).toInt := i_eq hc65 rfl rfl
                refine lv_iconst (v := (-1)) hx hb dX9_round_93 (by decide) ?_
                refine lv_goto (tgt := 99) hx hb dX9_round_94 (by decide) ?_
                exact e_i X h hr hlk dX9_round_99 ⟨ok33, kx35, trivial⟩
            · have hc57 : ¬ 0 ≤ (k).toInt := i_nle hc57 rfl rfl
              exfalso; omega
          · have hc38 : ¬ 0 ≤ (k).toInt := i_nle hc38 rfl rfl
            exfalso; omega
        · have hc28 : ¬ (k).toInt < (n).toInt := i_nlt hc28 rfl rfl
          refine lv_bipush (v := (-5)) hx hb dX9_round_42 (by decide) ?_
          exact e_i X h hr hlk dX9_round_44 ⟨ok, KM.rf, trivial⟩
      · have hc27 : ¬ 0 ≤ (k).toInt := i_nle hc27 rfl rfl
        refine lv_iload_n hx hb dX9_round_24 rfl (lv_at hl 3 rfl) ?_
        refine lv_bipush (v := (-2)) hx hb dX9_round_25 (by decide) ?_
        refine lv_icmp_eq (tgt := 37) hx hb dX9_round_27 (by decide) (fun hc66 => ?_) (fun hc66 => ?_)
        · have hc66 : (k).toInt = (-2) := i_eq hc66 rfl rfl
          refine lv_iload_n hx hb dX9_round_37 rfl (lv_at hl 3 rfl) ?_
          refine lv_iload_n hx hb dX9_round_38 rfl (lv_at hl 2 rfl) ?_
          refine lv_icmp_lt (tgt := 45) hx hb dX9_round_39 (by decide) (fun hc67 => ?_) (fun hc67 => ?_)
          · have hc67 : (k).toInt < (n).toInt := i_lt hc67 rfl rfl
            refine lv_aload_n hx hb dX9_round_45 rfl (lv_at hl 0 rfl) ?_
            refine lv_iload_n hx hb dX9_round_46 rfl (lv_at hl 1 rfl) ?_
            refine lv_iload_n hx hb dX9_round_47 rfl (lv_at hl 2 rfl) ?_
            refine n_Vi (na := 2) (As := [.int j, .int n]) (rest := []) X hD hN h rfl (c_M_bestRow l G cI cB cZ cO ad w  ok j n (by omega) (by omega) (by omega) (by omega) ) ⟨kv_572, kv_573, kv_574, kv_470, kv_575⟩ rfl ⟨by decide, by decide, by decide⟩ ⟨Nat.le_of_ble_eq_true rfl, Nat.le_of_ble_eq_true rfl⟩ ⟨Nat.zero_le _, Nat.zero_le _⟩ (by decide) f15 rfl rfl hl.1 rfl (Nat.le_of_ble_eq_true rfl) dX9_round_48 (fun r68 w69 H locs hp70 h => ?_)
            obtain ⟨ok72, kk73, hr71⟩ := hp70
            have kx74 : KM w w69 := kk73
            obtain ⟨h75, h76⟩ := hr71
            refine lv_istore (lv' := [(4, .int r68), (0, .ref (ad 64)), (1, .int j), (2, .int n), (3, .int k)]) hx hb dX9_round_51 hl (by decide) rfl (fun ls hl => ?_)
            refine lv_iload_n hx hb dX9_round_53 rfl (lv_at hl 4 rfl) ?_
            refine lv_if_ge (tgt := 61) hx hb dX9_round_54 (by decide) (fun hc77 => ?_) (fun hc77 => ?_)
            · have hc77 : 0 ≤ (k).toInt := i_le hc77 rfl rfl
              exfalso; omega
            · have hc77 : ¬ 0 ≤ (k).toInt := i_nle hc77 rfl rfl
              refine lv_iconst (v := 0) hx hb dX9_round_57 (by decide) ?_
              refine lv_goto (tgt := 69) hx hb dX9_round_58 (by decide) ?_
              refine lv_istore (lv' := [(5, .int 0), (4, .int r68), (0, .ref (ad 64)), (1, .int j), (2, .int n), (3, .int k)]) hx hb dX9_round_69 hl (by decide) rfl (fun ls hl => ?_)
              refine lv_iload_n hx hb dX9_round_71 rfl (lv_at hl 5 rfl) ?_
              refine lv_if_ge (tgt := 82) hx hb dX9_round_72 (by decide) (fun hc78 => ?_) (fun hc78 => ?_)
              · have hc78 : 0 ≤ (k).toInt := i_le hc78 rfl rfl
                exfalso; omega
              · have hc78 : ¬ 0 ≤ (k).toInt := i_nle hc78 rfl rfl
                refine lv_aload_n hx hb dX9_round_75 rfl (lv_at hl 2 rfl) ?_
                obtain ⟨x80, x81, t82, t83, t84, t85, t86, t87, f79, h88, h89⟩ := (show sM ad (w69 64) from ok72 64 (by decide))
                have f90 : w69 64 = .inr (7, [.ref (ad 65), .ref (ad 66), .ref (ad 67), .ref (ad 68), .long x80, .long x81, .ref (ad 69), .int t82, .ref (ad 70), .ref (ad 71), .int t83, .int t84, .int t85, .int t86, .int t87, .ref (ad 72), .ref (ad 73)]) := f79
                refine r_get kc9 X h 64 7 (by decide) rfl f90 (by decide) kv_502 rfl dX9_round_76 ?_
                refine lv_goto (tgt := 99) hx hb dX9_round_79 (by decide) ?_
                exact e_i X h hr hlk dX9_round_99 ⟨ok72, kx74, trivial⟩
          · have hc67 : ¬ (k).toInt < (n).toInt := i_nlt hc67 rfl rfl
            exfalso; omega
        · have hc66 : ¬ (k).toInt = (-2) := i_ne hc66 rfl rfl
          refine lv_aload_n hx hb dX9_round_30 rfl (lv_at hl 0 rfl) ?_
          refine lv_bipush (v := (-10)) hx hb dX9_round_31 (by decide) ?_
          refine n_Vi (na := 1) (As := [.int (-10)]) (rest := []) X hD hN h rfl (c_M_bad l G cI cB cZ cO ad w  ok ((-10) : Int32)  ) ⟨kv_553, kv_554, kv_555, kv_470, kv_556⟩ rfl ⟨by decide, by decide, by decide⟩ ⟨Nat.le_of_ble_eq_true rfl, Nat.le_of_ble_eq_true rfl⟩ ⟨Nat.zero_le _, Nat.zero_le _⟩ (by decide) f15 rfl rfl hl.1 rfl (Nat.le_of_ble_eq_true rfl) dX9_round_33 (fun r91 w92 H locs hp93 h => ?_)
          obtain ⟨ok95, kk96, hr94⟩ := hp93
          have kx97 : KM w w92 := kk96
          subst hr94
          exact e_i X h hr hlk dX9_round_36 ⟨ok95, kx97, trivial⟩
    · refine lv_if_eq (tgt := 30) hx hb dX9_round_17 (by decide) (fun _ => ?_) (fun hc => absurd (by decide) hc)
      refine lv_aload_n hx hb dX9_round_30 rfl (lv_at hl 0 rfl) ?_
      refine lv_bipush (v := (-10)) hx hb dX9_round_31 (by decide) ?_
      refine n_Vi (na := 1) (As := [.int (-10)]) (rest := []) X hD hN h rfl (c_M_bad l G cI cB cZ cO ad w  ok ((-10) : Int32)  ) ⟨kv_553, kv_554, kv_555, kv_470, kv_556⟩ rfl ⟨by decide, by decide, by decide⟩ ⟨Nat.le_of_ble_eq_true rfl, Nat.le_of_ble_eq_true rfl⟩ ⟨Nat.zero_le _, Nat.zero_le _⟩ (by decide) f15 rfl rfl hl.1 rfl (Nat.le_of_ble_eq_true rfl) dX9_round_33 (fun r98 w99 H locs hp100 h => ?_)
      obtain ⟨ok102, kk103, hr101⟩ := hp100
      have kx104 : KM w w99 := kk103
      subst hr101
      exact e_i X h hr hlk dX9_round_36 ⟨ok102, kx104, trivial⟩
  · refine lv_if_eq (tgt := 30) hx hb dX9_round_5 (by decide) (fun _ => ?_) (fun hc => absurd (by decide) hc)
    refine lv_aload_n hx hb dX9_round_30 rfl (lv_at hl 0 rfl) ?_
    refine lv_bipush (v := (-10)) hx hb dX9_round_31 (by decide) ?_
    refine n_Vi (na := 1) (As := [.int (-10)]) (rest := []) X hD hN h rfl (c_M_bad l G cI cB cZ cO ad w  ok ((-10) : Int32)  ) ⟨kv_553, kv_554, kv_555, kv_470, kv_556⟩ rfl ⟨by decide, by decide, by decide⟩ ⟨Nat.le_of_ble_eq_true rfl, Nat.le_of_ble_eq_true rfl⟩ ⟨Nat.zero_le _, Nat.zero_le _⟩ (by decide) f15 rfl rfl hl.1 rfl (Nat.le_of_ble_eq_true rfl) dX9_round_33 (fun r105 w106 H locs hp107 h => ?_)
    obtain ⟨ok109, kk110, hr108⟩ := hp107
    have kx111 : KM w w106 := kk110
    subst hr108
    exact e_i X h hr hlk dX9_round_36 ⟨ok109, kx111, trivial⟩

set_option maxHeartbeats 4000000 in
set_option maxRecDepth 100000 in
theorem c_M_few_ (l : Launch) (G : va_G) (cI cB cZ cO : ClassId) (ad : Nat → Nat) (w : Nat → va_E)  (ok : OK cI cB cZ cO ad w) (j : Int32) (t : Int32) (x : Int32) (u : Int32)   : NI l G (tyq cI cB cZ cO) yX9_few cX9_few 9 (some .int) 3 70 74 ad w [.ref (ad 64), .int j, .int t, .int x, .int u] (fun r w1 => OK cI cB cZ cO ad w1 ∧ KM w w1 ∧ True) := by
  refine nk_i (own := "NoonShadeModel") rfl (by decide) (Nat.le_of_ble_eq_true rfl) ?_
  intro p e s m below meth c ls X hD hN hr hlk h hl
  have hx := X.1.1
  have hb := X.1.2.1
  have hown := X.1.2.2.2.1
  have hts := X.1.2.2.2.2
  have hl : lv_has ls 9 [(0, .ref (ad 64)), (1, .int j), (2, .int t), (3, .int x), (4, .int u)] := hl
  refine lv_aload_n hx hb dX9_few_0 rfl (lv_at hl 0 rfl) ?_
  refine lv_iload_n hx hb dX9_few_1 rfl (lv_at hl 1 rfl) ?_
  obtain ⟨x5, x6, t7, t8, t9, t10, t11, t12, f4, h13, h14⟩ := (show sM ad (w 64) from ok 64 (by decide))
  have f15 : w 64 = .inr (7, [.ref (ad 65), .ref (ad 66), .ref (ad 67), .ref (ad 68), .long x5, .long x6, .ref (ad 69), .int t7, .ref (ad 70), .ref (ad 71), .int t8, .int t9, .int t10, .int t11, .int t12, .ref (ad 72), .ref (ad 73)]) := f4
  refine n_Vi (na := 1) (As := [.int j]) (rest := []) X hD hN h rfl (c_M_isJar l G cI cB cZ cO ad w  ok j  ) ⟨kv_541, kv_542, kv_543, kv_470, kv_544⟩ rfl ⟨by decide, by decide, by decide⟩ ⟨Nat.le_of_ble_eq_true rfl, Nat.le_of_ble_eq_true rfl⟩ ⟨Nat.zero_le _, Nat.zero_le _⟩ (by decide) f15 rfl rfl hl.1 rfl (Nat.le_of_ble_eq_true rfl) dX9_few_2 (fun r1 w2 H locs hp3 h => ?_)
  obtain ⟨rfl, hr16⟩ := hp3
  rcases hr16 with ⟨hq17, hq18, rfl⟩ | rfl
  · refine lv_if_eq (tgt := 38) hx hb dX9_few_5 (by decide) (fun hc => absurd hc (by decide)) (fun _ => ?_)
    refine lv_iload_n hx hb dX9_few_8 rfl (lv_at hl 2 rfl) ?_
    refine n_Si (na := 1) (As := [.int t]) (rest := []) X hD hN h (c_M_isTaste l G cI cB cZ cO ad w   t  ) ⟨kv_576, kv_577, kv_470, kv_578⟩ ⟨by decide, by decide, by decide⟩ ⟨Nat.le_of_ble_eq_true rfl, Nat.le_of_ble_eq_true rfl⟩ ⟨Nat.zero_le _, Nat.zero_le _⟩ rfl hl.1 rfl (Nat.le_of_ble_eq_true rfl) dX9_few_9 (fun r19 w20 H locs hp21 h => ?_)
    obtain ⟨rfl, hr22⟩ := hp21
    rcases hr22 with ⟨hq23, hq24, rfl⟩ | ⟨hq25, rfl⟩
    · refine lv_if_eq (tgt := 38) hx hb dX9_few_12 (by decide) (fun hc => absurd hc (by decide)) (fun _ => ?_)
      refine lv_iload_n hx hb dX9_few_15 rfl (lv_at hl 3 rfl) ?_
      obtain ⟨z26, e27⟩ : ∃ z : Int64, x.toInt64 = z := ⟨_, rfl⟩
      have tz26 : z26.toInt = (x).toInt := by rw [← e27]; exact Int32.toInt_toInt64 _
      refine lv_i2l (v := z26) hx hb dX9_few_16 e27 ?_
      refine lv_lconst (v := 1) hx hb dX9_few_17 (by decide) ?_
      refine lv_ldc2 (v := 60) hx hb hown (hts _ kv_476) dX9_few_18 ?_
      refine n_Si (na := 3) (As := [.long z26, .long 1, .long 60]) (rest := []) X hD hN h (c_M_in l G cI cB cZ cO ad w z26 (1 : Int64) (60 : Int64) ((x).toInt) 1 60 tz26 rfl rfl) ⟨kv_468, kv_469, kv_470, kv_471⟩ ⟨by decide, by decide, by decide⟩ ⟨Nat.le_of_ble_eq_true rfl, Nat.le_of_ble_eq_true rfl⟩ ⟨Nat.zero_le _, Nat.zero_le _⟩ rfl hl.1 rfl (Nat.le_of_ble_eq_true rfl) dX9_few_21 (fun r28 w29 H locs hp30 h => ?_)
      obtain ⟨rfl, hq31⟩ := hp30
      rcases hq31 with ⟨hq32, hq33, rfl⟩ | ⟨hq31, rfl⟩
      · refine lv_if_eq (tgt := 38) hx hb dX9_few_24 (by decide) (fun hc => absurd hc (by decide)) (fun _ => ?_)
        refine lv_iload hx hb dX9_few_27 (lv_at hl 4 rfl) ?_
        obtain ⟨z34, e35⟩ : ∃ z : Int64, u.toInt64 = z := ⟨_, rfl⟩
        have tz34 : z34.toInt = (u).toInt := by rw [← e35]; exact Int32.toInt_toInt64 _
        refine lv_i2l (v := z34) hx hb dX9_few_29 e35 ?_
        refine lv_lconst (v := 0) hx hb dX9_few_30 (by decide) ?_
        refine lv_lconst (v := 1) hx hb dX9_few_31 (by decide) ?_
        refine n_Si (na := 3) (As := [.long z34, .long 0, .long 1]) (rest := []) X hD hN h (c_M_in l G cI cB cZ cO ad w z34 (0 : Int64) (1 : Int64) ((u).toInt) 0 1 tz34 rfl rfl) ⟨kv_468, kv_469, kv_470, kv_471⟩ ⟨by decide, by decide, by decide⟩ ⟨Nat.le_of_ble_eq_true rfl, Nat.le_of_ble_eq_true rfl⟩ ⟨Nat.zero_le _, Nat.zero_le _⟩ rfl hl.1 rfl (Nat.le_of_ble_eq_true rfl) dX9_few_32 (fun r36 w37 H locs hp38 h => ?_)
        obtain ⟨rfl, hq39⟩ := hp38
        rcases hq39 with ⟨hq40, hq41, rfl⟩ | ⟨hq39, rfl⟩
        · refine lv_if_ne (tgt := 45) hx hb dX9_few_35 (by decide) (fun _ => ?_) (fun hc => absurd hc (by decide))
          refine lv_aload_n hx hb dX9_few_45 rfl (lv_at hl 0 rfl) ?_
          refine r_get kc9 X h 64 0 (by decide) rfl f15 (by decide) kv_467 rfl dX9_few_46 ?_
          refine lv_bipush (v := 8) hx hb dX9_few_49 (by decide) ?_
          refine lv_iload_n hx hb dX9_few_51 rfl (lv_at hl 1 rfl) ?_
          obtain ⟨z44, e42, t43⟩ := x_add (x := (8 : Int32)) (y := j) (a := 8) (b := (j).toInt) rfl rfl (by omega) (by omega)
          refine o_iadd (z := z44) hx hb dX9_few_52 e42 ?_
          obtain ⟨g46, f45, p47⟩ := (show sA cI 177 (alA) (w 65) from ok 65 (by decide))
          have f48 : w 65 = .inl (cI, 177, .inl g46) := f45
          obtain ⟨v49, e50⟩ : ∃ z : Int32, g46 (z44).toNatClampNeg = z := ⟨_, rfl⟩
          refine o_iald (v := v49) X h 65 0 (by decide) rfl f48 rfl (in_of (by omega) (by omega)) e50 dX9_few_53 ?_
          refine lv_istore (lv' := [(5, .int v49), (0, .ref (ad 64)), (1, .int j), (2, .int t), (3, .int x), (4, .int u)]) hx hb dX9_few_54 hl (by decide) rfl (fun ls hl => ?_)
          refine lv_iconst (v := (-1)) hx hb dX9_few_56 (by decide) ?_
          refine lv_istore (lv' := [(6, .int (-1)), (5, .int v49), (0, .ref (ad 64)), (1, .int j), (2, .int t), (3, .int x), (4, .int u)]) hx hb dX9_few_57 hl (by decide) rfl (fun ls hl => ?_)
          refine lv_iconst (v := 0) hx hb dX9_few_59 (by decide) ?_
          refine lv_istore (lv' := [(7, .int 0), (6, .int (-1)), (5, .int v49), (0, .ref (ad 64)), (1, .int j), (2, .int t), (3, .int x), (4, .int u)]) hx hb dX9_few_60 hl (by decide) rfl (fun ls hl => ?_)
          have hloop55 : ∀ (d56 : Nat) (L52 : Int32) (L53 : Int32) (wL54 : Nat → va_E) (H : Heap) (locs : List Loc) (ls : Array Slot), 0 ≤ L52.toInt → L52.toInt ≤ 128 → OK cI cB cZ cO ad wL54 → KM w wL54 → 128 - L52.toInt < (d56 : Int) → St G 74 ad (wA 74 ad s.heap.size) s.heap wL54 H locs → lv_has ls 9 [(7, .int L52), (6, .int L53), (5, .int v49), (0, .ref (ad 64)), (1, .int j), (2, .int t), (3, .int x), (4, .int u)] → W p l e { frames := 3, cells := 0, slots := 0, locals := 70 } s m [.ref (ad 64), .int j, .int t, .int x, .int u].toArray below meth c H locs 0 0 (MQ below (va_Qi (fun r w1 => OK cI cB cZ cO ad w1 ∧ KM w w1 ∧ True) (Aft G 74 ad) (wA 74 ad s.heap.size)) [.ref (ad 64), .int j, .int t, .int x, .int u].toArray s 0 0 (wA 74 ad s.heap.size)) (F0 m 62 ls []) := by
            intro d56
            induction d56 with
            | zero => intro L52 L53 wL54 H locs ls hi59 hi60 ok61 kx62 hm58 h hl; exfalso; omega
            | succ d56 ih57 =>
              intro L52 L53 wL54 H locs ls hi59 hi60 ok61 kx62 hm58 h hl
              refine lv_iload hx hb dX9_few_62 (lv_at hl 0 rfl) ?_
              refine lv_iconst (v := 1) hx hb dX9_few_64 (by decide) ?_
              refine lv_aload_n hx hb dX9_few_65 rfl (lv_at hl 3 rfl) ?_
              obtain ⟨x65, x66, t67, t68, t69, t70, t71, t72, f64, h73, h74⟩ := (show sM ad (wL54 64) from ok61 64 (by decide))
              have f75 : wL54 64 = .inr (7, [.ref (ad 65), .ref (ad 66), .ref (ad 67), .ref (ad 68), .long x65, .long x66, .ref (ad 69), .int t67, .ref (ad 70), .ref (ad 71), .int t68, .int t69, .int t70, .int t71, .int t72, .ref (ad 72), .ref (ad 73)]) := f64
              refine r_get kc9 X h 64 0 (by decide) rfl f75 (by decide) kv_467 rfl dX9_few_66 ?_
              refine lv_iconst (v := 0) hx hb dX9_few_69 (by decide) ?_
              obtain ⟨g77, f76, p78⟩ := (show sA cI 177 (alA) (wL54 65) from ok61 65 (by decide))
              have f79 : wL54 65 = .inl (cI, 177, .inl g77) := f76
              obtain ⟨v80, e81⟩ : ∃ z : Int32, g77 0 = z := ⟨_, rfl⟩
              have h82 := (alA_rd p78 e81).1 rfl
              refine o_iald (v := v80) X h 65 0 (by decide) rfl f79 rfl (by unfold vp_in; decide) e81 dX9_few_70 ?_
              obtain ⟨z85, e83, t84, t84b⟩ := x_shl7 (i := v80) (by omega) (by omega)
              refine o_ishl (z := z85) hx hb dX9_few_71 e83 ?_
              refine lv_icmp_ge (tgt := 162) hx hb dX9_few_72 (by decide) (fun hc86 => ?_) (fun hc86 => ?_)
              · have hc86 : (z85).toInt ≤ (L52).toInt := i_le hc86 rfl rfl
                refine lv_iload hx hb dX9_few_162 (lv_at hl 1 rfl) ?_
                refine lv_iconst (v := (-1)) hx hb dX9_few_164 (by decide) ?_
                refine lv_icmp_eq (tgt := 174) hx hb dX9_few_165 (by decide) (fun hc87 => ?_) (fun hc87 => ?_)
                · have hc87 : (L53).toInt = (-1) := i_eq hc87 rfl rfl
                  refine lv_iload hx hb dX9_few_174 (lv_at hl 1 rfl) ?_
                  refine lv_goto (tgt := 184) hx hb dX9_few_176 (by decide) ?_
                  exact e_i X h hr hlk dX9_few_184 ⟨ok61, kx62, trivial⟩
                · have hc87 : ¬ (L53).toInt = (-1) := i_ne hc87 rfl rfl
                  refine lv_iload hx hb dX9_few_168 (lv_at hl 7 rfl) ?_
                  refine lv_iconst (v := 1) hx hb dX9_few_170 (by decide) ?_
                  refine lv_icmp_ne (tgt := 179) hx hb dX9_few_171 (by decide) (fun hc88 => ?_) (fun hc88 => ?_)
                  · have hc88 : ¬ (u).toInt = 1 := i_ne hc88 rfl rfl
                    refine lv_iload hx hb dX9_few_179 (lv_at hl 1 rfl) ?_
                    refine n_Si (na := 1) (As := [.int L53]) (rest := []) X hD hN h (c_M_bits l G cI cB cZ cO ad wL54   L53  ) ⟨kv_536, kv_537, kv_470, kv_538⟩ ⟨by decide, by decide, by decide⟩ ⟨Nat.le_of_ble_eq_true rfl, Nat.le_of_ble_eq_true rfl⟩ ⟨Nat.zero_le _, Nat.zero_le _⟩ rfl hl.1 rfl (Nat.le_of_ble_eq_true rfl) dX9_few_181 (fun r89 w90 H locs hp91 h => ?_)
                    obtain ⟨rfl, hr92⟩ := hp91
                    exact e_i X h hr hlk dX9_few_184 ⟨ok61, kx62, trivial⟩
                  · have hc88 : (u).toInt = 1 := i_eq hc88 rfl rfl
                    refine lv_iload hx hb dX9_few_174 (lv_at hl 1 rfl) ?_
                    refine lv_goto (tgt := 184) hx hb dX9_few_176 (by decide) ?_
                    exact e_i X h hr hlk dX9_few_184 ⟨ok61, kx62, trivial⟩
              · have hc86 : ¬ (z85).toInt ≤ (L52).toInt := i_nle hc86 rfl rfl
                refine lv_iload hx hb dX9_few_75 (lv_at hl 2 rfl) ?_
                refine lv_if_eq (tgt := 93) hx hb dX9_few_77 (by decide) (fun hc93 => ?_) (fun hc93 => ?_)
                · have hc93 : (v49).toInt = 0 := i_eq hc93 rfl rfl
                  refine lv_aload_n hx hb dX9_few_93 rfl (lv_at hl 3 rfl) ?_
                  refine lv_iload hx hb dX9_few_94 (lv_at hl 0 rfl) ?_
                  refine lv_iload_n hx hb dX9_few_96 rfl (lv_at hl 5 rfl) ?_
                  refine n_Vi (na := 2) (As := [.int L52, .int t]) (rest := []) X hD hN h rfl (c_M_isOfTaste l G cI cB cZ cO ad wL54  ok61 L52 t  ) ⟨kv_579, kv_580, kv_581, kv_470, kv_582⟩ rfl ⟨by decide, by decide, by decide⟩ ⟨Nat.le_of_ble_eq_true rfl, Nat.le_of_ble_eq_true rfl⟩ ⟨Nat.zero_le _, Nat.zero_le _⟩ (by decide) f75 rfl rfl hl.1 rfl (Nat.le_of_ble_eq_true rfl) dX9_few_97 (fun r94 w95 H locs hp96 h => ?_)
                  obtain ⟨rfl, hr97⟩ := hp96
                  rcases hr97 with rfl | rfl
                  · refine lv_if_eq (tgt := 120) hx hb dX9_few_100 (by decide) (fun hc => absurd hc (by decide)) (fun _ => ?_)
                    refine lv_iload hx hb dX9_few_103 (lv_at hl 2 rfl) ?_
                    refine lv_aload_n hx hb dX9_few_105 rfl (lv_at hl 3 rfl) ?_
                    refine lv_iload hx hb dX9_few_106 (lv_at hl 0 rfl) ?_
                    refine n_Vi (na := 1) (As := [.int L52]) (rest := [.int v49]) X hD hN h rfl (c_M_givenBy l G cI cB cZ cO ad wL54  ok61 L52  ) ⟨kv_583, kv_584, kv_585, kv_470, kv_586⟩ rfl ⟨by decide, by decide, by decide⟩ ⟨Nat.le_of_ble_eq_true rfl, Nat.le_of_ble_eq_true rfl⟩ ⟨Nat.zero_le _, Nat.zero_le _⟩ (by decide) f75 rfl rfl hl.1 rfl (Nat.le_of_ble_eq_true rfl) dX9_few_108 (fun r98 w99 H locs hp100 h => ?_)
                    obtain ⟨rfl, hr101⟩ := hp100
                    obtain ⟨z104, e102⟩ : ∃ z : Int32, v49 + r98 = z := ⟨_, rfl⟩
                    refine o_iadd (z := z104) hx hb dX9_few_111 e102 ?_
                    refine lv_iload_n hx hb dX9_few_112 rfl (lv_at hl 6 rfl) ?_
                    refine lv_icmp_lt (tgt := 120) hx hb dX9_few_113 (by decide) (fun hc105 => ?_) (fun hc105 => ?_)
                    · have hc105 : (z104).toInt < (x).toInt := i_lt hc105 rfl rfl
                      refine lv_iconst (v := 0) hx hb dX9_few_120 (by decide) ?_
                      refine lv_istore (lv' := [(8, .int 0), (7, .int L52), (6, .int L53), (5, .int v49), (0, .ref (ad 64)), (1, .int j), (2, .int t), (3, .int x), (4, .int u)]) hx hb dX9_few_121 hl (by decide) rfl (fun ls hl => ?_)
                      refine lv_iload hx hb dX9_few_123 (lv_at hl 0 rfl) ?_
                      refine lv_if_eq (tgt := 152) hx hb dX9_few_125 (by decide) (fun _ => ?_) (fun hc => absurd (by decide) hc)
                      refine lv_iload hx hb dX9_few_152 (lv_at hl 2 rfl) ?_
                      refine lv_istore (lv' := [(6, .int L53), (8, .int 0), (7, .int L52), (5, .int v49), (0, .ref (ad 64)), (1, .int j), (2, .int t), (3, .int x), (4, .int u)]) hx hb dX9_few_154 hl (by decide) rfl (fun ls hl => ?_)
                      obtain ⟨z106, e107, t108⟩ := x_add (x := L52) (y := 1) (a := L52.toInt) (b := 1) rfl rfl (by omega) (by omega)
                      refine lv_iinc (v := z106) (lv' := [(7, .int z106), (6, .int L53), (8, .int 0), (5, .int v49), (0, .ref (ad 64)), (1, .int j), (2, .int t), (3, .int x), (4, .int u)]) hx hb dX9_few_156 hl (k := 2) rfl e107 (by decide) rfl (fun ls hl => ?_)
                      refine lv_goto (tgt := 62) hx hb dX9_few_159 (by decide) ?_
                      exact ih57  z106 L53 wL54 _ _ _ (by omega) (by omega) ok61 kx62 (by omega) h (lv_sub hl [0, 1, 3, 4, 5, 6, 7, 8] rfl)
                    · have hc105 : ¬ (z104).toInt < (x).toInt := i_nlt hc105 rfl rfl
                      refine lv_iconst (v := 1) hx hb dX9_few_116 (by decide) ?_
                      refine lv_goto (tgt := 121) hx hb dX9_few_117 (by decide) ?_
                      refine lv_istore (lv' := [(8, .int 1), (7, .int L52), (6, .int L53), (5, .int v49), (0, .ref (ad 64)), (1, .int j), (2, .int t), (3, .int x), (4, .int u)]) hx hb dX9_few_121 hl (by decide) rfl (fun ls hl => ?_)
                      refine lv_iload hx hb dX9_few_123 (lv_at hl 0 rfl) ?_
                      refine lv_if_eq (tgt := 152) hx hb dX9_few_125 (by decide) (fun hc => absurd hc (by decide)) (fun _ => ?_)
                      refine lv_iload hx hb dX9_few_128 (lv_at hl 2 rfl) ?_
                      refine lv_iconst (v := (-1)) hx hb dX9_few_130 (by decide) ?_
                      refine lv_icmp_eq (tgt := 147) hx hb dX9_few_131 (by decide) (fun hc109 => ?_) (fun hc109 => ?_)
                      · have hc109 : (L53).toInt = (-1) := i_eq hc109 rfl rfl
                        refine lv_iload hx hb dX9_few_147 (lv_at hl 1 rfl) ?_
                        refine lv_goto (tgt := 154) hx hb dX9_few_149 (by decide) ?_
                        refine lv_istore (lv' := [(6, .int L52), (8, .int 1), (7, .int L52), (5, .int v49), (0, .ref (ad 64)), (1, .int j), (2, .int t), (3, .int x), (4, .int u)]) hx hb dX9_few_154 hl (by decide) rfl (fun ls hl => ?_)
                        obtain ⟨z110, e111, t112⟩ := x_add (x := L52) (y := 1) (a := L52.toInt) (b := 1) rfl rfl (by omega) (by omega)
                        refine lv_iinc (v := z110) (lv' := [(7, .int z110), (6, .int L52), (8, .int 1), (5, .int v49), (0, .ref (ad 64)), (1, .int j), (2, .int t), (3, .int x), (4, .int u)]) hx hb dX9_few_156 hl (k := 2) rfl e111 (by decide) rfl (fun ls hl => ?_)
                        refine lv_goto (tgt := 62) hx hb dX9_few_159 (by decide) ?_
                        exact ih57  z110 L52 wL54 _ _ _ (by omega) (by omega) ok61 kx62 (by omega) h (lv_sub hl [0, 1, 3, 4, 5, 6, 7, 8] rfl)
                      · have hc109 : ¬ (L53).toInt = (-1) := i_ne hc109 rfl rfl
                        refine lv_iload hx hb dX9_few_134 (lv_at hl 1 rfl) ?_
                        refine n_Si (na := 1) (As := [.int L52]) (rest := []) X hD hN h (c_M_bits l G cI cB cZ cO ad wL54   L52  ) ⟨kv_536, kv_537, kv_470, kv_538⟩ ⟨by decide, by decide, by decide⟩ ⟨Nat.le_of_ble_eq_true rfl, Nat.le_of_ble_eq_true rfl⟩ ⟨Nat.zero_le _, Nat.zero_le _⟩ rfl hl.1 rfl (Nat.le_of_ble_eq_true rfl) dX9_few_136 (fun r113 w114 H locs hp115 h => ?_)
                        obtain ⟨rfl, hr116⟩ := hp115
                        refine lv_iload hx hb dX9_few_139 (lv_at hl 2 rfl) ?_
                        refine n_Si (na := 1) (As := [.int L53]) (rest := [.int r113]) X hD hN h (c_M_bits l G cI cB cZ cO ad wL54   L53  ) ⟨kv_536, kv_537, kv_470, kv_538⟩ ⟨by decide, by decide, by decide⟩ ⟨Nat.le_of_ble_eq_true rfl, Nat.le_of_ble_eq_true rfl⟩ ⟨Nat.zero_le _, Nat.zero_le _⟩ rfl hl.1 rfl (Nat.le_of_ble_eq_true rfl) dX9_few_141 (fun r117 w118 H locs hp119 h => ?_)
                        obtain ⟨rfl, hr120⟩ := hp119
                        refine lv_icmp_ge (tgt := 152) hx hb dX9_few_144 (by decide) (fun hc121 => ?_) (fun hc121 => ?_)
                        · have hc121 : (r117).toInt ≤ (r113).toInt := i_le hc121 rfl rfl
                          refine lv_iload hx hb dX9_few_152 (lv_at hl 2 rfl) ?_
                          refine lv_istore (lv' := [(6, .int L53), (8, .int 1), (7, .int L52), (5, .int v49), (0, .ref (ad 64)), (1, .int j), (2, .int t), (3, .int x), (4, .int u)]) hx hb dX9_few_154 hl (by decide) rfl (fun ls hl => ?_)
                          obtain ⟨z122, e123, t124⟩ := x_add (x := L52) (y := 1) (a := L52.toInt) (b := 1) rfl rfl (by omega) (by omega)
                          refine lv_iinc (v := z122) (lv' := [(7, .int z122), (6, .int L53), (8, .int 1), (5, .int v49), (0, .ref (ad 64)), (1, .int j), (2, .int t), (3, .int x), (4, .int u)]) hx hb dX9_few_156 hl (k := 2) rfl e123 (by decide) rfl (fun ls hl => ?_)
                          refine lv_goto (tgt := 62) hx hb dX9_few_159 (by decide) ?_
                          exact ih57  z122 L53 wL54 _ _ _ (by omega) (by omega) ok61 kx62 (by omega) h (lv_sub hl [0, 1, 3, 4, 5, 6, 7, 8] rfl)
                        · have hc121 : ¬ (r117).toInt ≤ (r113).toInt := i_nle hc121 rfl rfl
                          refine lv_iload hx hb dX9_few_147 (lv_at hl 1 rfl) ?_
                          refine lv_goto (tgt := 154) hx hb dX9_few_149 (by decide) ?_
                          refine lv_istore (lv' := [(6, .int L52), (8, .int 1), (7, .int L52), (5, .int v49), (0, .ref (ad 64)), (1, .int j), (2, .int t), (3, .int x), (4, .int u)]) hx hb dX9_few_154 hl (by decide) rfl (fun ls hl => ?_)
                          obtain ⟨z125, e126, t127⟩ := x_add (x := L52) (y := 1) (a := L52.toInt) (b := 1) rfl rfl (by omega) (by omega)
                          refine lv_iinc (v := z125) (lv' := [(7, .int z125), (6, .int L52), (8, .int 1), (5, .int v49), (0, .ref (ad 64)), (1, .int j), (2, .int t), (3, .int x), (4, .int u)]) hx hb dX9_few_156 hl (k := 2) rfl e126 (by decide) rfl (fun ls hl => ?_)
                          refine lv_goto (tgt := 62) hx hb dX9_few_159 (by decide) ?_
                          exact ih57  z125 L52 wL54 _ _ _ (by omega) (by omega) ok61 kx62 (by omega) h (lv_sub hl [0, 1, 3, 4, 5, 6, 7, 8] rfl)
                  · refine lv_if_eq (tgt := 120) hx hb dX9_few_100 (by decide) (fun _ => ?_) (fun hc => absurd (by decide) hc)
                    refine lv_iconst (v := 0) hx hb dX9_few_120 (by decide) ?_
                    refine lv_istore (lv' := [(8, .int 0), (7, .int L52), (6, .int L53), (5, .int v49), (0, .ref (ad 64)), (1, .int j), (2, .int t), (3, .int x), (4, .int u)]) hx hb dX9_few_121 hl (by decide) rfl (fun ls hl => ?_)
                    refine lv_iload hx hb dX9_few_123 (lv_at hl 0 rfl) ?_
                    refine lv_if_eq (tgt := 152) hx hb dX9_few_125 (by decide) (fun _ => ?_) (fun hc => absurd (by decide) hc)
                    refine lv_iload hx hb dX9_few_152 (lv_at hl 2 rfl) ?_
                    refine lv_istore (lv' := [(6, .int L53), (8, .int 0), (7, .int L52), (5, .int v49), (0, .ref (ad 64)), (1, .int j), (2, .int t), (3, .int x), (4, .int u)]) hx hb dX9_few_154 hl (by decide) rfl (fun ls hl => ?_)
                    obtain ⟨z128, e129, t130⟩ := x_add (x := L52) (y := 1) (a := L52.toInt) (b := 1) rfl rfl (by omega) (by omega)
                    refine lv_iinc (v := z128) (lv' := [(7, .int z128), (6, .int L53), (8, .int 0), (5, .int v49), (0, .ref (ad 64)), (1, .int j), (2, .int t), (3, .int x), (4, .int u)]) hx hb dX9_few_156 hl (k := 2) rfl e129 (by decide) rfl (fun ls hl => ?_)
                    refine lv_goto (tgt := 62) hx hb dX9_few_159 (by decide) ?_
                    exact ih57  z128 L53 wL54 _ _ _ (by omega) (by omega) ok61 kx62 (by omega) h (lv_sub hl [0, 1, 3, 4, 5, 6, 7, 8] rfl)
                · have hc93 : ¬ (v49).toInt = 0 := i_ne hc93 rfl rfl
                  refine lv_aload_n hx hb dX9_few_80 rfl (lv_at hl 3 rfl) ?_
                  refine r_get kc9 X h 64 0 (by decide) rfl f75 (by decide) kv_467 rfl dX9_few_81 ?_
                  refine lv_bipush (v := 12) hx hb dX9_few_84 (by decide) ?_
                  refine lv_iload_n hx hb dX9_few_86 rfl (lv_at hl 4 rfl) ?_
                  obtain ⟨z133, e131, t132⟩ := x_add (x := (12 : Int32)) (y := j) (a := 12) (b := (j).toInt) rfl rfl (by omega) (by omega)
                  refine o_iadd (z := z133) hx hb dX9_few_87 e131 ?_
                  obtain ⟨v134, e135⟩ : ∃ z : Int32, g77 (z133).toNatClampNeg = z := ⟨_, rfl⟩
                  refine o_iald (v := v134) X h 65 0 (by decide) rfl f79 rfl (in_of (by omega) (by omega)) e135 dX9_few_88 ?_
                  refine lv_iload_n hx hb dX9_few_89 rfl (lv_at hl 5 rfl) ?_
                  refine lv_icmp_ne (tgt := 162) hx hb dX9_few_90 (by decide) (fun hc137 => ?_) (fun hc137 => ?_)
                  · have hc137 : ¬ (v134).toInt = (t).toInt := i_ne hc137 rfl rfl
                    refine lv_iload hx hb dX9_few_162 (lv_at hl 1 rfl) ?_
                    refine lv_iconst (v := (-1)) hx hb dX9_few_164 (by decide) ?_
                    refine lv_icmp_eq (tgt := 174) hx hb dX9_few_165 (by decide) (fun hc138 => ?_) (fun hc138 => ?_)
                    · have hc138 : (L53).toInt = (-1) := i_eq hc138 rfl rfl
                      refine lv_iload hx hb dX9_few_174 (lv_at hl 1 rfl) ?_
                      refine lv_goto (tgt := 184) hx hb dX9_few_176 (by decide) ?_
                      exact e_i X h hr hlk dX9_few_184 ⟨ok61, kx62, trivial⟩
                    · have hc138 : ¬ (L53).toInt = (-1) := i_ne hc138 rfl rfl
                      refine lv_iload hx hb dX9_few_168 (lv_at hl 7 rfl) ?_
                      refine lv_iconst (v := 1) hx hb dX9_few_170 (by decide) ?_
                      refine lv_icmp_ne (tgt := 179) hx hb dX9_few_171 (by decide) (fun hc139 => ?_) (fun hc139 => ?_)
                      · have hc139 : ¬ (u).toInt = 1 := i_ne hc139 rfl rfl
                        refine lv_iload hx hb dX9_few_179 (lv_at hl 1 rfl) ?_
                        refine n_Si (na := 1) (As := [.int L53]) (rest := []) X hD hN h (c_M_bits l G cI cB cZ cO ad wL54   L53  ) ⟨kv_536, kv_537, kv_470, kv_538⟩ ⟨by decide, by decide, by decide⟩ ⟨Nat.le_of_ble_eq_true rfl, Nat.le_of_ble_eq_true rfl⟩ ⟨Nat.zero_le _, Nat.zero_le _⟩ rfl hl.1 rfl (Nat.le_of_ble_eq_true rfl) dX9_few_181 (fun r140 w141 H locs hp142 h => ?_)
                        obtain ⟨rfl, hr143⟩ := hp142
                        exact e_i X h hr hlk dX9_few_184 ⟨ok61, kx62, trivial⟩
                      · have hc139 : (u).toInt = 1 := i_eq hc139 rfl rfl
                        refine lv_iload hx hb dX9_few_174 (lv_at hl 1 rfl) ?_
                        refine lv_goto (tgt := 184) hx hb dX9_few_176 (by decide) ?_
                        exact e_i X h hr hlk dX9_few_184 ⟨ok61, kx62, trivial⟩
                  · have hc137 : (v134).toInt = (t).toInt := i_eq hc137 rfl rfl
                    refine lv_aload_n hx hb dX9_few_93 rfl (lv_at hl 3 rfl) ?_
                    refine lv_iload hx hb dX9_few_94 (lv_at hl 0 rfl) ?_
                    refine lv_iload_n hx hb dX9_few_96 rfl (lv_at hl 5 rfl) ?_
                    refine n_Vi (na := 2) (As := [.int L52, .int t]) (rest := []) X hD hN h rfl (c_M_isOfTaste l G cI cB cZ cO ad wL54  ok61 L52 t  ) ⟨kv_579, kv_580, kv_581, kv_470, kv_582⟩ rfl ⟨by decide, by decide, by decide⟩ ⟨Nat.le_of_ble_eq_true rfl, Nat.le_of_ble_eq_true rfl⟩ ⟨Nat.zero_le _, Nat.zero_le _⟩ (by decide) f75 rfl rfl hl.1 rfl (Nat.le_of_ble_eq_true rfl) dX9_few_97 (fun r144 w145 H locs hp146 h => ?_)
                    obtain ⟨rfl, hr147⟩ := hp146
                    rcases hr147 with rfl | rfl
                    · refine lv_if_eq (tgt := 120) hx hb dX9_few_100 (by decide) (fun hc => absurd hc (by decide)) (fun _ => ?_)
                      refine lv_iload hx hb dX9_few_103 (lv_at hl 2 rfl) ?_
                      refine lv_aload_n hx hb dX9_few_105 rfl (lv_at hl 3 rfl) ?_
                      refine lv_iload hx hb dX9_few_106 (lv_at hl 0 rfl) ?_
                      refine n_Vi (na := 1) (As := [.int L52]) (rest := [.int v49]) X hD hN h rfl (c_M_givenBy l G cI cB cZ cO ad wL54  ok61 L52  ) ⟨kv_583, kv_584, kv_585, kv_470, kv_586⟩ rfl ⟨by decide, by decide, by decide⟩ ⟨Nat.le_of_ble_eq_true rfl, Nat.le_of_ble_eq_true rfl⟩ ⟨Nat.zero_le _, Nat.zero_le _⟩ (by decide) f75 rfl rfl hl.1 rfl (Nat.le_of_ble_eq_true rfl) dX9_few_108 (fun r148 w149 H locs hp150 h => ?_)
                      obtain ⟨rfl, hr151⟩ := hp150
                      obtain ⟨z154, e152⟩ : ∃ z : Int32, v49 + r148 = z := ⟨_, rfl⟩
                      refine o_iadd (z := z154) hx hb dX9_few_111 e152 ?_
                      refine lv_iload_n hx hb dX9_few_112 rfl (lv_at hl 6 rfl) ?_
                      refine lv_icmp_lt (tgt := 120) hx hb dX9_few_113 (by decide) (fun hc155 => ?_) (fun hc155 => ?_)
                      · have hc155 : (z154).toInt < (x).toInt := i_lt hc155 rfl rfl
                        refine lv_iconst (v := 0) hx hb dX9_few_120 (by decide) ?_
                        refine lv_istore (lv' := [(8, .int 0), (7, .int L52), (6, .int L53), (5, .int v49), (0, .ref (ad 64)), (1, .int j), (2, .int t), (3, .int x), (4, .int u)]) hx hb dX9_few_121 hl (by decide) rfl (fun ls hl => ?_)
                        refine lv_iload hx hb dX9_few_123 (lv_at hl 0 rfl) ?_
                        refine lv_if_eq (tgt := 152) hx hb dX9_few_125 (by decide) (fun _ => ?_) (fun hc => absurd (by decide) hc)
                        refine lv_iload hx hb dX9_few_152 (lv_at hl 2 rfl) ?_
                        refine lv_istore (lv' := [(6, .int L53), (8, .int 0), (7, .int L52), (5, .int v49), (0, .ref (ad 64)), (1, .int j), (2, .int t), (3, .int x), (4, .int u)]) hx hb dX9_few_154 hl (by decide) rfl (fun ls hl => ?_)
                        obtain ⟨z156, e157, t158⟩ := x_add (x := L52) (y := 1) (a := L52.toInt) (b := 1) rfl rfl (by omega) (by omega)
                        refine lv_iinc (v := z156) (lv' := [(7, .int z156), (6, .int L53), (8, .int 0), (5, .int v49), (0, .ref (ad 64)), (1, .int j), (2, .int t), (3, .int x), (4, .int u)]) hx hb dX9_few_156 hl (k := 2) rfl e157 (by decide) rfl (fun ls hl => ?_)
                        refine lv_goto (tgt := 62) hx hb dX9_few_159 (by decide) ?_
                        exact ih57  z156 L53 wL54 _ _ _ (by omega) (by omega) ok61 kx62 (by omega) h (lv_sub hl [0, 1, 3, 4, 5, 6, 7, 8] rfl)
                      · have hc155 : ¬ (z154).toInt < (x).toInt := i_nlt hc155 rfl rfl
                        refine lv_iconst (v := 1) hx hb dX9_few_116 (by decide) ?_
                        refine lv_goto (tgt := 121) hx hb dX9_few_117 (by decide) ?_
                        refine lv_istore (lv' := [(8, .int 1), (7, .int L52), (6, .int L53), (5, .int v49), (0, .ref (ad 64)), (1, .int j), (2, .int t), (3, .int x), (4, .int u)]) hx hb dX9_few_121 hl (by decide) rfl (fun ls hl => ?_)
                        refine lv_iload hx hb dX9_few_123 (lv_at hl 0 rfl) ?_
                        refine lv_if_eq (tgt := 152) hx hb dX9_few_125 (by decide) (fun hc => absurd hc (by decide)) (fun _ => ?_)
                        refine lv_iload hx hb dX9_few_128 (lv_at hl 2 rfl) ?_
                        refine lv_iconst (v := (-1)) hx hb dX9_few_130 (by decide) ?_
                        refine lv_icmp_eq (tgt := 147) hx hb dX9_few_131 (by decide) (fun hc159 => ?_) (fun hc159 => ?_)
                        · have hc159 : (L53).toInt = (-1) := i_eq hc159 rfl rfl
                          refine lv_iload hx hb dX9_few_147 (lv_at hl 1 rfl) ?_
                          refine lv_goto (tgt := 154) hx hb dX9_few_149 (by decide) ?_
                          refine lv_istore (lv' := [(6, .int L52), (8, .int 1), (7, .int L52), (5, .int v49), (0, .ref (ad 64)), (1, .int j), (2, .int t), (3, .int x), (4, .int u)]) hx hb dX9_few_154 hl (by decide) rfl (fun ls hl => ?_)
                          obtain ⟨z160, e161, t162⟩ := x_add (x := L52) (y := 1) (a := L52.toInt) (b := 1) rfl rfl (by omega) (by omega)
                          refine lv_iinc (v := z160) (lv' := [(7, .int z160), (6, .int L52), (8, .int 1), (5, .int v49), (0, .ref (ad 64)), (1, .int j), (2, .int t), (3, .int x), (4, .int u)]) hx hb dX9_few_156 hl (k := 2) rfl e161 (by decide) rfl (fun ls hl => ?_)
                          refine lv_goto (tgt := 62) hx hb dX9_few_159 (by decide) ?_
                          exact ih57  z160 L52 wL54 _ _ _ (by omega) (by omega) ok61 kx62 (by omega) h (lv_sub hl [0, 1, 3, 4, 5, 6, 7, 8] rfl)
                        · have hc159 : ¬ (L53).toInt = (-1) := i_ne hc159 rfl rfl
                          refine lv_iload hx hb dX9_few_134 (lv_at hl 1 rfl) ?_
                          refine n_Si (na := 1) (As := [.int L52]) (rest := []) X hD hN h (c_M_bits l G cI cB cZ cO ad wL54   L52  ) ⟨kv_536, kv_537, kv_470, kv_538⟩ ⟨by decide, by decide, by decide⟩ ⟨Nat.le_of_ble_eq_true rfl, Nat.le_of_ble_eq_true rfl⟩ ⟨Nat.zero_le _, Nat.zero_le _⟩ rfl hl.1 rfl (Nat.le_of_ble_eq_true rfl) dX9_few_136 (fun r163 w164 H locs hp165 h => ?_)
                          obtain ⟨rfl, hr166⟩ := hp165
                          refine lv_iload hx hb dX9_few_139 (lv_at hl 2 rfl) ?_
                          refine n_Si (na := 1) (As := [.int L53]) (rest := [.int r163]) X hD hN h (c_M_bits l G cI cB cZ cO ad wL54   L53  ) ⟨kv_536, kv_537, kv_470, kv_538⟩ ⟨by decide, by decide, by decide⟩ ⟨Nat.le_of_ble_eq_true rfl, Nat.le_of_ble_eq_true rfl⟩ ⟨Nat.zero_le _, Nat.zero_le _⟩ rfl hl.1 rfl (Nat.le_of_ble_eq_true rfl) dX9_few_141 (fun r167 w168 H locs hp169 h => ?_)
                          obtain ⟨rfl, hr170⟩ := hp169
                          refine lv_icmp_ge (tgt := 152) hx hb dX9_few_144 (by decide) (fun hc171 => ?_) (fun hc171 => ?_)
                          · have hc171 : (r167).toInt ≤ (r163).toInt := i_le hc171 rfl rfl
                            refine lv_iload hx hb dX9_few_152 (lv_at hl 2 rfl) ?_
                            refine lv_istore (lv' := [(6, .int L53), (8, .int 1), (7, .int L52), (5, .int v49), (0, .ref (ad 64)), (1, .int j), (2, .int t), (3, .int x), (4, .int u)]) hx hb dX9_few_154 hl (by decide) rfl (fun ls hl => ?_)
                            obtain ⟨z172, e173, t174⟩ := x_add (x := L52) (y := 1) (a := L52.toInt) (b := 1) rfl rfl (by omega) (by omega)
                            refine lv_iinc (v := z172) (lv' := [(7, .int z172), (6, .int L53), (8, .int 1), (5, .int v49), (0, .ref (ad 64)), (1, .int j), (2, .int t), (3, .int x), (4, .int u)]) hx hb dX9_few_156 hl (k := 2) rfl e173 (by decide) rfl (fun ls hl => ?_)
                            refine lv_goto (tgt := 62) hx hb dX9_few_159 (by decide) ?_
                            exact ih57  z172 L53 wL54 _ _ _ (by omega) (by omega) ok61 kx62 (by omega) h (lv_sub hl [0, 1, 3, 4, 5, 6, 7, 8] rfl)
                          · have hc171 : ¬ (r167).toInt ≤ (r163).toInt := i_nle hc171 rfl rfl
                            refine lv_iload hx hb dX9_few_147 (lv_at hl 1 rfl) ?_
                            refine lv_goto (tgt := 154) hx hb dX9_few_149 (by decide) ?_
                            refine lv_istore (lv' := [(6, .int L52), (8, .int 1), (7, .int L52), (5, .int v49), (0, .ref (ad 64)), (1, .int j), (2, .int t), (3, .int x), (4, .int u)]) hx hb dX9_few_154 hl (by decide) rfl (fun ls hl => ?_)
                            obtain ⟨z175, e176, t177⟩ := x_add (x := L52) (y := 1) (a := L52.toInt) (b := 1) rfl rfl (by omega) (by omega)
                            refine lv_iinc (v := z175) (lv' := [(7, .int z175), (6, .int L52), (8, .int 1), (5, .int v49), (0, .ref (ad 64)), (1, .int j), (2, .int t), (3, .int x), (4, .int u)]) hx hb dX9_few_156 hl (k := 2) rfl e176 (by decide) rfl (fun ls hl => ?_)
                            refine lv_goto (tgt := 62) hx hb dX9_few_159 (by decide) ?_
                            exact ih57  z175 L52 wL54 _ _ _ (by omega) (by omega) ok61 kx62 (by omega) h (lv_sub hl [0, 1, 3, 4, 5, 6, 7, 8] rfl)
                    · refine lv_if_eq (tgt := 120) hx hb dX9_few_100 (by decide) (fun _ => ?_) (fun hc => absurd (by decide) hc)
                      refine lv_iconst (v := 0) hx hb dX9_few_120 (by decide) ?_
                      refine lv_istore (lv' := [(8, .int 0), (7, .int L52), (6, .int L53), (5, .int v49), (0, .ref (ad 64)), (1, .int j), (2, .int t), (3, .int x), (4, .int u)]) hx hb dX9_few_121 hl (by decide) rfl (fun ls hl => ?_)
                      refine lv_iload hx hb dX9_few_123 (lv_at hl 0 rfl) ?_
                      refine lv_if_eq (tgt := 152) hx hb dX9_few_125 (by decide) (fun _ => ?_) (fun hc => absurd (by decide) hc)
                      refine lv_iload hx hb dX9_few_152 (lv_at hl 2 rfl) ?_
                      refine lv_istore (lv' := [(6, .int L53), (8, .int 0), (7, .int L52), (5, .int v49), (0, .ref (ad 64)), (1, .int j), (2, .int t), (3, .int x), (4, .int u)]) hx hb dX9_few_154 hl (by decide) rfl (fun ls hl => ?_)
                      obtain ⟨z178, e179, t180⟩ := x_add (x := L52) (y := 1) (a := L52.toInt) (b := 1) rfl rfl (by omega) (by omega)
                      refine lv_iinc (v := z178) (lv' := [(7, .int z178), (6, .int L53), (8, .int 0), (5, .int v49), (0, .ref (ad 64)), (1, .int j), (2, .int t), (3, .int x), (4, .int u)]) hx hb dX9_few_156 hl (k := 2) rfl e179 (by decide) rfl (fun ls hl => ?_)
                      refine lv_goto (tgt := 62) hx hb dX9_few_159 (by decide) ?_
                      exact ih57  z178 L53 wL54 _ _ _ (by omega) (by omega) ok61 kx62 (by omega) h (lv_sub hl [0, 1, 3, 4, 5, 6, 7, 8] rfl)
          exact hloop55 129 (0 : Int32) ((-1) : Int32) w _ _ _ (by have q0 : (0 : Int32).toInt = 0 := rfl; have q1 : ((-1) : Int32).toInt = (-1) := rfl; omega) (by have q0 : (0 : Int32).toInt = 0 := rfl; have q1 : ((-1) : Int32).toInt = (-1) := rfl; omega) ok KM.rf (by have q0 : (0 : Int32).toInt = 0 := rfl; have q1 : ((-1) : Int32).toInt = (-1) := rfl; omega) h (lv_sub hl [0, 1, 2, 3, 4, 5, 6, 7] rfl)
        · refine lv_if_ne (tgt := 45) hx hb dX9_few_35 (by decide) (fun hc => absurd (by decide) hc) (fun _ => ?_)
          refine lv_aload_n hx hb dX9_few_38 rfl (lv_at hl 0 rfl) ?_
          refine lv_bipush (v := (-2)) hx hb dX9_few_39 (by decide) ?_
          refine n_Vi (na := 1) (As := [.int (-2)]) (rest := []) X hD hN h rfl (c_M_bad l G cI cB cZ cO ad w  ok ((-2) : Int32)  ) ⟨kv_553, kv_554, kv_555, kv_470, kv_556⟩ rfl ⟨by decide, by decide, by decide⟩ ⟨Nat.le_of_ble_eq_true rfl, Nat.le_of_ble_eq_true rfl⟩ ⟨Nat.zero_le _, Nat.zero_le _⟩ (by decide) f15 rfl rfl hl.1 rfl (Nat.le_of_ble_eq_true rfl) dX9_few_41 (fun r181 w182 H locs hp183 h => ?_)
          obtain ⟨ok185, kk186, hr184⟩ := hp183
          have kx187 : KM w w182 := kk186
          subst hr184
          exact e_i X h hr hlk dX9_few_44 ⟨ok185, kx187, trivial⟩
      · refine lv_if_eq (tgt := 38) hx hb dX9_few_24 (by decide) (fun _ => ?_) (fun hc => absurd (by decide) hc)
        refine lv_aload_n hx hb dX9_few_38 rfl (lv_at hl 0 rfl) ?_
        refine lv_bipush (v := (-2)) hx hb dX9_few_39 (by decide) ?_
        refine n_Vi (na := 1) (As := [.int (-2)]) (rest := []) X hD hN h rfl (c_M_bad l G cI cB cZ cO ad w  ok ((-2) : Int32)  ) ⟨kv_553, kv_554, kv_555, kv_470, kv_556⟩ rfl ⟨by decide, by decide, by decide⟩ ⟨Nat.le_of_ble_eq_true rfl, Nat.le_of_ble_eq_true rfl⟩ ⟨Nat.zero_le _, Nat.zero_le _⟩ (by decide) f15 rfl rfl hl.1 rfl (Nat.le_of_ble_eq_true rfl) dX9_few_41 (fun r188 w189 H locs hp190 h => ?_)
        obtain ⟨ok192, kk193, hr191⟩ := hp190
        have kx194 : KM w w189 := kk193
        subst hr191
        exact e_i X h hr hlk dX9_few_44 ⟨ok192, kx194, trivial⟩
    · refine lv_if_eq (tgt := 38) hx hb dX9_few_12 (by decide) (fun _ => ?_) (fun hc => absurd (by decide) hc)
      refine lv_aload_n hx hb dX9_few_38 rfl (lv_at hl 0 rfl) ?_
      refine lv_bipush (v := (-2)) hx hb dX9_few_39 (by decide) ?_
      refine n_Vi (na := 1) (As := [.int (-2)]) (rest := []) X hD hN h rfl (c_M_bad l G cI cB cZ cO ad w  ok ((-2) : Int32)  ) ⟨kv_553, kv_554, kv_555, kv_470, kv_556⟩ rfl ⟨by decide, by decide, by decide⟩ ⟨Nat.le_of_ble_eq_true rfl, Nat.le_of_ble_eq_true rfl⟩ ⟨Nat.zero_le _, Nat.zero_le _⟩ (by decide) f15 rfl rfl hl.1 rfl (Nat.le_of_ble_eq_true rfl) dX9_few_41 (fun r195 w196 H locs hp197 h => ?_)
      obtain ⟨ok199, kk200, hr198⟩ := hp197
      have kx201 : KM w w196 := kk200
      subst hr198
      exact e_i X h hr hlk dX9_few_44 ⟨ok199, kx201, trivial⟩
  · refine lv_if_eq (tgt := 38) hx hb dX9_few_5 (by decide) (fun _ => ?_) (fun hc => absurd (by decide) hc)
    refine lv_aload_n hx hb dX9_few_38 rfl (lv_at hl 0 rfl) ?_
    refine lv_bipush (v := (-2)) hx hb dX9_few_39 (by decide) ?_
    refine n_Vi (na := 1) (As := [.int (-2)]) (rest := []) X hD hN h rfl (c_M_bad l G cI cB cZ cO ad w  ok ((-2) : Int32)  ) ⟨kv_553, kv_554, kv_555, kv_470, kv_556⟩ rfl ⟨by decide, by decide, by decide⟩ ⟨Nat.le_of_ble_eq_true rfl, Nat.le_of_ble_eq_true rfl⟩ ⟨Nat.zero_le _, Nat.zero_le _⟩ (by decide) f15 rfl rfl hl.1 rfl (Nat.le_of_ble_eq_true rfl) dX9_few_41 (fun r202 w203 H locs hp204 h => ?_)
    obtain ⟨ok206, kk207, hr205⟩ := hp204
    have kx208 : KM w w203 := kk207
    subst hr205
    exact e_i X h hr hlk dX9_few_44 ⟨ok206, kx208, trivial⟩

set_option maxHeartbeats 4000000 in
set_option maxRecDepth 100000 in
theorem c_M_into_ (l : Launch) (G : va_G) (cI cB cZ cO : ClassId) (ad : Nat → Nat) (w : Nat → va_E)  (ok : OK cI cB cZ cO ad w) (j : Int32) (n : Int32) (u : Int32)   : NI l G (tyq cI cB cZ cO) yX9_into cX9_into 9 (some .int) 3 67 74 ad w [.ref (ad 64), .int j, .int n, .int u] (fun r w1 => OK cI cB cZ cO ad w1 ∧ KM w w1 ∧ True) := by
  refine nk_i (own := "NoonShadeModel") rfl (by decide) (Nat.le_of_ble_eq_true rfl) ?_
  intro p e s m below meth c ls X hD hN hr hlk h hl
  have hx := X.1.1
  have hb := X.1.2.1
  have hown := X.1.2.2.2.1
  have hts := X.1.2.2.2.2
  have hl : lv_has ls 9 [(0, .ref (ad 64)), (1, .int j), (2, .int n), (3, .int u)] := hl
  refine lv_aload_n hx hb dX9_into_0 rfl (lv_at hl 0 rfl) ?_
  refine lv_iload_n hx hb dX9_into_1 rfl (lv_at hl 1 rfl) ?_
  obtain ⟨x5, x6, t7, t8, t9, t10, t11, t12, f4, h13, h14⟩ := (show sM ad (w 64) from ok 64 (by decide))
  have f15 : w 64 = .inr (7, [.ref (ad 65), .ref (ad 66), .ref (ad 67), .ref (ad 68), .long x5, .long x6, .ref (ad 69), .int t7, .ref (ad 70), .ref (ad 71), .int t8, .int t9, .int t10, .int t11, .int t12, .ref (ad 72), .ref (ad 73)]) := f4
  refine n_Vi (na := 1) (As := [.int j]) (rest := []) X hD hN h rfl (c_M_isJar l G cI cB cZ cO ad w  ok j  ) ⟨kv_541, kv_542, kv_543, kv_470, kv_544⟩ rfl ⟨by decide, by decide, by decide⟩ ⟨Nat.le_of_ble_eq_true rfl, Nat.le_of_ble_eq_true rfl⟩ ⟨Nat.zero_le _, Nat.zero_le _⟩ (by decide) f15 rfl rfl hl.1 rfl (Nat.le_of_ble_eq_true rfl) dX9_into_2 (fun r1 w2 H locs hp3 h => ?_)
  obtain ⟨rfl, hr16⟩ := hp3
  rcases hr16 with ⟨hq17, hq18, rfl⟩ | rfl
  · refine lv_if_eq (tgt := 30) hx hb dX9_into_5 (by decide) (fun hc => absurd hc (by decide)) (fun _ => ?_)
    refine lv_iload_n hx hb dX9_into_8 rfl (lv_at hl 2 rfl) ?_
    obtain ⟨z19, e20⟩ : ∃ z : Int64, n.toInt64 = z := ⟨_, rfl⟩
    have tz19 : z19.toInt = (n).toInt := by rw [← e20]; exact Int32.toInt_toInt64 _
    refine lv_i2l (v := z19) hx hb dX9_into_9 e20 ?_
    refine lv_lconst (v := 1) hx hb dX9_into_10 (by decide) ?_
    refine lv_ldc2 (v := 30) hx hb hown (hts _ kv_587) dX9_into_11 ?_
    refine n_Si (na := 3) (As := [.long z19, .long 1, .long 30]) (rest := []) X hD hN h (c_M_in l G cI cB cZ cO ad w z19 (1 : Int64) (30 : Int64) ((n).toInt) 1 30 tz19 rfl rfl) ⟨kv_468, kv_469, kv_470, kv_471⟩ ⟨by decide, by decide, by decide⟩ ⟨Nat.le_of_ble_eq_true rfl, Nat.le_of_ble_eq_true rfl⟩ ⟨Nat.zero_le _, Nat.zero_le _⟩ rfl hl.1 rfl (Nat.le_of_ble_eq_true rfl) dX9_into_14 (fun r21 w22 H locs hp23 h => ?_)
    obtain ⟨rfl, hq24⟩ := hp23
    rcases hq24 with ⟨hq25, hq26, rfl⟩ | ⟨hq24, rfl⟩
    · refine lv_if_eq (tgt := 30) hx hb dX9_into_17 (by decide) (fun hc => absurd hc (by decide)) (fun _ => ?_)
      refine lv_iload_n hx hb dX9_into_20 rfl (lv_at hl 3 rfl) ?_
      obtain ⟨z27, e28⟩ : ∃ z : Int64, u.toInt64 = z := ⟨_, rfl⟩
      have tz27 : z27.toInt = (u).toInt := by rw [← e28]; exact Int32.toInt_toInt64 _
      refine lv_i2l (v := z27) hx hb dX9_into_21 e28 ?_
      refine lv_lconst (v := 0) hx hb dX9_into_22 (by decide) ?_
      refine lv_lconst (v := 1) hx hb dX9_into_23 (by decide) ?_
      refine n_Si (na := 3) (As := [.long z27, .long 0, .long 1]) (rest := []) X hD hN h (c_M_in l G cI cB cZ cO ad w z27 (0 : Int64) (1 : Int64) ((u).toInt) 0 1 tz27 rfl rfl) ⟨kv_468, kv_469, kv_470, kv_471⟩ ⟨by decide, by decide, by decide⟩ ⟨Nat.le_of_ble_eq_true rfl, Nat.le_of_ble_eq_true rfl⟩ ⟨Nat.zero_le _, Nat.zero_le _⟩ rfl hl.1 rfl (Nat.le_of_ble_eq_true rfl) dX9_into_24 (fun r29 w30 H locs hp31 h => ?_)
      obtain ⟨rfl, hq32⟩ := hp31
      rcases hq32 with ⟨hq33, hq34, rfl⟩ | ⟨hq32, rfl⟩
      · refine lv_if_ne (tgt := 37) hx hb dX9_into_27 (by decide) (fun _ => ?_) (fun hc => absurd hc (by decide))
        refine lv_iconst (v := (-1)) hx hb dX9_into_37 (by decide) ?_
        refine lv_istore (lv' := [(4, .int (-1)), (0, .ref (ad 64)), (1, .int j), (2, .int n), (3, .int u)]) hx hb dX9_into_38 hl (by decide) rfl (fun ls hl => ?_)
        refine lv_iconst (v := (-1)) hx hb dX9_into_40 (by decide) ?_
        refine lv_istore (lv' := [(5, .int (-1)), (4, .int (-1)), (0, .ref (ad 64)), (1, .int j), (2, .int n), (3, .int u)]) hx hb dX9_into_41 hl (by decide) rfl (fun ls hl => ?_)
        refine lv_iconst (v := 0) hx hb dX9_into_43 (by decide) ?_
        refine lv_istore (lv' := [(6, .int 0), (5, .int (-1)), (4, .int (-1)), (0, .ref (ad 64)), (1, .int j), (2, .int n), (3, .int u)]) hx hb dX9_into_44 hl (by decide) rfl (fun ls hl => ?_)
        have hloop39 : ∀ (d40 : Nat) (L35 : Int32) (L36 : Int32) (L37 : Int32) (wL38 : Nat → va_E) (H : Heap) (locs : List Loc) (ls : Array Slot), 0 ≤ L35.toInt → L35.toInt ≤ 4 → OK cI cB cZ cO ad wL38 → KM w wL38 → 4 - L35.toInt < (d40 : Int) → St G 74 ad (wA 74 ad s.heap.size) s.heap wL38 H locs → lv_has ls 9 [(6, .int L35), (5, .int L36), (4, .int L37), (0, .ref (ad 64)), (1, .int j), (2, .int n), (3, .int u)] → W p l e { frames := 3, cells := 0, slots := 0, locals := 67 } s m [.ref (ad 64), .int j, .int n, .int u].toArray below meth c H locs 0 0 (MQ below (va_Qi (fun r w1 => OK cI cB cZ cO ad w1 ∧ KM w w1 ∧ True) (Aft G 74 ad) (wA 74 ad s.heap.size)) [.ref (ad 64), .int j, .int n, .int u].toArray s 0 0 (wA 74 ad s.heap.size)) (F0 m 46 ls []) := by
          intro d40
          induction d40 with
          | zero => intro L35 L36 L37 wL38 H locs ls hi43 hi44 ok45 kx46 hm42 h hl; exfalso; omega
          | succ d40 ih41 =>
            intro L35 L36 L37 wL38 H locs ls hi43 hi44 ok45 kx46 hm42 h hl
            refine lv_iload hx hb dX9_into_46 (lv_at hl 0 rfl) ?_
            refine lv_aload_n hx hb dX9_into_48 rfl (lv_at hl 3 rfl) ?_
            obtain ⟨x49, x50, t51, t52, t53, t54, t55, t56, f48, h57, h58⟩ := (show sM ad (wL38 64) from ok45 64 (by decide))
            have f59 : wL38 64 = .inr (7, [.ref (ad 65), .ref (ad 66), .ref (ad 67), .ref (ad 68), .long x49, .long x50, .ref (ad 69), .int t51, .ref (ad 70), .ref (ad 71), .int t52, .int t53, .int t54, .int t55, .int t56, .ref (ad 72), .ref (ad 73)]) := f48
            refine r_get kc9 X h 64 0 (by decide) rfl f59 (by decide) kv_467 rfl dX9_into_49 ?_
            refine lv_iconst (v := 1) hx hb dX9_into_52 (by decide) ?_
            obtain ⟨g61, f60, p62⟩ := (show sA cI 177 (alA) (wL38 65) from ok45 65 (by decide))
            have f63 : wL38 65 = .inl (cI, 177, .inl g61) := f60
            obtain ⟨v64, e65⟩ : ∃ z : Int32, g61 1 = z := ⟨_, rfl⟩
            have h66 := (alA_rd p62 e65).2.1 rfl
            refine o_iald (v := v64) X h 65 0 (by decide) rfl f63 rfl (by unfold vp_in; decide) e65 dX9_into_53 ?_
            refine lv_icmp_ge (tgt := 173) hx hb dX9_into_54 (by decide) (fun hc67 => ?_) (fun hc67 => ?_)
            · have hc67 : (v64).toInt ≤ (L35).toInt := i_le hc67 rfl rfl
              refine lv_iload_n hx hb dX9_into_173 rfl (lv_at hl 6 rfl) ?_
              refine lv_if_ne (tgt := 182) hx hb dX9_into_174 (by decide) (fun hc68 => ?_) (fun hc68 => ?_)
              · have hc68 : ¬ (u).toInt = 0 := i_ne hc68 rfl rfl
                refine lv_iload hx hb dX9_into_182 (lv_at hl 1 rfl) ?_
                exact e_i X h hr hlk dX9_into_184 ⟨ok45, kx46, trivial⟩
              · have hc68 : (u).toInt = 0 := i_eq hc68 rfl rfl
                refine lv_iload hx hb dX9_into_177 (lv_at hl 2 rfl) ?_
                refine lv_goto (tgt := 184) hx hb dX9_into_179 (by decide) ?_
                exact e_i X h hr hlk dX9_into_184 ⟨ok45, kx46, trivial⟩
            · have hc67 : ¬ (v64).toInt ≤ (L35).toInt := i_nle hc67 rfl rfl
              refine lv_aload_n hx hb dX9_into_57 rfl (lv_at hl 3 rfl) ?_
              refine r_get kc9 X h 64 0 (by decide) rfl f59 (by decide) kv_467 rfl dX9_into_58 ?_
              refine lv_bipush (v := 8) hx hb dX9_into_61 (by decide) ?_
              refine lv_iload_n hx hb dX9_into_63 rfl (lv_at hl 4 rfl) ?_
              obtain ⟨z71, e69, t70⟩ := x_add (x := (8 : Int32)) (y := j) (a := 8) (b := (j).toInt) rfl rfl (by omega) (by omega)
              refine o_iadd (z := z71) hx hb dX9_into_64 e69 ?_
              obtain ⟨v72, e73⟩ : ∃ z : Int32, g61 (z71).toNatClampNeg = z := ⟨_, rfl⟩
              refine o_iald (v := v72) X h 65 0 (by decide) rfl f63 rfl (in_of (by omega) (by omega)) e73 dX9_into_65 ?_
              refine lv_if_le (tgt := 173) hx hb dX9_into_66 (by decide) (fun hc75 => ?_) (fun hc75 => ?_)
              · have hc75 : (v72).toInt ≤ 0 := i_le hc75 rfl rfl
                refine lv_iload_n hx hb dX9_into_173 rfl (lv_at hl 6 rfl) ?_
                refine lv_if_ne (tgt := 182) hx hb dX9_into_174 (by decide) (fun hc76 => ?_) (fun hc76 => ?_)
                · have hc76 : ¬ (u).toInt = 0 := i_ne hc76 rfl rfl
                  refine lv_iload hx hb dX9_into_182 (lv_at hl 1 rfl) ?_
                  exact e_i X h hr hlk dX9_into_184 ⟨ok45, kx46, trivial⟩
                · have hc76 : (u).toInt = 0 := i_eq hc76 rfl rfl
                  refine lv_iload hx hb dX9_into_177 (lv_at hl 2 rfl) ?_
                  refine lv_goto (tgt := 184) hx hb dX9_into_179 (by decide) ?_
                  exact e_i X h hr hlk dX9_into_184 ⟨ok45, kx46, trivial⟩
              · have hc75 : ¬ (v72).toInt ≤ 0 := i_nle hc75 rfl rfl
                refine lv_iload hx hb dX9_into_69 (lv_at hl 0 rfl) ?_
                refine lv_iload_n hx hb dX9_into_71 rfl (lv_at hl 4 rfl) ?_
                refine lv_icmp_eq (tgt := 167) hx hb dX9_into_72 (by decide) (fun hc77 => ?_) (fun hc77 => ?_)
                · have hc77 : (L35).toInt = (j).toInt := i_eq hc77 rfl rfl
                  obtain ⟨z78, e79, t80⟩ := x_add (x := L35) (y := 1) (a := L35.toInt) (b := 1) rfl rfl (by omega) (by omega)
                  refine lv_iinc (v := z78) (lv' := [(6, .int z78), (5, .int L36), (4, .int L37), (0, .ref (ad 64)), (1, .int j), (2, .int n), (3, .int u)]) hx hb dX9_into_167 hl (k := 0) rfl e79 (by decide) rfl (fun ls hl => ?_)
                  refine lv_goto (tgt := 46) hx hb dX9_into_170 (by decide) ?_
                  exact ih41  z78 L36 L37 wL38 _ _ _ (by omega) (by omega) ok45 kx46 (by omega) h (lv_sub hl [0, 1, 2, 3, 4, 5, 6] rfl)
                · have hc77 : ¬ (L35).toInt = (j).toInt := i_ne hc77 rfl rfl
                  refine lv_aload_n hx hb dX9_into_75 rfl (lv_at hl 3 rfl) ?_
                  refine n_Vv (na := 0) (As := []) (rest := []) X hD hN h rfl (c_M_layHand l G cI cB cZ cO ad wL38  ok45   ) ⟨kv_503, kv_504, kv_505, kv_470, kv_506⟩ rfl ⟨by decide, by decide, by decide⟩ ⟨Nat.le_of_ble_eq_true rfl, Nat.le_of_ble_eq_true rfl⟩ ⟨Nat.zero_le _, Nat.zero_le _⟩ (by decide) f59 rfl rfl hl.1 rfl (Nat.le_of_ble_eq_true rfl) dX9_into_76 (fun w82 H locs hp83 h => ?_)
                  obtain ⟨ok85, kk86, hr84⟩ := hp83
                  have kx87 : KM w w82 := KM.tr kx46 kk86
                  refine lv_aload_n hx hb dX9_into_79 rfl (lv_at hl 3 rfl) ?_
                  obtain ⟨x89, x90, t91, t92, t93, t94, t95, t96, f88, h97, h98⟩ := (show sM ad (w82 64) from ok85 64 (by decide))
                  have f99 : w82 64 = .inr (7, [.ref (ad 65), .ref (ad 66), .ref (ad 67), .ref (ad 68), .long x89, .long x90, .ref (ad 69), .int t91, .ref (ad 70), .ref (ad 71), .int t92, .int t93, .int t94, .int t95, .int t96, .ref (ad 72), .ref (ad 73)]) := f88
                  refine r_get kc9 X h 64 6 (by decide) rfl f99 (by decide) kv_495 rfl dX9_into_80 ?_
                  refine lv_iload_n hx hb dX9_into_83 rfl (lv_at hl 4 rfl) ?_
                  refine lv_iload hx hb dX9_into_84 (lv_at hl 0 rfl) ?_
                  refine n_Si (na := 3) (As := [.ref (ad 69), .int j, .int L35]) (rest := []) X hD hN h (c_M_goPour l G cI cB cZ cO ad w82 69 (Or.inr (Or.inl rfl)) ok85 j L35 (by omega) (by omega) (by omega) (by omega) ) ⟨kv_557, kv_558, kv_470, kv_559⟩ ⟨by decide, by decide, by decide⟩ ⟨Nat.le_of_ble_eq_true rfl, Nat.le_of_ble_eq_true rfl⟩ ⟨Nat.zero_le _, Nat.zero_le _⟩ rfl hl.1 rfl (Nat.le_of_ble_eq_true rfl) dX9_into_86 (fun r100 w101 H locs hp102 h => ?_)
                  obtain ⟨ok104, kk105, hr103⟩ := hp102
                  have kx106 : KM w w101 := KM.tr kx87 kk105.1
                  refine lv_istore (lv' := [(7, .int r100), (6, .int L35), (5, .int L36), (4, .int L37), (0, .ref (ad 64)), (1, .int j), (2, .int n), (3, .int u)]) hx hb dX9_into_89 hl (by decide) rfl (fun ls hl => ?_)
                  refine lv_iconst (v := 0) hx hb dX9_into_91 (by decide) ?_
                  refine lv_istore (lv' := [(8, .int 0), (7, .int r100), (6, .int L35), (5, .int L36), (4, .int L37), (0, .ref (ad 64)), (1, .int j), (2, .int n), (3, .int u)]) hx hb dX9_into_92 hl (by decide) rfl (fun ls hl => ?_)
                  have hloop109 : ∀ (d110 : Nat) (L107 : Int32) (wL108 : Nat → va_E) (H : Heap) (locs : List Loc) (ls : Array Slot), 0 ≤ L107.toInt → L107.toInt ≤ 30 → OK cI cB cZ cO ad wL108 → KM w wL108 → 30 - L107.toInt < (d110 : Int) → St G 74 ad (wA 74 ad s.heap.size) s.heap wL108 H locs → lv_has ls 9 [(8, .int L107), (7, .int r100), (6, .int L35), (5, .int L36), (4, .int L37), (0, .ref (ad 64)), (1, .int j), (2, .int n), (3, .int u)] → W p l e { frames := 3, cells := 0, slots := 0, locals := 67 } s m [.ref (ad 64), .int j, .int n, .int u].toArray below meth c H locs 0 0 (MQ below (va_Qi (fun r w1 => OK cI cB cZ cO ad w1 ∧ KM w w1 ∧ True) (Aft G 74 ad) (wA 74 ad s.heap.size)) [.ref (ad 64), .int j, .int n, .int u].toArray s 0 0 (wA 74 ad s.heap.size)) (F0 m 94 ls []) := by
                    intro d110
                    induction d110 with
                    | zero => intro L107 wL108 H locs ls hi113 hi114 ok115 kx116 hm112 h hl; exfalso; omega
                    | succ d110 ih111 =>
                      intro L107 wL108 H locs ls hi113 hi114 ok115 kx116 hm112 h hl
                      refine lv_iload hx hb dX9_into_94 (lv_at hl 0 rfl) ?_
                      refine lv_iload_n hx hb dX9_into_96 rfl (lv_at hl 7 rfl) ?_
                      refine lv_icmp_ge (tgt := 113) hx hb dX9_into_97 (by decide) (fun hc118 => ?_) (fun hc118 => ?_)
                      · have hc118 : (n).toInt ≤ (L107).toInt := i_le hc118 rfl rfl
                        refine lv_aload_n hx hb dX9_into_113 rfl (lv_at hl 5 rfl) ?_
                        obtain ⟨x120, x121, t122, t123, t124, t125, t126, t127, f119, h128, h129⟩ := (show sM ad (wL108 64) from ok115 64 (by decide))
                        have f130 : wL108 64 = .inr (7, [.ref (ad 65), .ref (ad 66), .ref (ad 67), .ref (ad 68), .long x120, .long x121, .ref (ad 69), .int t122, .ref (ad 70), .ref (ad 71), .int t123, .int t124, .int t125, .int t126, .int t127, .ref (ad 72), .ref (ad 73)]) := f119
                        refine r_get kc9 X h 64 6 (by decide) rfl f130 (by decide) kv_495 rfl dX9_into_114 ?_
                        refine lv_bipush (v := 8) hx hb dX9_into_117 (by decide) ?_
                        refine lv_iload_n hx hb dX9_into_119 rfl (lv_at hl 6 rfl) ?_
                        obtain ⟨z133, e131, t132⟩ := x_add (x := (8 : Int32)) (y := j) (a := 8) (b := (j).toInt) rfl rfl (by omega) (by omega)
                        refine o_iadd (z := z133) hx hb dX9_into_120 e131 ?_
                        obtain ⟨g135, f134, p136⟩ := (show sA cI 41 (alA) (wL108 69) from ok115 69 (by decide))
                        have f137 : wL108 69 = .inl (cI, 41, .inl g135) := f134
                        obtain ⟨v138, e139⟩ : ∃ z : Int32, g135 (z133).toNatClampNeg = z := ⟨_, rfl⟩
                        refine o_iald (v := v138) X h 69 0 (by decide) rfl f137 rfl (in_of (by omega) (by omega)) e139 dX9_into_121 ?_
                        refine lv_aload_n hx hb dX9_into_122 rfl (lv_at hl 5 rfl) ?_
                        refine r_get kc9 X h 64 6 (by decide) rfl f130 (by decide) kv_495 rfl dX9_into_123 ?_
                        refine lv_bipush (v := 8) hx hb dX9_into_126 (by decide) ?_
                        refine lv_iload hx hb dX9_into_128 (lv_at hl 2 rfl) ?_
                        obtain ⟨z143, e141, t142⟩ := x_add (x := (8 : Int32)) (y := L35) (a := 8) (b := (L35).toInt) rfl rfl (by omega) (by omega)
                        refine o_iadd (z := z143) hx hb dX9_into_130 e141 ?_
                        obtain ⟨v144, e145⟩ : ∃ z : Int32, g135 (z143).toNatClampNeg = z := ⟨_, rfl⟩
                        refine o_iald (v := v144) X h 69 0 (by decide) rfl f137 rfl (in_of (by omega) (by omega)) e145 dX9_into_131 ?_
                        obtain ⟨z149, e147⟩ : ∃ z : Int32, v138 + v144 = z := ⟨_, rfl⟩
                        refine o_iadd (z := z149) hx hb dX9_into_132 e147 ?_
                        refine lv_istore (lv' := [(8, .int z149), (7, .int r100), (6, .int L35), (5, .int L36), (4, .int L37), (0, .ref (ad 64)), (1, .int j), (2, .int n), (3, .int u)]) hx hb dX9_into_133 hl (by decide) rfl (fun ls hl => ?_)
                        refine lv_iload hx hb dX9_into_135 (lv_at hl 0 rfl) ?_
                        refine lv_iload hx hb dX9_into_137 (lv_at hl 3 rfl) ?_
                        refine lv_icmp_le (tgt := 147) hx hb dX9_into_139 (by decide) (fun hc150 => ?_) (fun hc150 => ?_)
                        · have hc150 : (z149).toInt ≤ (L36).toInt := i_le hc150 rfl rfl
                          refine lv_iload hx hb dX9_into_147 (lv_at hl 4 rfl) ?_
                          refine lv_istore (lv' := [(4, .int L37), (8, .int z149), (7, .int r100), (6, .int L35), (5, .int L36), (0, .ref (ad 64)), (1, .int j), (2, .int n), (3, .int u)]) hx hb dX9_into_149 hl (by decide) rfl (fun ls hl => ?_)
                          refine lv_iload hx hb dX9_into_151 (lv_at hl 1 rfl) ?_
                          refine lv_iload hx hb dX9_into_153 (lv_at hl 4 rfl) ?_
                          refine lv_icmp_le (tgt := 163) hx hb dX9_into_155 (by decide) (fun hc151 => ?_) (fun hc151 => ?_)
                          · have hc151 : (z149).toInt ≤ (L36).toInt := i_le hc151 rfl rfl
                            refine lv_iload hx hb dX9_into_163 (lv_at hl 4 rfl) ?_
                            refine lv_istore (lv' := [(5, .int L36), (4, .int L37), (8, .int z149), (7, .int r100), (6, .int L35), (0, .ref (ad 64)), (1, .int j), (2, .int n), (3, .int u)]) hx hb dX9_into_165 hl (by decide) rfl (fun ls hl => ?_)
                            obtain ⟨z152, e153, t154⟩ := x_add (x := L35) (y := 1) (a := L35.toInt) (b := 1) rfl rfl (by omega) (by omega)
                            refine lv_iinc (v := z152) (lv' := [(6, .int z152), (5, .int L36), (4, .int L37), (8, .int z149), (7, .int r100), (0, .ref (ad 64)), (1, .int j), (2, .int n), (3, .int u)]) hx hb dX9_into_167 hl (k := 4) rfl e153 (by decide) rfl (fun ls hl => ?_)
                            refine lv_goto (tgt := 46) hx hb dX9_into_170 (by decide) ?_
                            exact ih41  z152 L36 L37 wL108 _ _ _ (by omega) (by omega) ok115 kx116 (by omega) h (lv_sub hl [0, 1, 2, 5, 6, 7, 8] rfl)
                          · have hc151 : ¬ (z149).toInt ≤ (L36).toInt := i_nle hc151 rfl rfl
                            refine lv_iload hx hb dX9_into_158 (lv_at hl 1 rfl) ?_
                            refine lv_goto (tgt := 165) hx hb dX9_into_160 (by decide) ?_
                            refine lv_istore (lv' := [(5, .int z149), (4, .int L37), (8, .int z149), (7, .int r100), (6, .int L35), (0, .ref (ad 64)), (1, .int j), (2, .int n), (3, .int u)]) hx hb dX9_into_165 hl (by decide) rfl (fun ls hl => ?_)
                            obtain ⟨z155, e156, t157⟩ := x_add (x := L35) (y := 1) (a := L35.toInt) (b := 1) rfl rfl (by omega) (by omega)
                            refine lv_iinc (v := z155) (lv' := [(6, .int z155), (5, .int z149), (4, .int L37), (8, .int z149), (7, .int r100), (0, .ref (ad 64)), (1, .int j), (2, .int n), (3, .int u)]) hx hb dX9_into_167 hl (k := 4) rfl e156 (by decide) rfl (fun ls hl => ?_)
                            refine lv_goto (tgt := 46) hx hb dX9_into_170 (by decide) ?_
                            exact ih41  z155 z149 L37 wL108 _ _ _ (by omega) (by omega) ok115 kx116 (by omega) h (lv_sub hl [0, 1, 2, 5, 6, 7, 8] rfl)
                        · have hc150 : ¬ (z149).toInt ≤ (L36).toInt := i_nle hc150 rfl rfl
                          refine lv_iload hx hb dX9_into_142 (lv_at hl 2 rfl) ?_
                          refine lv_goto (tgt := 149) hx hb dX9_into_144 (by decide) ?_
                          refine lv_istore (lv' := [(4, .int L35), (8, .int z149), (7, .int r100), (6, .int L35), (5, .int L36), (0, .ref (ad 64)), (1, .int j), (2, .int n), (3, .int u)]) hx hb dX9_into_149 hl (by decide) rfl (fun ls hl => ?_)
                          refine lv_iload hx hb dX9_into_151 (lv_at hl 1 rfl) ?_
                          refine lv_iload hx hb dX9_into_153 (lv_at hl 4 rfl) ?_
                          refine lv_icmp_le (tgt := 163) hx hb dX9_into_155 (by decide) (fun hc158 => ?_) (fun hc158 => ?_)
                          · have hc158 : (z149).toInt ≤ (L36).toInt := i_le hc158 rfl rfl
                            refine lv_iload hx hb dX9_into_163 (lv_at hl 4 rfl) ?_
                            refine lv_istore (lv' := [(5, .int L36), (4, .int L35), (8, .int z149), (7, .int r100), (6, .int L35), (0, .ref (ad 64)), (1, .int j), (2, .int n), (3, .int u)]) hx hb dX9_into_165 hl (by decide) rfl (fun ls hl => ?_)
                            obtain ⟨z159, e160, t161⟩ := x_add (x := L35) (y := 1) (a := L35.toInt) (b := 1) rfl rfl (by omega) (by omega)
                            refine lv_iinc (v := z159) (lv' := [(6, .int z159), (5, .int L36), (4, .int L35), (8, .int z149), (7, .int r100), (0, .ref (ad 64)), (1, .int j), (2, .int n), (3, .int u)]) hx hb dX9_into_167 hl (k := 4) rfl e160 (by decide) rfl (fun ls hl => ?_)
                            refine lv_goto (tgt := 46) hx hb dX9_into_170 (by decide) ?_
                            exact ih41  z159 L36 L35 wL108 _ _ _ (by omega) (by omega) ok115 kx116 (by omega) h (lv_sub hl [0, 1, 2, 5, 6, 7, 8] rfl)
                          · have hc158 : ¬ (z149).toInt ≤ (L36).toInt := i_nle hc158 rfl rfl
                            refine lv_iload hx hb dX9_into_158 (lv_at hl 1 rfl) ?_
                            refine lv_goto (tgt := 165) hx hb dX9_into_160 (by decide) ?_
                            refine lv_istore (lv' := [(5, .int z149), (4, .int L35), (8, .int z149), (7, .int r100), (6, .int L35), (0, .ref (ad 64)), (1, .int j), (2, .int n), (3, .int u)]) hx hb dX9_into_165 hl (by decide) rfl (fun ls hl => ?_)
                            obtain ⟨z162, e163, t164⟩ := x_add (x := L35) (y := 1) (a := L35.toInt) (b := 1) rfl rfl (by omega) (by omega)
                            refine lv_iinc (v := z162) (lv' := [(6, .int z162), (5, .int z149), (4, .int L35), (8, .int z149), (7, .int r100), (0, .ref (ad 64)), (1, .int j), (2, .int n), (3, .int u)]) hx hb dX9_into_167 hl (k := 4) rfl e163 (by decide) rfl (fun ls hl => ?_)
                            refine lv_goto (tgt := 46) hx hb dX9_into_170 (by decide) ?_
                            exact ih41  z162 z149 L35 wL108 _ _ _ (by omega) (by omega) ok115 kx116 (by omega) h (lv_sub hl [0, 1, 2, 5, 6, 7, 8] rfl)
                      · have hc118 : ¬ (n).toInt ≤ (L107).toInt := i_nle hc118 rfl rfl
                        refine lv_aload_n hx hb dX9_into_100 rfl (lv_at hl 5 rfl) ?_
                        obtain ⟨x166, x167, t168, t169, t170, t171, t172, t173, f165, h174, h175⟩ := (show sM ad (wL108 64) from ok115 64 (by decide))
                        have f176 : wL108 64 = .inr (7, [.ref (ad 65), .ref (ad 66), .ref (ad 67), .ref (ad 68), .long x166, .long x167, .ref (ad 69), .int t168, .ref (ad 70), .ref (ad 71), .int t169, .int t170, .int t171, .int t172, .int t173, .ref (ad 72), .ref (ad 73)]) := f165
                        refine r_get kc9 X h 64 6 (by decide) rfl f176 (by decide) kv_495 rfl dX9_into_101 ?_
                        refine n_Sv (na := 1) (As := [.ref (ad 69)]) (rest := []) X hD hN h (c_M_goHour l G cI cB cZ cO ad wL108 69 (Or.inr (Or.inl rfl)) ok115   ) ⟨kv_492, kv_493, kv_470, kv_494⟩ ⟨by decide, by decide, by decide⟩ ⟨Nat.le_of_ble_eq_true rfl, Nat.le_of_ble_eq_true rfl⟩ ⟨Nat.zero_le _, Nat.zero_le _⟩ rfl hl.1 rfl (Nat.le_of_ble_eq_true rfl) dX9_into_104 (fun w178 H locs hp179 h => ?_)
                        obtain ⟨ok181, kk182, hr180⟩ := hp179
                        have kx183 : KM w w178 := KM.tr kx116 kk182.1
                        obtain ⟨z184, e185, t186⟩ := x_add (x := L107) (y := 1) (a := L107.toInt) (b := 1) rfl rfl (by omega) (by omega)
                        refine lv_iinc (v := z184) (lv' := [(8, .int z184), (7, .int r100), (6, .int L35), (5, .int L36), (4, .int L37), (0, .ref (ad 64)), (1, .int j), (2, .int n), (3, .int u)]) hx hb dX9_into_107 hl (k := 0) rfl e185 (by decide) rfl (fun ls hl => ?_)
                        refine lv_goto (tgt := 94) hx hb dX9_into_110 (by decide) ?_
                        exact ih111  z184 w178 _ _ _ (by omega) (by omega) ok181 kx183 (by omega) h (lv_sub hl [0, 1, 2, 3, 4, 5, 6, 7, 8] rfl)
                  exact hloop109 31 (0 : Int32) w101 _ _ _ (by have q0 : (0 : Int32).toInt = 0 := rfl; omega) (by have q0 : (0 : Int32).toInt = 0 := rfl; omega) ok104 kx106 (by have q0 : (0 : Int32).toInt = 0 := rfl; omega) h (lv_sub hl [0, 1, 2, 3, 4, 5, 6, 7, 8] rfl)
        exact hloop39 5 (0 : Int32) ((-1) : Int32) ((-1) : Int32) w _ _ _ (by have q0 : (0 : Int32).toInt = 0 := rfl; have q1 : ((-1) : Int32).toInt = (-1) := rfl; omega) (by have q0 : (0 : Int32).toInt = 0 := rfl; have q1 : ((-1) : Int32).toInt = (-1) := rfl; omega) ok KM.rf (by have q0 : (0 : Int32).toInt = 0 := rfl; have q1 : ((-1) : Int32).toInt = (-1) := rfl; omega) h (lv_sub hl [0, 1, 2, 3, 4, 5, 6] rfl)
      · refine lv_if_ne (tgt := 37) hx hb dX9_into_27 (by decide) (fun hc => absurd (by decide) hc) (fun _ => ?_)
        refine lv_aload_n hx hb dX9_into_30 rfl (lv_at hl 0 rfl) ?_
        refine lv_bipush (v := (-2)) hx hb dX9_into_31 (by decide) ?_
        refine n_Vi (na := 1) (As := [.int (-2)]) (rest := []) X hD hN h rfl (c_M_bad l G cI cB cZ cO ad w  ok ((-2) : Int32)  ) ⟨kv_553, kv_554, kv_555, kv_470, kv_556⟩ rfl ⟨by decide, by decide, by decide⟩ ⟨Nat.le_of_ble_eq_true rfl, Nat.le_of_ble_eq_true rfl⟩ ⟨Nat.zero_le _, Nat.zero_le _⟩ (by decide) f15 rfl rfl hl.1 rfl (Nat.le_of_ble_eq_true rfl) dX9_into_33 (fun r187 w188 H locs hp189 h => ?_)
        obtain ⟨ok191, kk192, hr190⟩ := hp189
        have kx193 : KM w w188 := kk192
        subst hr190
        exact e_i X h hr hlk dX9_into_36 ⟨ok191, kx193, trivial⟩
    · refine lv_if_eq (tgt := 30) hx hb dX9_into_17 (by decide) (fun _ => ?_) (fun hc => absurd (by decide) hc)
      refine lv_aload_n hx hb dX9_into_30 rfl (lv_at hl 0 rfl) ?_
      refine lv_bipush (v := (-2)) hx hb dX9_into_31 (by decide) ?_
      refine n_Vi (na := 1) (As := [.int (-2)]) (rest := []) X hD hN h rfl (c_M_bad l G cI cB cZ cO ad w  ok ((-2) : Int32)  ) ⟨kv_553, kv_554, kv_555, kv_470, kv_556⟩ rfl ⟨by decide, by decide, by decide⟩ ⟨Nat.le_of_ble_eq_true rfl, Nat.le_of_ble_eq_true rfl⟩ ⟨Nat.zero_le _, Nat.zero_le _⟩ (by decide) f15 rfl rfl hl.1 rfl (Nat.le_of_ble_eq_true rfl) dX9_into_33 (fun r194 w195 H locs hp196 h => ?_)
      obtain ⟨ok198, kk199, hr197⟩ := hp196
      have kx200 : KM w w195 := kk199
      subst hr197
      exact e_i X h hr hlk dX9_into_36 ⟨ok198, kx200, trivial⟩
  · refine lv_if_eq (tgt := 30) hx hb dX9_into_5 (by decide) (fun _ => ?_) (fun hc => absurd (by decide) hc)
    refine lv_aload_n hx hb dX9_into_30 rfl (lv_at hl 0 rfl) ?_
    refine lv_bipush (v := (-2)) hx hb dX9_into_31 (by decide) ?_
    refine n_Vi (na := 1) (As := [.int (-2)]) (rest := []) X hD hN h rfl (c_M_bad l G cI cB cZ cO ad w  ok ((-2) : Int32)  ) ⟨kv_553, kv_554, kv_555, kv_470, kv_556⟩ rfl ⟨by decide, by decide, by decide⟩ ⟨Nat.le_of_ble_eq_true rfl, Nat.le_of_ble_eq_true rfl⟩ ⟨Nat.zero_le _, Nat.zero_le _⟩ (by decide) f15 rfl rfl hl.1 rfl (Nat.le_of_ble_eq_true rfl) dX9_into_33 (fun r201 w202 H locs hp203 h => ?_)
    obtain ⟨ok205, kk206, hr204⟩ := hp203
    have kx207 : KM w w202 := kk206
    subst hr204
    exact e_i X h hr hlk dX9_into_36 ⟨ok205, kx207, trivial⟩

set_option maxHeartbeats 4000000 in
set_option maxRecDepth 100000 in
theorem c_M_is_ (l : Launch) (G : va_G) (cI cB cZ cO : ClassId) (ad : Nat → Nat) (w : Nat → va_E)  (ok : OK cI cB cZ cO ad w) (i : Int32)   : NI l G (tyq cI cB cZ cO) yX9_is cX9_is 2 (some .int) 3 76 74 ad w [.ref (ad 64), .int i] (fun r w1 => OK cI cB cZ cO ad w1 ∧ KM w w1 ∧ True) := by
  refine nk_i (own := "NoonShadeModel") rfl (by decide) (Nat.le_of_ble_eq_true rfl) ?_
  intro p e s m below meth c ls X hD hN hr hlk h hl
  have hx := X.1.1
  have hb := X.1.2.1
  have hown := X.1.2.2.2.1
  have hts := X.1.2.2.2.2
  have hl : lv_has ls 2 [(0, .ref (ad 64)), (1, .int i)] := hl
  refine lv_aload_n hx hb dX9_is_0 rfl (lv_at hl 0 rfl) ?_
  refine lv_iload_n hx hb dX9_is_1 rfl (lv_at hl 1 rfl) ?_
  obtain ⟨x5, x6, t7, t8, t9, t10, t11, t12, f4, h13, h14⟩ := (show sM ad (w 64) from ok 64 (by decide))
  have f15 : w 64 = .inr (7, [.ref (ad 65), .ref (ad 66), .ref (ad 67), .ref (ad 68), .long x5, .long x6, .ref (ad 69), .int t7, .ref (ad 70), .ref (ad 71), .int t8, .int t9, .int t10, .int t11, .int t12, .ref (ad 72), .ref (ad 73)]) := f4
  refine n_Vi (na := 1) (As := [.int i]) (rest := []) X hD hN h rfl (c_M_isCaster l G cI cB cZ cO ad w  ok i  ) ⟨kv_519, kv_520, kv_521, kv_470, kv_522⟩ rfl ⟨by decide, by decide, by decide⟩ ⟨Nat.le_of_ble_eq_true rfl, Nat.le_of_ble_eq_true rfl⟩ ⟨Nat.zero_le _, Nat.zero_le _⟩ (by decide) f15 rfl rfl hl.1 rfl (Nat.le_of_ble_eq_true rfl) dX9_is_2 (fun r1 w2 H locs hp3 h => ?_)
  obtain ⟨rfl, hr16⟩ := hp3
  rcases hr16 with ⟨hq17, hq18, rfl⟩ | rfl
  · refine lv_if_eq (tgt := 16) hx hb dX9_is_5 (by decide) (fun hc => absurd hc (by decide)) (fun _ => ?_)
    refine lv_aload_n hx hb dX9_is_8 rfl (lv_at hl 0 rfl) ?_
    refine lv_iload_n hx hb dX9_is_9 rfl (lv_at hl 1 rfl) ?_
    refine n_Vi (na := 1) (As := [.int i]) (rest := []) X hD hN h rfl (c_M_kindsOfCaster l G cI cB cZ cO ad w  ok i  ) ⟨kv_588, kv_589, kv_590, kv_470, kv_591⟩ rfl ⟨by decide, by decide, by decide⟩ ⟨Nat.le_of_ble_eq_true rfl, Nat.le_of_ble_eq_true rfl⟩ ⟨Nat.zero_le _, Nat.zero_le _⟩ (by decide) f15 rfl rfl hl.1 rfl (Nat.le_of_ble_eq_true rfl) dX9_is_10 (fun r19 w20 H locs hp21 h => ?_)
    obtain ⟨rfl, hr22⟩ := hp21
    refine lv_goto (tgt := 22) hx hb dX9_is_13 (by decide) ?_
    exact e_i X h hr hlk dX9_is_22 ⟨ok, KM.rf, trivial⟩
  · refine lv_if_eq (tgt := 16) hx hb dX9_is_5 (by decide) (fun _ => ?_) (fun hc => absurd (by decide) hc)
    refine lv_aload_n hx hb dX9_is_16 rfl (lv_at hl 0 rfl) ?_
    refine lv_bipush (v := (-2)) hx hb dX9_is_17 (by decide) ?_
    refine n_Vi (na := 1) (As := [.int (-2)]) (rest := []) X hD hN h rfl (c_M_bad l G cI cB cZ cO ad w  ok ((-2) : Int32)  ) ⟨kv_553, kv_554, kv_555, kv_470, kv_556⟩ rfl ⟨by decide, by decide, by decide⟩ ⟨Nat.le_of_ble_eq_true rfl, Nat.le_of_ble_eq_true rfl⟩ ⟨Nat.zero_le _, Nat.zero_le _⟩ (by decide) f15 rfl rfl hl.1 rfl (Nat.le_of_ble_eq_true rfl) dX9_is_19 (fun r23 w24 H locs hp25 h => ?_)
    obtain ⟨ok27, kk28, hr26⟩ := hp25
    have kx29 : KM w w24 := kk28
    subst hr26
    exact e_i X h hr hlk dX9_is_22 ⟨ok27, kx29, trivial⟩

set_option maxHeartbeats 4000000 in
set_option maxRecDepth 100000 in
theorem c_M_kinds_ (l : Launch) (G : va_G) (cI cB cZ cO : ClassId) (ad : Nat → Nat) (w : Nat → va_E)  (ok : OK cI cB cZ cO ad w) (j : Int32)   : NI l G (tyq cI cB cZ cO) yX9_kinds cX9_kinds 2 (some .int) 3 76 74 ad w [.ref (ad 64), .int j] (fun r w1 => OK cI cB cZ cO ad w1 ∧ KM w w1 ∧ True) := by
  refine nk_i (own := "NoonShadeModel") rfl (by decide) (Nat.le_of_ble_eq_true rfl) ?_
  intro p e s m below meth c ls X hD hN hr hlk h hl
  have hx := X.1.1
  have hb := X.1.2.1
  have hown := X.1.2.2.2.1
  have hts := X.1.2.2.2.2
  have hl : lv_has ls 2 [(0, .ref (ad 64)), (1, .int j)] := hl
  refine lv_aload_n hx hb dX9_kinds_0 rfl (lv_at hl 0 rfl) ?_
  refine lv_iload_n hx hb dX9_kinds_1 rfl (lv_at hl 1 rfl) ?_
  obtain ⟨x5, x6, t7, t8, t9, t10, t11, t12, f4, h13, h14⟩ := (show sM ad (w 64) from ok 64 (by decide))
  have f15 : w 64 = .inr (7, [.ref (ad 65), .ref (ad 66), .ref (ad 67), .ref (ad 68), .long x5, .long x6, .ref (ad 69), .int t7, .ref (ad 70), .ref (ad 71), .int t8, .int t9, .int t10, .int t11, .int t12, .ref (ad 72), .ref (ad 73)]) := f4
  refine n_Vi (na := 1) (As := [.int j]) (rest := []) X hD hN h rfl (c_M_isJar l G cI cB cZ cO ad w  ok j  ) ⟨kv_541, kv_542, kv_543, kv_470, kv_544⟩ rfl ⟨by decide, by decide, by decide⟩ ⟨Nat.le_of_ble_eq_true rfl, Nat.le_of_ble_eq_true rfl⟩ ⟨Nat.zero_le _, Nat.zero_le _⟩ (by decide) f15 rfl rfl hl.1 rfl (Nat.le_of_ble_eq_true rfl) dX9_kinds_2 (fun r1 w2 H locs hp3 h => ?_)
  obtain ⟨rfl, hr16⟩ := hp3
  rcases hr16 with ⟨hq17, hq18, rfl⟩ | rfl
  · refine lv_if_eq (tgt := 16) hx hb dX9_kinds_5 (by decide) (fun hc => absurd hc (by decide)) (fun _ => ?_)
    refine lv_aload_n hx hb dX9_kinds_8 rfl (lv_at hl 0 rfl) ?_
    refine lv_iload_n hx hb dX9_kinds_9 rfl (lv_at hl 1 rfl) ?_
    refine n_Vi (na := 1) (As := [.int j]) (rest := []) X hD hN h rfl (c_M_kindsOfJar l G cI cB cZ cO ad w  ok j  ) ⟨kv_592, kv_593, kv_594, kv_470, kv_595⟩ rfl ⟨by decide, by decide, by decide⟩ ⟨Nat.le_of_ble_eq_true rfl, Nat.le_of_ble_eq_true rfl⟩ ⟨Nat.zero_le _, Nat.zero_le _⟩ (by decide) f15 rfl rfl hl.1 rfl (Nat.le_of_ble_eq_true rfl) dX9_kinds_10 (fun r19 w20 H locs hp21 h => ?_)
    obtain ⟨rfl, hr22⟩ := hp21
    refine lv_goto (tgt := 22) hx hb dX9_kinds_13 (by decide) ?_
    exact e_i X h hr hlk dX9_kinds_22 ⟨ok, KM.rf, trivial⟩
  · refine lv_if_eq (tgt := 16) hx hb dX9_kinds_5 (by decide) (fun _ => ?_) (fun hc => absurd (by decide) hc)
    refine lv_aload_n hx hb dX9_kinds_16 rfl (lv_at hl 0 rfl) ?_
    refine lv_bipush (v := (-2)) hx hb dX9_kinds_17 (by decide) ?_
    refine n_Vi (na := 1) (As := [.int (-2)]) (rest := []) X hD hN h rfl (c_M_bad l G cI cB cZ cO ad w  ok ((-2) : Int32)  ) ⟨kv_553, kv_554, kv_555, kv_470, kv_556⟩ rfl ⟨by decide, by decide, by decide⟩ ⟨Nat.le_of_ble_eq_true rfl, Nat.le_of_ble_eq_true rfl⟩ ⟨Nat.zero_le _, Nat.zero_le _⟩ (by decide) f15 rfl rfl hl.1 rfl (Nat.le_of_ble_eq_true rfl) dX9_kinds_19 (fun r23 w24 H locs hp25 h => ?_)
    obtain ⟨ok27, kk28, hr26⟩ := hp25
    have kx29 : KM w w24 := kk28
    subst hr26
    exact e_i X h hr hlk dX9_kinds_22 ⟨ok27, kx29, trivial⟩

set_option maxHeartbeats 4000000 in
set_option maxRecDepth 100000 in
theorem c_M_look_ (l : Launch) (G : va_G) (cI cB cZ cO : ClassId) (ad : Nat → Nat) (w : Nat → va_E)  (ok : OK cI cB cZ cO ad w) (i : Int32)   : NI l G (tyq cI cB cZ cO) yX9_look cX9_look 7 (some .int) 3 76 74 ad w [.ref (ad 64), .int i] (fun r w1 => OK cI cB cZ cO ad w1 ∧ KM w w1 ∧ True) := by
  refine nk_i (own := "NoonShadeModel") rfl (by decide) (Nat.le_of_ble_eq_true rfl) ?_
  intro p e s m below meth c ls X hD hN hr hlk h hl
  have hx := X.1.1
  have hb := X.1.2.1
  have hown := X.1.2.2.2.1
  have hts := X.1.2.2.2.2
  have hl : lv_has ls 7 [(0, .ref (ad 64)), (1, .int i)] := hl
  refine lv_aload_n hx hb dX9_look_0 rfl (lv_at hl 0 rfl) ?_
  refine lv_iload_n hx hb dX9_look_1 rfl (lv_at hl 1 rfl) ?_
  obtain ⟨x5, x6, t7, t8, t9, t10, t11, t12, f4, h13, h14⟩ := (show sM ad (w 64) from ok 64 (by decide))
  have f15 : w 64 = .inr (7, [.ref (ad 65), .ref (ad 66), .ref (ad 67), .ref (ad 68), .long x5, .long x6, .ref (ad 69), .int t7, .ref (ad 70), .ref (ad 71), .int t8, .int t9, .int t10, .int t11, .int t12, .ref (ad 72), .ref (ad 73)]) := f4
  refine n_Vi (na := 1) (As := [.int i]) (rest := []) X hD hN h rfl (c_M_isCaster l G cI cB cZ cO ad w  ok i  ) ⟨kv_519, kv_520, kv_521, kv_470, kv_522⟩ rfl ⟨by decide, by decide, by decide⟩ ⟨Nat.le_of_ble_eq_true rfl, Nat.le_of_ble_eq_true rfl⟩ ⟨Nat.zero_le _, Nat.zero_le _⟩ (by decide) f15 rfl rfl hl.1 rfl (Nat.le_of_ble_eq_true rfl) dX9_look_2 (fun r1 w2 H locs hp3 h => ?_)
  obtain ⟨rfl, hr16⟩ := hp3
  rcases hr16 with ⟨hq17, hq18, rfl⟩ | rfl
  · refine lv_if_ne (tgt := 15) hx hb dX9_look_5 (by decide) (fun _ => ?_) (fun hc => absurd hc (by decide))
    refine lv_aload_n hx hb dX9_look_15 rfl (lv_at hl 0 rfl) ?_
    refine lv_iload_n hx hb dX9_look_16 rfl (lv_at hl 1 rfl) ?_
    refine n_Vi (na := 1) (As := [.int i]) (rest := []) X hD hN h rfl (c_M_kindsOfCaster l G cI cB cZ cO ad w  ok i  ) ⟨kv_588, kv_589, kv_590, kv_470, kv_591⟩ rfl ⟨by decide, by decide, by decide⟩ ⟨Nat.le_of_ble_eq_true rfl, Nat.le_of_ble_eq_true rfl⟩ ⟨Nat.zero_le _, Nat.zero_le _⟩ (by decide) f15 rfl rfl hl.1 rfl (Nat.le_of_ble_eq_true rfl) dX9_look_17 (fun r19 w20 H locs hp21 h => ?_)
    obtain ⟨rfl, hr22⟩ := hp21
    refine lv_istore_n (lv' := [(2, .int r19), (0, .ref (ad 64)), (1, .int i)]) hx hb dX9_look_20 rfl hl (by decide) rfl (fun ls hl => ?_)
    refine lv_iconst (v := (-1)) hx hb dX9_look_21 (by decide) ?_
    refine lv_istore_n (lv' := [(3, .int (-1)), (2, .int r19), (0, .ref (ad 64)), (1, .int i)]) hx hb dX9_look_22 rfl hl (by decide) rfl (fun ls hl => ?_)
    refine lv_ldc (v := 1000000) hx hb hown (hts _ kv_596) dX9_look_23 ?_
    refine lv_istore (lv' := [(4, .int 1000000), (3, .int (-1)), (2, .int r19), (0, .ref (ad 64)), (1, .int i)]) hx hb dX9_look_25 hl (by decide) rfl (fun ls hl => ?_)
    refine lv_iconst (v := 0) hx hb dX9_look_27 (by decide) ?_
    refine lv_istore (lv' := [(5, .int 0), (4, .int 1000000), (3, .int (-1)), (2, .int r19), (0, .ref (ad 64)), (1, .int i)]) hx hb dX9_look_28 hl (by decide) rfl (fun ls hl => ?_)
    have hloop27 : ∀ (d28 : Nat) (L23 : Int32) (L24 : Int32) (L25 : Int32) (wL26 : Nat → va_E) (H : Heap) (locs : List Loc) (ls : Array Slot), 0 ≤ L23.toInt → L23.toInt ≤ 24 → OK cI cB cZ cO ad wL26 → KM w wL26 → 24 - L23.toInt < (d28 : Int) → St G 74 ad (wA 74 ad s.heap.size) s.heap wL26 H locs → lv_has ls 7 [(5, .int L23), (4, .int L24), (3, .int L25), (2, .int r19), (0, .ref (ad 64)), (1, .int i)] → W p l e { frames := 3, cells := 0, slots := 0, locals := 76 } s m [.ref (ad 64), .int i].toArray below meth c H locs 0 0 (MQ below (va_Qi (fun r w1 => OK cI cB cZ cO ad w1 ∧ KM w w1 ∧ True) (Aft G 74 ad) (wA 74 ad s.heap.size)) [.ref (ad 64), .int i].toArray s 0 0 (wA 74 ad s.heap.size)) (F0 m 30 ls []) := by
      intro d28
      induction d28 with
      | zero => intro L23 L24 L25 wL26 H locs ls hi31 hi32 ok33 kx34 hm30 h hl; exfalso; omega
      | succ d28 ih29 =>
        intro L23 L24 L25 wL26 H locs ls hi31 hi32 ok33 kx34 hm30 h hl
        refine lv_iload hx hb dX9_look_30 (lv_at hl 0 rfl) ?_
        refine lv_bipush (v := 24) hx hb dX9_look_32 (by decide) ?_
        refine lv_icmp_ge (tgt := 123) hx hb dX9_look_34 (by decide) (fun hc36 => ?_) (fun hc36 => ?_)
        · have hc36 : 24 ≤ (L23).toInt := i_le hc36 rfl rfl
          refine lv_iload_n hx hb dX9_look_123 rfl (lv_at hl 2 rfl) ?_
          exact e_i X h hr hlk dX9_look_124 ⟨ok33, kx34, trivial⟩
        · have hc36 : ¬ 24 ≤ (L23).toInt := i_nle hc36 rfl rfl
          refine lv_iload_n hx hb dX9_look_37 rfl (lv_at hl 3 rfl) ?_
          refine lv_if_le (tgt := 123) hx hb dX9_look_38 (by decide) (fun hc37 => ?_) (fun hc37 => ?_)
          · have hc37 : (r19).toInt ≤ 0 := i_le hc37 rfl rfl
            refine lv_iload_n hx hb dX9_look_123 rfl (lv_at hl 2 rfl) ?_
            exact e_i X h hr hlk dX9_look_124 ⟨ok33, kx34, trivial⟩
          · have hc37 : ¬ (r19).toInt ≤ 0 := i_nle hc37 rfl rfl
            refine lv_iconst (v := 0) hx hb dX9_look_41 (by decide) ?_
            refine lv_istore (lv' := [(6, .int 0), (5, .int L23), (4, .int L24), (3, .int L25), (2, .int r19), (0, .ref (ad 64)), (1, .int i)]) hx hb dX9_look_42 hl (by decide) rfl (fun ls hl => ?_)
            have hloop40 : ∀ (d41 : Nat) (L38 : Int32) (wL39 : Nat → va_E) (H : Heap) (locs : List Loc) (ls : Array Slot), 0 ≤ L38.toInt → L38.toInt ≤ 6 → OK cI cB cZ cO ad wL39 → KM w wL39 → 6 - L38.toInt < (d41 : Int) → St G 74 ad (wA 74 ad s.heap.size) s.heap wL39 H locs → lv_has ls 7 [(6, .int L38), (5, .int L23), (4, .int L24), (3, .int L25), (2, .int r19), (0, .ref (ad 64)), (1, .int i)] → W p l e { frames := 3, cells := 0, slots := 0, locals := 76 } s m [.ref (ad 64), .int i].toArray below meth c H locs 0 0 (MQ below (va_Qi (fun r w1 => OK cI cB cZ cO ad w1 ∧ KM w w1 ∧ True) (Aft G 74 ad) (wA 74 ad s.heap.size)) [.ref (ad 64), .int i].toArray s 0 0 (wA 74 ad s.heap.size)) (F0 m 44 ls []) := by
              intro d41
              induction d41 with
              | zero => intro L38 wL39 H locs ls hi44 hi45 ok46 kx47 hm43 h hl; exfalso; omega
              | succ d41 ih42 =>
                intro L38 wL39 H locs ls hi44 hi45 ok46 kx47 hm43 h hl
                refine lv_iload hx hb dX9_look_44 (lv_at hl 0 rfl) ?_
                refine lv_bipush (v := 6) hx hb dX9_look_46 (by decide) ?_
                refine lv_icmp_ge (tgt := 80) hx hb dX9_look_48 (by decide) (fun hc49 => ?_) (fun hc49 => ?_)
                · have hc49 : 6 ≤ (L38).toInt := i_le hc49 rfl rfl
                  refine lv_aload_n hx hb dX9_look_80 rfl (lv_at hl 5 rfl) ?_
                  refine lv_iload_n hx hb dX9_look_81 rfl (lv_at hl 4 rfl) ?_
                  obtain ⟨x54, x55, t56, t57, t58, t59, t60, t61, f53, h62, h63⟩ := (show sM ad (wL39 64) from ok46 64 (by decide))
                  have f64 : wL39 64 = .inr (7, [.ref (ad 65), .ref (ad 66), .ref (ad 67), .ref (ad 68), .long x54, .long x55, .ref (ad 69), .int t56, .ref (ad 70), .ref (ad 71), .int t57, .int t58, .int t59, .int t60, .int t61, .ref (ad 72), .ref (ad 73)]) := f53
                  refine n_Vi (na := 1) (As := [.int r19]) (rest := []) X hD hN h rfl (c_M_mostAlike l G cI cB cZ cO ad wL39  ok46 r19  ) ⟨kv_597, kv_598, kv_599, kv_470, kv_600⟩ rfl ⟨by decide, by decide, by decide⟩ ⟨Nat.le_of_ble_eq_true rfl, Nat.le_of_ble_eq_true rfl⟩ ⟨Nat.zero_le _, Nat.zero_le _⟩ (by decide) f64 rfl rfl hl.1 rfl (Nat.le_of_ble_eq_true rfl) dX9_look_82 (fun r50 w51 H locs hp52 h => ?_)
                  obtain ⟨rfl, hr65⟩ := hp52
                  refine lv_istore (lv' := [(6, .int r50), (5, .int L23), (4, .int L24), (3, .int L25), (2, .int r19), (0, .ref (ad 64)), (1, .int i)]) hx hb dX9_look_85 hl (by decide) rfl (fun ls hl => ?_)
                  refine lv_iload hx hb dX9_look_87 (lv_at hl 0 rfl) ?_
                  refine lv_iload hx hb dX9_look_89 (lv_at hl 2 rfl) ?_
                  refine lv_icmp_ge (tgt := 99) hx hb dX9_look_91 (by decide) (fun hc66 => ?_) (fun hc66 => ?_)
                  · have hc66 : (L24).toInt ≤ (r50).toInt := i_le hc66 rfl rfl
                    refine lv_iload_n hx hb dX9_look_99 rfl (lv_at hl 3 rfl) ?_
                    refine lv_istore_n (lv' := [(3, .int L25), (6, .int r50), (5, .int L23), (4, .int L24), (2, .int r19), (0, .ref (ad 64)), (1, .int i)]) hx hb dX9_look_100 rfl hl (by decide) rfl (fun ls hl => ?_)
                    refine lv_iload hx hb dX9_look_101 (lv_at hl 1 rfl) ?_
                    refine lv_iload hx hb dX9_look_103 (lv_at hl 3 rfl) ?_
                    refine lv_icmp_ge (tgt := 113) hx hb dX9_look_105 (by decide) (fun hc67 => ?_) (fun hc67 => ?_)
                    · have hc67 : (L24).toInt ≤ (r50).toInt := i_le hc67 rfl rfl
                      refine lv_iload hx hb dX9_look_113 (lv_at hl 3 rfl) ?_
                      refine lv_istore (lv' := [(4, .int L24), (3, .int L25), (6, .int r50), (5, .int L23), (2, .int r19), (0, .ref (ad 64)), (1, .int i)]) hx hb dX9_look_115 hl (by decide) rfl (fun ls hl => ?_)
                      obtain ⟨z68, e69, t70⟩ := x_add (x := L23) (y := 1) (a := L23.toInt) (b := 1) rfl rfl (by omega) (by omega)
                      refine lv_iinc (v := z68) (lv' := [(5, .int z68), (4, .int L24), (3, .int L25), (6, .int r50), (2, .int r19), (0, .ref (ad 64)), (1, .int i)]) hx hb dX9_look_117 hl (k := 3) rfl e69 (by decide) rfl (fun ls hl => ?_)
                      refine lv_goto (tgt := 30) hx hb dX9_look_120 (by decide) ?_
                      exact ih29  z68 L24 L25 wL39 _ _ _ (by omega) (by omega) ok46 kx47 (by omega) h (lv_sub hl [0, 1, 2, 4, 5, 6] rfl)
                    · have hc67 : ¬ (L24).toInt ≤ (r50).toInt := i_nle hc67 rfl rfl
                      refine lv_iload hx hb dX9_look_108 (lv_at hl 1 rfl) ?_
                      refine lv_goto (tgt := 115) hx hb dX9_look_110 (by decide) ?_
                      refine lv_istore (lv' := [(4, .int r50), (3, .int L25), (6, .int r50), (5, .int L23), (2, .int r19), (0, .ref (ad 64)), (1, .int i)]) hx hb dX9_look_115 hl (by decide) rfl (fun ls hl => ?_)
                      obtain ⟨z71, e72, t73⟩ := x_add (x := L23) (y := 1) (a := L23.toInt) (b := 1) rfl rfl (by omega) (by omega)
                      refine lv_iinc (v := z71) (lv' := [(5, .int z71), (4, .int r50), (3, .int L25), (6, .int r50), (2, .int r19), (0, .ref (ad 64)), (1, .int i)]) hx hb dX9_look_117 hl (k := 3) rfl e72 (by decide) rfl (fun ls hl => ?_)
                      refine lv_goto (tgt := 30) hx hb dX9_look_120 (by decide) ?_
                      exact ih29  z71 r50 L25 wL39 _ _ _ (by omega) (by omega) ok46 kx47 (by omega) h (lv_sub hl [0, 1, 2, 4, 5, 6] rfl)
                  · have hc66 : ¬ (L24).toInt ≤ (r50).toInt := i_nle hc66 rfl rfl
                    refine lv_iload hx hb dX9_look_94 (lv_at hl 1 rfl) ?_
                    refine lv_goto (tgt := 100) hx hb dX9_look_96 (by decide) ?_
                    refine lv_istore_n (lv' := [(3, .int L23), (6, .int r50), (5, .int L23), (4, .int L24), (2, .int r19), (0, .ref (ad 64)), (1, .int i)]) hx hb dX9_look_100 rfl hl (by decide) rfl (fun ls hl => ?_)
                    refine lv_iload hx hb dX9_look_101 (lv_at hl 1 rfl) ?_
                    refine lv_iload hx hb dX9_look_103 (lv_at hl 3 rfl) ?_
                    refine lv_icmp_ge (tgt := 113) hx hb dX9_look_105 (by decide) (fun hc74 => ?_) (fun hc74 => ?_)
                    · have hc74 : (L24).toInt ≤ (r50).toInt := i_le hc74 rfl rfl
                      refine lv_iload hx hb dX9_look_113 (lv_at hl 3 rfl) ?_
                      refine lv_istore (lv' := [(4, .int L24), (3, .int L23), (6, .int r50), (5, .int L23), (2, .int r19), (0, .ref (ad 64)), (1, .int i)]) hx hb dX9_look_115 hl (by decide) rfl (fun ls hl => ?_)
                      obtain ⟨z75, e76, t77⟩ := x_add (x := L23) (y := 1) (a := L23.toInt) (b := 1) rfl rfl (by omega) (by omega)
                      refine lv_iinc (v := z75) (lv' := [(5, .int z75), (4, .int L24), (3, .int L23), (6, .int r50), (2, .int r19), (0, .ref (ad 64)), (1, .int i)]) hx hb dX9_look_117 hl (k := 3) rfl e76 (by decide) rfl (fun ls hl => ?_)
                      refine lv_goto (tgt := 30) hx hb dX9_look_120 (by decide) ?_
                      exact ih29  z75 L24 L23 wL39 _ _ _ (by omega) (by omega) ok46 kx47 (by omega) h (lv_sub hl [0, 1, 2, 4, 5, 6] rfl)
                    · have hc74 : ¬ (L24).toInt ≤ (r50).toInt := i_nle hc74 rfl rfl
                      refine lv_iload hx hb dX9_look_108 (lv_at hl 1 rfl) ?_
                      refine lv_goto (tgt := 115) hx hb dX9_look_110 (by decide) ?_
                      refine lv_istore (lv' := [(4, .int r50), (3, .int L23), (6, .int r50), (5, .int L23), (2, .int r19), (0, .ref (ad 64)), (1, .int i)]) hx hb dX9_look_115 hl (by decide) rfl (fun ls hl => ?_)
                      obtain ⟨z78, e79, t80⟩ := x_add (x := L23) (y := 1) (a := L23.toInt) (b := 1) rfl rfl (by omega) (by omega)
                      refine lv_iinc (v := z78) (lv' := [(5, .int z78), (4, .int r50), (3, .int L23), (6, .int r50), (2, .int r19), (0, .ref (ad 64)), (1, .int i)]) hx hb dX9_look_117 hl (k := 3) rfl e79 (by decide) rfl (fun ls hl => ?_)
                      refine lv_goto (tgt := 30) hx hb dX9_look_120 (by decide) ?_
                      exact ih29  z78 r50 L23 wL39 _ _ _ (by omega) (by omega) ok46 kx47 (by omega) h (lv_sub hl [0, 1, 2, 4, 5, 6] rfl)
                · have hc49 : ¬ 6 ≤ (L38).toInt := i_nle hc49 rfl rfl
                  refine lv_aload_n hx hb dX9_look_51 rfl (lv_at hl 5 rfl) ?_
                  obtain ⟨x82, x83, t84, t85, t86, t87, t88, t89, f81, h90, h91⟩ := (show sM ad (wL39 64) from ok46 64 (by decide))
                  have f92 : wL39 64 = .inr (7, [.ref (ad 65), .ref (ad 66), .ref (ad 67), .ref (ad 68), .long x82, .long x83, .ref (ad 69), .int t84, .ref (ad 70), .ref (ad 71), .int t85, .int t86, .int t87, .int t88, .int t89, .ref (ad 72), .ref (ad 73)]) := f81
                  refine r_get kc9 X h 64 8 (by decide) rfl f92 (by decide) kv_518 rfl dX9_look_52 ?_
                  refine lv_iload hx hb dX9_look_55 (lv_at hl 0 rfl) ?_
                  refine lv_iload hx hb dX9_look_57 (lv_at hl 0 rfl) ?_
                  refine lv_aload_n hx hb dX9_look_59 rfl (lv_at hl 5 rfl) ?_
                  refine r_get kc9 X h 64 0 (by decide) rfl f92 (by decide) kv_467 rfl dX9_look_60 ?_
                  refine lv_bipush (v := 23) hx hb dX9_look_63 (by decide) ?_
                  refine lv_iload_n hx hb dX9_look_65 rfl (lv_at hl 6 rfl) ?_
                  obtain ⟨z95, e93, t94⟩ := x_add (x := (23 : Int32)) (y := i) (a := 23) (b := (i).toInt) rfl rfl (by omega) (by omega)
                  refine o_iadd (z := z95) hx hb dX9_look_66 e93 ?_
                  obtain ⟨g97, f96, p98⟩ := (show sA cI 177 (alA) (wL39 65) from ok46 65 (by decide))
                  have f99 : wL39 65 = .inl (cI, 177, .inl g97) := f96
                  obtain ⟨v100, e101⟩ : ∃ z : Int32, g97 (z95).toNatClampNeg = z := ⟨_, rfl⟩
                  refine o_iald (v := v100) X h 65 0 (by decide) rfl f99 rfl (in_of (by omega) (by omega)) e101 dX9_look_67 ?_
                  refine lv_iload hx hb dX9_look_68 (lv_at hl 1 rfl) ?_
                  refine n_Si (na := 3) (As := [.int L38, .int v100, .int L23]) (rest := [.int L38, .ref (ad 70)]) X hD hN h (c_M_givesAs l G cI cB cZ cO ad wL39   L38 v100 L23  ) ⟨kv_477, kv_478, kv_470, kv_479⟩ ⟨by decide, by decide, by decide⟩ ⟨Nat.le_of_ble_eq_true rfl, Nat.le_of_ble_eq_true rfl⟩ ⟨Nat.zero_le _, Nat.zero_le _⟩ rfl hl.1 rfl (Nat.le_of_ble_eq_true rfl) dX9_look_70 (fun r103 w104 H locs hp105 h => ?_)
                  obtain ⟨rfl, hr106⟩ := hp105
                  obtain ⟨g108, f107, p109⟩ := (show sA cI 6 (anyA) (wL39 70) from ok46 70 (by decide))
                  have f110 : wL39 70 = .inl (cI, 6, .inl g108) := f107
                  obtain ⟨g111, e112⟩ : ∃ z : Nat → Int32, upd g108 (L38).toNatClampNeg r103 = z := ⟨_, rfl⟩
                  have p113 : anyA g111 := trivial
                  refine o_iast (f1 := g111) X hD h 70 0 (by decide) rfl f110 rfl (in_of (by omega) (by omega)) e112 dX9_look_73 (fun H locs w114 e115 h => ?_)
                  have f116 : w114 70 = .inl (cI, 6, .inl g111) := (congrFun e115 _).trans (va_up_self _ _ _)
                  have ok117 : OK cI cB cZ cO ad w114 := OK.up ok46 e115 (sA_mk p113)
                  have kx118 : KM w w114 := KM.up kx47 e115 f110 rfl
                  obtain ⟨z119, e120, t121⟩ := x_add (x := L38) (y := 1) (a := L38.toInt) (b := 1) rfl rfl (by omega) (by omega)
                  refine lv_iinc (v := z119) (lv' := [(6, .int z119), (5, .int L23), (4, .int L24), (3, .int L25), (2, .int r19), (0, .ref (ad 64)), (1, .int i)]) hx hb dX9_look_74 hl (k := 0) rfl e120 (by decide) rfl (fun ls hl => ?_)
                  refine lv_goto (tgt := 44) hx hb dX9_look_77 (by decide) ?_
                  exact ih42  z119 w114 _ _ _ (by omega) (by omega) ok117 kx118 (by omega) h (lv_sub hl [0, 1, 2, 3, 4, 5, 6] rfl)
            exact hloop40 7 (0 : Int32) wL26 _ _ _ (by have q0 : (0 : Int32).toInt = 0 := rfl; omega) (by have q0 : (0 : Int32).toInt = 0 := rfl; omega) ok33 kx34 (by have q0 : (0 : Int32).toInt = 0 := rfl; omega) h (lv_sub hl [0, 1, 2, 3, 4, 5, 6] rfl)
    exact hloop27 25 (0 : Int32) (1000000 : Int32) ((-1) : Int32) w _ _ _ (by have q0 : (0 : Int32).toInt = 0 := rfl; have q1 : (1000000 : Int32).toInt = 1000000 := rfl; have q2 : ((-1) : Int32).toInt = (-1) := rfl; omega) (by have q0 : (0 : Int32).toInt = 0 := rfl; have q1 : (1000000 : Int32).toInt = 1000000 := rfl; have q2 : ((-1) : Int32).toInt = (-1) := rfl; omega) ok KM.rf (by have q0 : (0 : Int32).toInt = 0 := rfl; have q1 : (1000000 : Int32).toInt = 1000000 := rfl; have q2 : ((-1) : Int32).toInt = (-1) := rfl; omega) h (lv_sub hl [0, 1, 2, 3, 4, 5] rfl)
  · refine lv_if_ne (tgt := 15) hx hb dX9_look_5 (by decide) (fun hc => absurd (by decide) hc) (fun _ => ?_)
    refine lv_aload_n hx hb dX9_look_8 rfl (lv_at hl 0 rfl) ?_
    refine lv_bipush (v := (-2)) hx hb dX9_look_9 (by decide) ?_
    refine n_Vi (na := 1) (As := [.int (-2)]) (rest := []) X hD hN h rfl (c_M_bad l G cI cB cZ cO ad w  ok ((-2) : Int32)  ) ⟨kv_553, kv_554, kv_555, kv_470, kv_556⟩ rfl ⟨by decide, by decide, by decide⟩ ⟨Nat.le_of_ble_eq_true rfl, Nat.le_of_ble_eq_true rfl⟩ ⟨Nat.zero_le _, Nat.zero_le _⟩ (by decide) f15 rfl rfl hl.1 rfl (Nat.le_of_ble_eq_true rfl) dX9_look_11 (fun r122 w123 H locs hp124 h => ?_)
    obtain ⟨ok126, kk127, hr125⟩ := hp124
    have kx128 : KM w w123 := kk127
    subst hr125
    exact e_i X h hr hlk dX9_look_14 ⟨ok126, kx128, trivial⟩

set_option maxHeartbeats 4000000 in
set_option maxRecDepth 100000 in
theorem c_M_ask_ (l : Launch) (G : va_G) (cI cB cZ cO : ClassId) (ad : Nat → Nat) (w : Nat → va_E)  (ok : OK cI cB cZ cO ad w) (j : Int32)   : NI l G (tyq cI cB cZ cO) yX9_ask cX9_ask 8 (some .int) 3 76 74 ad w [.ref (ad 64), .int j] (fun r w1 => OK cI cB cZ cO ad w1 ∧ KM w w1 ∧ True) := by
  refine nk_i (own := "NoonShadeModel") rfl (by decide) (Nat.le_of_ble_eq_true rfl) ?_
  intro p e s m below meth c ls X hD hN hr hlk h hl
  have hx := X.1.1
  have hb := X.1.2.1
  have hown := X.1.2.2.2.1
  have hts := X.1.2.2.2.2
  have hl : lv_has ls 8 [(0, .ref (ad 64)), (1, .int j)] := hl
  refine lv_aload_n hx hb dX9_ask_0 rfl (lv_at hl 0 rfl) ?_
  refine lv_iload_n hx hb dX9_ask_1 rfl (lv_at hl 1 rfl) ?_
  obtain ⟨x5, x6, t7, t8, t9, t10, t11, t12, f4, h13, h14⟩ := (show sM ad (w 64) from ok 64 (by decide))
  have f15 : w 64 = .inr (7, [.ref (ad 65), .ref (ad 66), .ref (ad 67), .ref (ad 68), .long x5, .long x6, .ref (ad 69), .int t7, .ref (ad 70), .ref (ad 71), .int t8, .int t9, .int t10, .int t11, .int t12, .ref (ad 72), .ref (ad 73)]) := f4
  refine n_Vi (na := 1) (As := [.int j]) (rest := []) X hD hN h rfl (c_M_isJar l G cI cB cZ cO ad w  ok j  ) ⟨kv_541, kv_542, kv_543, kv_470, kv_544⟩ rfl ⟨by decide, by decide, by decide⟩ ⟨Nat.le_of_ble_eq_true rfl, Nat.le_of_ble_eq_true rfl⟩ ⟨Nat.zero_le _, Nat.zero_le _⟩ (by decide) f15 rfl rfl hl.1 rfl (Nat.le_of_ble_eq_true rfl) dX9_ask_2 (fun r1 w2 H locs hp3 h => ?_)
  obtain ⟨rfl, hr16⟩ := hp3
  rcases hr16 with ⟨hq17, hq18, rfl⟩ | rfl
  · refine lv_if_ne (tgt := 15) hx hb dX9_ask_5 (by decide) (fun _ => ?_) (fun hc => absurd hc (by decide))
    refine lv_aload_n hx hb dX9_ask_15 rfl (lv_at hl 0 rfl) ?_
    refine lv_iload_n hx hb dX9_ask_16 rfl (lv_at hl 1 rfl) ?_
    refine n_Vi (na := 1) (As := [.int j]) (rest := []) X hD hN h rfl (c_M_kindsOfJar l G cI cB cZ cO ad w  ok j  ) ⟨kv_592, kv_593, kv_594, kv_470, kv_595⟩ rfl ⟨by decide, by decide, by decide⟩ ⟨Nat.le_of_ble_eq_true rfl, Nat.le_of_ble_eq_true rfl⟩ ⟨Nat.zero_le _, Nat.zero_le _⟩ (by decide) f15 rfl rfl hl.1 rfl (Nat.le_of_ble_eq_true rfl) dX9_ask_17 (fun r19 w20 H locs hp21 h => ?_)
    obtain ⟨rfl, hr22⟩ := hp21
    refine lv_istore_n (lv' := [(2, .int r19), (0, .ref (ad 64)), (1, .int j)]) hx hb dX9_ask_20 rfl hl (by decide) rfl (fun ls hl => ?_)
    refine lv_iconst (v := (-1)) hx hb dX9_ask_21 (by decide) ?_
    refine lv_istore_n (lv' := [(3, .int (-1)), (2, .int r19), (0, .ref (ad 64)), (1, .int j)]) hx hb dX9_ask_22 rfl hl (by decide) rfl (fun ls hl => ?_)
    refine lv_ldc (v := 1000000) hx hb hown (hts _ kv_596) dX9_ask_23 ?_
    refine lv_istore (lv' := [(4, .int 1000000), (3, .int (-1)), (2, .int r19), (0, .ref (ad 64)), (1, .int j)]) hx hb dX9_ask_25 hl (by decide) rfl (fun ls hl => ?_)
    refine lv_iconst (v := 0) hx hb dX9_ask_27 (by decide) ?_
    refine lv_istore (lv' := [(5, .int 0), (4, .int 1000000), (3, .int (-1)), (2, .int r19), (0, .ref (ad 64)), (1, .int j)]) hx hb dX9_ask_28 hl (by decide) rfl (fun ls hl => ?_)
    have hloop27 : ∀ (d28 : Nat) (L23 : Int32) (L24 : Int32) (L25 : Int32) (wL26 : Nat → va_E) (H : Heap) (locs : List Loc) (ls : Array Slot), 0 ≤ L23.toInt → L23.toInt ≤ 61 → OK cI cB cZ cO ad wL26 → KM w wL26 → 61 - L23.toInt < (d28 : Int) → St G 74 ad (wA 74 ad s.heap.size) s.heap wL26 H locs → lv_has ls 8 [(5, .int L23), (4, .int L24), (3, .int L25), (2, .int r19), (0, .ref (ad 64)), (1, .int j)] → W p l e { frames := 3, cells := 0, slots := 0, locals := 76 } s m [.ref (ad 64), .int j].toArray below meth c H locs 0 0 (MQ below (va_Qi (fun r w1 => OK cI cB cZ cO ad w1 ∧ KM w w1 ∧ True) (Aft G 74 ad) (wA 74 ad s.heap.size)) [.ref (ad 64), .int j].toArray s 0 0 (wA 74 ad s.heap.size)) (F0 m 30 ls []) := by
      intro d28
      induction d28 with
      | zero => intro L23 L24 L25 wL26 H locs ls hi31 hi32 ok33 kx34 hm30 h hl; exfalso; omega
      | succ d28 ih29 =>
        intro L23 L24 L25 wL26 H locs ls hi31 hi32 ok33 kx34 hm30 h hl
        refine lv_iload hx hb dX9_ask_30 (lv_at hl 0 rfl) ?_
        refine lv_bipush (v := 60) hx hb dX9_ask_32 (by decide) ?_
        refine lv_icmp_gt (tgt := 138) hx hb dX9_ask_34 (by decide) (fun hc36 => ?_) (fun hc36 => ?_)
        · have hc36 : 60 < (L23).toInt := i_lt hc36 rfl rfl
          refine lv_iload_n hx hb dX9_ask_138 rfl (lv_at hl 2 rfl) ?_
          exact e_i X h hr hlk dX9_ask_139 ⟨ok33, kx34, trivial⟩
        · have hc36 : ¬ 60 < (L23).toInt := i_nlt hc36 rfl rfl
          refine lv_iload_n hx hb dX9_ask_37 rfl (lv_at hl 3 rfl) ?_
          refine lv_if_le (tgt := 138) hx hb dX9_ask_38 (by decide) (fun hc37 => ?_) (fun hc37 => ?_)
          · have hc37 : (r19).toInt ≤ 0 := i_le hc37 rfl rfl
            refine lv_iload_n hx hb dX9_ask_138 rfl (lv_at hl 2 rfl) ?_
            exact e_i X h hr hlk dX9_ask_139 ⟨ok33, kx34, trivial⟩
          · have hc37 : ¬ (r19).toInt ≤ 0 := i_nle hc37 rfl rfl
            refine lv_iconst (v := 0) hx hb dX9_ask_41 (by decide) ?_
            refine lv_istore (lv' := [(6, .int 0), (5, .int L23), (4, .int L24), (3, .int L25), (2, .int r19), (0, .ref (ad 64)), (1, .int j)]) hx hb dX9_ask_42 hl (by decide) rfl (fun ls hl => ?_)
            have hloop42 : ∀ (d43 : Nat) (L38 : Int32) (L39 : Int32) (L40 : Int32) (wL41 : Nat → va_E) (H : Heap) (locs : List Loc) (ls : Array Slot), 0 ≤ L38.toInt → L38.toInt ≤ 24 → OK cI cB cZ cO ad wL41 → KM w wL41 → 24 - L38.toInt < (d43 : Int) → St G 74 ad (wA 74 ad s.heap.size) s.heap wL41 H locs → lv_has ls 8 [(6, .int L38), (5, .int L23), (4, .int L39), (3, .int L40), (2, .int r19), (0, .ref (ad 64)), (1, .int j)] → W p l e { frames := 3, cells := 0, slots := 0, locals := 76 } s m [.ref (ad 64), .int j].toArray below meth c H locs 0 0 (MQ below (va_Qi (fun r w1 => OK cI cB cZ cO ad w1 ∧ KM w w1 ∧ True) (Aft G 74 ad) (wA 74 ad s.heap.size)) [.ref (ad 64), .int j].toArray s 0 0 (wA 74 ad s.heap.size)) (F0 m 44 ls []) := by
              intro d43
              induction d43 with
              | zero => intro L38 L39 L40 wL41 H locs ls hi46 hi47 ok48 kx49 hm45 h hl; exfalso; omega
              | succ d43 ih44 =>
                intro L38 L39 L40 wL41 H locs ls hi46 hi47 ok48 kx49 hm45 h hl
                refine lv_iload hx hb dX9_ask_44 (lv_at hl 0 rfl) ?_
                refine lv_bipush (v := 24) hx hb dX9_ask_46 (by decide) ?_
                refine lv_icmp_ge (tgt := 132) hx hb dX9_ask_48 (by decide) (fun hc51 => ?_) (fun hc51 => ?_)
                · have hc51 : 24 ≤ (L38).toInt := i_le hc51 rfl rfl
                  obtain ⟨z52, e53, t54⟩ := x_add (x := L23) (y := 1) (a := L23.toInt) (b := 1) rfl rfl (by omega) (by omega)
                  refine lv_iinc (v := z52) (lv' := [(5, .int z52), (6, .int L38), (4, .int L39), (3, .int L40), (2, .int r19), (0, .ref (ad 64)), (1, .int j)]) hx hb dX9_ask_132 hl (k := 1) rfl e53 (by decide) rfl (fun ls hl => ?_)
                  refine lv_goto (tgt := 30) hx hb dX9_ask_135 (by decide) ?_
                  exact ih29  z52 L39 L40 wL41 _ _ _ (by omega) (by omega) ok48 kx49 (by omega) h (lv_sub hl [0, 2, 3, 4, 5, 6] rfl)
                · have hc51 : ¬ 24 ≤ (L38).toInt := i_nle hc51 rfl rfl
                  refine lv_iconst (v := 0) hx hb dX9_ask_51 (by decide) ?_
                  refine lv_istore (lv' := [(7, .int 0), (6, .int L38), (5, .int L23), (4, .int L39), (3, .int L40), (2, .int r19), (0, .ref (ad 64)), (1, .int j)]) hx hb dX9_ask_52 hl (by decide) rfl (fun ls hl => ?_)
                  have hloop57 : ∀ (d58 : Nat) (L55 : Int32) (wL56 : Nat → va_E) (H : Heap) (locs : List Loc) (ls : Array Slot), 0 ≤ L55.toInt → L55.toInt ≤ 6 → OK cI cB cZ cO ad wL56 → KM w wL56 → 6 - L55.toInt < (d58 : Int) → St G 74 ad (wA 74 ad s.heap.size) s.heap wL56 H locs → lv_has ls 8 [(7, .int L55), (6, .int L38), (5, .int L23), (4, .int L39), (3, .int L40), (2, .int r19), (0, .ref (ad 64)), (1, .int j)] → W p l e { frames := 3, cells := 0, slots := 0, locals := 76 } s m [.ref (ad 64), .int j].toArray below meth c H locs 0 0 (MQ below (va_Qi (fun r w1 => OK cI cB cZ cO ad w1 ∧ KM w w1 ∧ True) (Aft G 74 ad) (wA 74 ad s.heap.size)) [.ref (ad 64), .int j].toArray s 0 0 (wA 74 ad s.heap.size)) (F0 m 54 ls []) := by
                    intro d58
                    induction d58 with
                    | zero => intro L55 wL56 H locs ls hi61 hi62 ok63 kx64 hm60 h hl; exfalso; omega
                    | succ d58 ih59 =>
                      intro L55 wL56 H locs ls hi61 hi62 ok63 kx64 hm60 h hl
                      refine lv_iload hx hb dX9_ask_54 (lv_at hl 0 rfl) ?_
                      refine lv_bipush (v := 6) hx hb dX9_ask_56 (by decide) ?_
                      refine lv_icmp_ge (tgt := 83) hx hb dX9_ask_58 (by decide) (fun hc66 => ?_) (fun hc66 => ?_)
                      · have hc66 : 6 ≤ (L55).toInt := i_le hc66 rfl rfl
                        refine lv_aload_n hx hb dX9_ask_83 rfl (lv_at hl 6 rfl) ?_
                        refine lv_iload_n hx hb dX9_ask_84 rfl (lv_at hl 5 rfl) ?_
                        obtain ⟨x71, x72, t73, t74, t75, t76, t77, t78, f70, h79, h80⟩ := (show sM ad (wL56 64) from ok63 64 (by decide))
                        have f81 : wL56 64 = .inr (7, [.ref (ad 65), .ref (ad 66), .ref (ad 67), .ref (ad 68), .long x71, .long x72, .ref (ad 69), .int t73, .ref (ad 70), .ref (ad 71), .int t74, .int t75, .int t76, .int t77, .int t78, .ref (ad 72), .ref (ad 73)]) := f70
                        refine n_Vi (na := 1) (As := [.int r19]) (rest := []) X hD hN h rfl (c_M_mostAlike l G cI cB cZ cO ad wL56  ok63 r19  ) ⟨kv_597, kv_598, kv_599, kv_470, kv_600⟩ rfl ⟨by decide, by decide, by decide⟩ ⟨Nat.le_of_ble_eq_true rfl, Nat.le_of_ble_eq_true rfl⟩ ⟨Nat.zero_le _, Nat.zero_le _⟩ (by decide) f81 rfl rfl hl.1 rfl (Nat.le_of_ble_eq_true rfl) dX9_ask_85 (fun r67 w68 H locs hp69 h => ?_)
                        obtain ⟨rfl, hr82⟩ := hp69
                        refine lv_istore (lv' := [(7, .int r67), (6, .int L38), (5, .int L23), (4, .int L39), (3, .int L40), (2, .int r19), (0, .ref (ad 64)), (1, .int j)]) hx hb dX9_ask_88 hl (by decide) rfl (fun ls hl => ?_)
                        refine lv_iload hx hb dX9_ask_90 (lv_at hl 0 rfl) ?_
                        refine lv_iload hx hb dX9_ask_92 (lv_at hl 3 rfl) ?_
                        refine lv_icmp_ge (tgt := 108) hx hb dX9_ask_94 (by decide) (fun hc83 => ?_) (fun hc83 => ?_)
                        · have hc83 : (L39).toInt ≤ (r67).toInt := i_le hc83 rfl rfl
                          refine lv_iload_n hx hb dX9_ask_108 rfl (lv_at hl 4 rfl) ?_
                          refine lv_istore_n (lv' := [(3, .int L40), (7, .int r67), (6, .int L38), (5, .int L23), (4, .int L39), (2, .int r19), (0, .ref (ad 64)), (1, .int j)]) hx hb dX9_ask_109 rfl hl (by decide) rfl (fun ls hl => ?_)
                          refine lv_iload hx hb dX9_ask_110 (lv_at hl 1 rfl) ?_
                          refine lv_iload hx hb dX9_ask_112 (lv_at hl 4 rfl) ?_
                          refine lv_icmp_ge (tgt := 122) hx hb dX9_ask_114 (by decide) (fun hc84 => ?_) (fun hc84 => ?_)
                          · have hc84 : (L39).toInt ≤ (r67).toInt := i_le hc84 rfl rfl
                            refine lv_iload hx hb dX9_ask_122 (lv_at hl 4 rfl) ?_
                            refine lv_istore (lv' := [(4, .int L39), (3, .int L40), (7, .int r67), (6, .int L38), (5, .int L23), (2, .int r19), (0, .ref (ad 64)), (1, .int j)]) hx hb dX9_ask_124 hl (by decide) rfl (fun ls hl => ?_)
                            obtain ⟨z85, e86, t87⟩ := x_add (x := L38) (y := 1) (a := L38.toInt) (b := 1) rfl rfl (by omega) (by omega)
                            refine lv_iinc (v := z85) (lv' := [(6, .int z85), (4, .int L39), (3, .int L40), (7, .int r67), (5, .int L23), (2, .int r19), (0, .ref (ad 64)), (1, .int j)]) hx hb dX9_ask_126 hl (k := 3) rfl e86 (by decide) rfl (fun ls hl => ?_)
                            refine lv_goto (tgt := 44) hx hb dX9_ask_129 (by decide) ?_
                            exact ih44  z85 L39 L40 wL56 _ _ _ (by omega) (by omega) ok63 kx64 (by omega) h (lv_sub hl [0, 4, 1, 2, 5, 6, 7] rfl)
                          · have hc84 : ¬ (L39).toInt ≤ (r67).toInt := i_nle hc84 rfl rfl
                            refine lv_iload hx hb dX9_ask_117 (lv_at hl 1 rfl) ?_
                            refine lv_goto (tgt := 124) hx hb dX9_ask_119 (by decide) ?_
                            refine lv_istore (lv' := [(4, .int r67), (3, .int L40), (7, .int r67), (6, .int L38), (5, .int L23), (2, .int r19), (0, .ref (ad 64)), (1, .int j)]) hx hb dX9_ask_124 hl (by decide) rfl (fun ls hl => ?_)
                            obtain ⟨z88, e89, t90⟩ := x_add (x := L38) (y := 1) (a := L38.toInt) (b := 1) rfl rfl (by omega) (by omega)
                            refine lv_iinc (v := z88) (lv' := [(6, .int z88), (4, .int r67), (3, .int L40), (7, .int r67), (5, .int L23), (2, .int r19), (0, .ref (ad 64)), (1, .int j)]) hx hb dX9_ask_126 hl (k := 3) rfl e89 (by decide) rfl (fun ls hl => ?_)
                            refine lv_goto (tgt := 44) hx hb dX9_ask_129 (by decide) ?_
                            exact ih44  z88 r67 L40 wL56 _ _ _ (by omega) (by omega) ok63 kx64 (by omega) h (lv_sub hl [0, 4, 1, 2, 5, 6, 7] rfl)
                        · have hc83 : ¬ (L39).toInt ≤ (r67).toInt := i_nle hc83 rfl rfl
                          refine lv_bipush (v := 100) hx hb dX9_ask_97 (by decide) ?_
                          refine lv_iload hx hb dX9_ask_99 (lv_at hl 2 rfl) ?_
                          obtain ⟨z93, e91, t92⟩ := x_mul (x := (100 : Int32)) (y := L23) (a := 100) (b := (L23).toInt) rfl rfl (by omega) (by omega)
                          refine o_imul (z := z93) hx hb dX9_ask_101 e91 ?_
                          refine lv_iload hx hb dX9_ask_102 (lv_at hl 1 rfl) ?_
                          obtain ⟨z96, e94, t95⟩ := x_add (x := z93) (y := L38) (a := (z93).toInt) (b := (L38).toInt) rfl rfl (by omega) (by omega)
                          refine o_iadd (z := z96) hx hb dX9_ask_104 e94 ?_
                          refine lv_goto (tgt := 109) hx hb dX9_ask_105 (by decide) ?_
                          refine lv_istore_n (lv' := [(3, .int z96), (7, .int r67), (6, .int L38), (5, .int L23), (4, .int L39), (2, .int r19), (0, .ref (ad 64)), (1, .int j)]) hx hb dX9_ask_109 rfl hl (by decide) rfl (fun ls hl => ?_)
                          refine lv_iload hx hb dX9_ask_110 (lv_at hl 1 rfl) ?_
                          refine lv_iload hx hb dX9_ask_112 (lv_at hl 4 rfl) ?_
                          refine lv_icmp_ge (tgt := 122) hx hb dX9_ask_114 (by decide) (fun hc97 => ?_) (fun hc97 => ?_)
                          · have hc97 : (L39).toInt ≤ (r67).toInt := i_le hc97 rfl rfl
                            refine lv_iload hx hb dX9_ask_122 (lv_at hl 4 rfl) ?_
                            refine lv_istore (lv' := [(4, .int L39), (3, .int z96), (7, .int r67), (6, .int L38), (5, .int L23), (2, .int r19), (0, .ref (ad 64)), (1, .int j)]) hx hb dX9_ask_124 hl (by decide) rfl (fun ls hl => ?_)
                            obtain ⟨z98, e99, t100⟩ := x_add (x := L38) (y := 1) (a := L38.toInt) (b := 1) rfl rfl (by omega) (by omega)
                            refine lv_iinc (v := z98) (lv' := [(6, .int z98), (4, .int L39), (3, .int z96), (7, .int r67), (5, .int L23), (2, .int r19), (0, .ref (ad 64)), (1, .int j)]) hx hb dX9_ask_126 hl (k := 3) rfl e99 (by decide) rfl (fun ls hl => ?_)
                            refine lv_goto (tgt := 44) hx hb dX9_ask_129 (by decide) ?_
                            exact ih44  z98 L39 z96 wL56 _ _ _ (by omega) (by omega) ok63 kx64 (by omega) h (lv_sub hl [0, 4, 1, 2, 5, 6, 7] rfl)
                          · have hc97 : ¬ (L39).toInt ≤ (r67).toInt := i_nle hc97 rfl rfl
                            refine lv_iload hx hb dX9_ask_117 (lv_at hl 1 rfl) ?_
                            refine lv_goto (tgt := 124) hx hb dX9_ask_119 (by decide) ?_
                            refine lv_istore (lv' := [(4, .int r67), (3, .int z96), (7, .int r67), (6, .int L38), (5, .int L23), (2, .int r19), (0, .ref (ad 64)), (1, .int j)]) hx hb dX9_ask_124 hl (by decide) rfl (fun ls hl => ?_)
                            obtain ⟨z101, e102, t103⟩ := x_add (x := L38) (y := 1) (a := L38.toInt) (b := 1) rfl rfl (by omega) (by omega)
                            refine lv_iinc (v := z101) (lv' := [(6, .int z101), (4, .int r67), (3, .int z96), (7, .int r67), (5, .int L23), (2, .int r19), (0, .ref (ad 64)), (1, .int j)]) hx hb dX9_ask_126 hl (k := 3) rfl e102 (by decide) rfl (fun ls hl => ?_)
                            refine lv_goto (tgt := 44) hx hb dX9_ask_129 (by decide) ?_
                            exact ih44  z101 r67 z96 wL56 _ _ _ (by omega) (by omega) ok63 kx64 (by omega) h (lv_sub hl [0, 4, 1, 2, 5, 6, 7] rfl)
                      · have hc66 : ¬ 6 ≤ (L55).toInt := i_nle hc66 rfl rfl
                        refine lv_aload_n hx hb dX9_ask_61 rfl (lv_at hl 6 rfl) ?_
                        obtain ⟨x105, x106, t107, t108, t109, t110, t111, t112, f104, h113, h114⟩ := (show sM ad (wL56 64) from ok63 64 (by decide))
                        have f115 : wL56 64 = .inr (7, [.ref (ad 65), .ref (ad 66), .ref (ad 67), .ref (ad 68), .long x105, .long x106, .ref (ad 69), .int t107, .ref (ad 70), .ref (ad 71), .int t108, .int t109, .int t110, .int t111, .int t112, .ref (ad 72), .ref (ad 73)]) := f104
                        refine r_get kc9 X h 64 8 (by decide) rfl f115 (by decide) kv_518 rfl dX9_ask_62 ?_
                        refine lv_iload hx hb dX9_ask_65 (lv_at hl 0 rfl) ?_
                        refine lv_iload hx hb dX9_ask_67 (lv_at hl 0 rfl) ?_
                        refine lv_iload hx hb dX9_ask_69 (lv_at hl 2 rfl) ?_
                        refine lv_iload hx hb dX9_ask_71 (lv_at hl 1 rfl) ?_
                        refine n_Si (na := 3) (As := [.int L55, .int L23, .int L38]) (rest := [.int L55, .ref (ad 70)]) X hD hN h (c_M_losesAs l G cI cB cZ cO ad wL56   L55 L23 L38  ) ⟨kv_480, kv_481, kv_470, kv_482⟩ ⟨by decide, by decide, by decide⟩ ⟨Nat.le_of_ble_eq_true rfl, Nat.le_of_ble_eq_true rfl⟩ ⟨Nat.zero_le _, Nat.zero_le _⟩ rfl hl.1 rfl (Nat.le_of_ble_eq_true rfl) dX9_ask_73 (fun r116 w117 H locs hp118 h => ?_)
                        obtain ⟨rfl, hr119⟩ := hp118
                        obtain ⟨g121, f120, p122⟩ := (show sA cI 6 (anyA) (wL56 70) from ok63 70 (by decide))
                        have f123 : wL56 70 = .inl (cI, 6, .inl g121) := f120
                        obtain ⟨g124, e125⟩ : ∃ z : Nat → Int32, upd g121 (L55).toNatClampNeg r116 = z := ⟨_, rfl⟩
                        have p126 : anyA g124 := trivial
                        refine o_iast (f1 := g124) X hD h 70 0 (by decide) rfl f123 rfl (in_of (by omega) (by omega)) e125 dX9_ask_76 (fun H locs w127 e128 h => ?_)
                        have f129 : w127 70 = .inl (cI, 6, .inl g124) := (congrFun e128 _).trans (va_up_self _ _ _)
                        have ok130 : OK cI cB cZ cO ad w127 := OK.up ok63 e128 (sA_mk p126)
                        have kx131 : KM w w127 := KM.up kx64 e128 f123 rfl
                        obtain ⟨z132, e133, t134⟩ := x_add (x := L55) (y := 1) (a := L55.toInt) (b := 1) rfl rfl (by omega) (by omega)
                        refine lv_iinc (v := z132) (lv' := [(7, .int z132), (6, .int L38), (5, .int L23), (4, .int L39), (3, .int L40), (2, .int r19), (0, .ref (ad 64)), (1, .int j)]) hx hb dX9_ask_77 hl (k := 0) rfl e133 (by decide) rfl (fun ls hl => ?_)
                        refine lv_goto (tgt := 54) hx hb dX9_ask_80 (by decide) ?_
                        exact ih59  z132 w127 _ _ _ (by omega) (by omega) ok130 kx131 (by omega) h (lv_sub hl [0, 1, 2, 3, 4, 5, 6, 7] rfl)
                  exact hloop57 7 (0 : Int32) wL41 _ _ _ (by have q0 : (0 : Int32).toInt = 0 := rfl; omega) (by have q0 : (0 : Int32).toInt = 0 := rfl; omega) ok48 kx49 (by have q0 : (0 : Int32).toInt = 0 := rfl; omega) h (lv_sub hl [0, 1, 2, 3, 4, 5, 6, 7] rfl)
            exact hloop42 25 (0 : Int32) L24 L25 wL26 _ _ _ (by have q0 : (0 : Int32).toInt = 0 := rfl; omega) (by have q0 : (0 : Int32).toInt = 0 := rfl; omega) ok33 kx34 (by have q0 : (0 : Int32).toInt = 0 := rfl; omega) h (lv_sub hl [0, 1, 2, 3, 4, 5, 6] rfl)
    exact hloop27 62 (0 : Int32) (1000000 : Int32) ((-1) : Int32) w _ _ _ (by have q0 : (0 : Int32).toInt = 0 := rfl; have q1 : (1000000 : Int32).toInt = 1000000 := rfl; have q2 : ((-1) : Int32).toInt = (-1) := rfl; omega) (by have q0 : (0 : Int32).toInt = 0 := rfl; have q1 : (1000000 : Int32).toInt = 1000000 := rfl; have q2 : ((-1) : Int32).toInt = (-1) := rfl; omega) ok KM.rf (by have q0 : (0 : Int32).toInt = 0 := rfl; have q1 : (1000000 : Int32).toInt = 1000000 := rfl; have q2 : ((-1) : Int32).toInt = (-1) := rfl; omega) h (lv_sub hl [0, 1, 2, 3, 4, 5] rfl)
  · refine lv_if_ne (tgt := 15) hx hb dX9_ask_5 (by decide) (fun hc => absurd (by decide) hc) (fun _ => ?_)
    refine lv_aload_n hx hb dX9_ask_8 rfl (lv_at hl 0 rfl) ?_
    refine lv_bipush (v := (-2)) hx hb dX9_ask_9 (by decide) ?_
    refine n_Vi (na := 1) (As := [.int (-2)]) (rest := []) X hD hN h rfl (c_M_bad l G cI cB cZ cO ad w  ok ((-2) : Int32)  ) ⟨kv_553, kv_554, kv_555, kv_470, kv_556⟩ rfl ⟨by decide, by decide, by decide⟩ ⟨Nat.le_of_ble_eq_true rfl, Nat.le_of_ble_eq_true rfl⟩ ⟨Nat.zero_le _, Nat.zero_le _⟩ (by decide) f15 rfl rfl hl.1 rfl (Nat.le_of_ble_eq_true rfl) dX9_ask_11 (fun r135 w136 H locs hp137 h => ?_)
    obtain ⟨ok139, kk140, hr138⟩ := hp137
    have kx141 : KM w w136 := kk140
    subst hr138
    exact e_i X h hr hlk dX9_ask_14 ⟨ok139, kx141, trivial⟩

set_option maxHeartbeats 4000000 in
set_option maxRecDepth 100000 in
theorem c_M_two_ (l : Launch) (G : va_G) (cI cB cZ cO : ClassId) (ad : Nat → Nat) (w : Nat → va_E)  (ok : OK cI cB cZ cO ad w) (k : Int32)   : NI l G (tyq cI cB cZ cO) yX9_two cX9_two 5 (some .int) 4 94 74 ad w [.ref (ad 64), .int k] (fun r w1 => OK cI cB cZ cO ad w1 ∧ KM w w1 ∧ True) := by
  refine nk_i (own := "NoonShadeModel") rfl (by decide) (Nat.le_of_ble_eq_true rfl) ?_
  intro p e s m below meth c ls X hD hN hr hlk h hl
  have hx := X.1.1
  have hb := X.1.2.1
  have hown := X.1.2.2.2.1
  have hts := X.1.2.2.2.2
  have hl : lv_has ls 5 [(0, .ref (ad 64)), (1, .int k)] := hl
  refine lv_iload_n hx hb dX9_two_0 rfl (lv_at hl 1 rfl) ?_
  refine lv_iconst (v := (-1)) hx hb dX9_two_1 (by decide) ?_
  refine lv_icmp_ge (tgt := 12) hx hb dX9_two_2 (by decide) (fun hc1 => ?_) (fun hc1 => ?_)
  · have hc1 : (-1) ≤ (k).toInt := i_le hc1 rfl rfl
    refine lv_iconst (v := 0) hx hb dX9_two_12 (by decide) ?_
    refine lv_istore_n (lv' := [(2, .int 0), (0, .ref (ad 64)), (1, .int k)]) hx hb dX9_two_13 rfl hl (by decide) rfl (fun ls hl => ?_)
    refine lv_iconst (v := 0) hx hb dX9_two_14 (by decide) ?_
    refine lv_istore_n (lv' := [(3, .int 0), (2, .int 0), (0, .ref (ad 64)), (1, .int k)]) hx hb dX9_two_15 rfl hl (by decide) rfl (fun ls hl => ?_)
    have hloop5 : ∀ (d6 : Nat) (L2 : Int32) (L3 : Int32) (wL4 : Nat → va_E) (H : Heap) (locs : List Loc) (ls : Array Slot), 0 ≤ L2.toInt → L2.toInt ≤ 7 → OK cI cB cZ cO ad wL4 → KM w wL4 → 7 - L2.toInt < (d6 : Int) → St G 74 ad (wA 74 ad s.heap.size) s.heap wL4 H locs → lv_has ls 5 [(3, .int L2), (2, .int L3), (0, .ref (ad 64)), (1, .int k)] → W p l e { frames := 4, cells := 0, slots := 0, locals := 94 } s m [.ref (ad 64), .int k].toArray below meth c H locs 0 0 (MQ below (va_Qi (fun r w1 => OK cI cB cZ cO ad w1 ∧ KM w w1 ∧ True) (Aft G 74 ad) (wA 74 ad s.heap.size)) [.ref (ad 64), .int k].toArray s 0 0 (wA 74 ad s.heap.size)) (F0 m 16 ls []) := by
      intro d6
      induction d6 with
      | zero => intro L2 L3 wL4 H locs ls hi9 hi10 ok11 kx12 hm8 h hl; exfalso; omega
      | succ d6 ih7 =>
        intro L2 L3 wL4 H locs ls hi9 hi10 ok11 kx12 hm8 h hl
        refine lv_iload_n hx hb dX9_two_16 rfl (lv_at hl 0 rfl) ?_
        refine lv_bipush (v := 7) hx hb dX9_two_17 (by decide) ?_
        refine lv_icmp_ge (tgt := 87) hx hb dX9_two_19 (by decide) (fun hc14 => ?_) (fun hc14 => ?_)
        · have hc14 : 7 ≤ (L2).toInt := i_le hc14 rfl rfl
          refine lv_iload_n hx hb dX9_two_87 rfl (lv_at hl 3 rfl) ?_
          refine lv_iconst (v := (-1)) hx hb dX9_two_88 (by decide) ?_
          refine lv_icmp_ne (tgt := 96) hx hb dX9_two_89 (by decide) (fun hc15 => ?_) (fun hc15 => ?_)
          · have hc15 : ¬ (k).toInt = (-1) := i_ne hc15 rfl rfl
            refine lv_bipush (v := (-5)) hx hb dX9_two_96 (by decide) ?_
            exact e_i X h hr hlk dX9_two_98 ⟨ok11, kx12, trivial⟩
          · have hc15 : (k).toInt = (-1) := i_eq hc15 rfl rfl
            refine lv_iload_n hx hb dX9_two_92 rfl (lv_at hl 1 rfl) ?_
            refine lv_goto (tgt := 98) hx hb dX9_two_93 (by decide) ?_
            exact e_i X h hr hlk dX9_two_98 ⟨ok11, kx12, trivial⟩
        · have hc14 : ¬ 7 ≤ (L2).toInt := i_nle hc14 rfl rfl
          refine lv_iconst (v := 0) hx hb dX9_two_22 (by decide) ?_
          refine lv_istore (lv' := [(4, .int 0), (3, .int L2), (2, .int L3), (0, .ref (ad 64)), (1, .int k)]) hx hb dX9_two_23 hl (by decide) rfl (fun ls hl => ?_)
          have hloop19 : ∀ (d20 : Nat) (L16 : Int32) (L17 : Int32) (wL18 : Nat → va_E) (H : Heap) (locs : List Loc) (ls : Array Slot), 0 ≤ L16.toInt → L16.toInt ≤ 7 → OK cI cB cZ cO ad wL18 → KM w wL18 → 7 - L16.toInt < (d20 : Int) → St G 74 ad (wA 74 ad s.heap.size) s.heap wL18 H locs → lv_has ls 5 [(4, .int L16), (3, .int L2), (2, .int L17), (0, .ref (ad 64)), (1, .int k)] → W p l e { frames := 4, cells := 0, slots := 0, locals := 94 } s m [.ref (ad 64), .int k].toArray below meth c H locs 0 0 (MQ below (va_Qi (fun r w1 => OK cI cB cZ cO ad w1 ∧ KM w w1 ∧ True) (Aft G 74 ad) (wA 74 ad s.heap.size)) [.ref (ad 64), .int k].toArray s 0 0 (wA 74 ad s.heap.size)) (F0 m 25 ls []) := by
            intro d20
            induction d20 with
            | zero => intro L16 L17 wL18 H locs ls hi23 hi24 ok25 kx26 hm22 h hl; exfalso; omega
            | succ d20 ih21 =>
              intro L16 L17 wL18 H locs ls hi23 hi24 ok25 kx26 hm22 h hl
              refine lv_iload hx hb dX9_two_25 (lv_at hl 0 rfl) ?_
              refine lv_bipush (v := 7) hx hb dX9_two_27 (by decide) ?_
              refine lv_icmp_ge (tgt := 81) hx hb dX9_two_29 (by decide) (fun hc28 => ?_) (fun hc28 => ?_)
              · have hc28 : 7 ≤ (L16).toInt := i_le hc28 rfl rfl
                obtain ⟨z29, e30, t31⟩ := x_add (x := L2) (y := 1) (a := L2.toInt) (b := 1) rfl rfl (by omega) (by omega)
                refine lv_iinc (v := z29) (lv' := [(3, .int z29), (4, .int L16), (2, .int L17), (0, .ref (ad 64)), (1, .int k)]) hx hb dX9_two_81 hl (k := 1) rfl e30 (by decide) rfl (fun ls hl => ?_)
                refine lv_goto (tgt := 16) hx hb dX9_two_84 (by decide) ?_
                exact ih7  z29 L17 wL18 _ _ _ (by omega) (by omega) ok25 kx26 (by omega) h (lv_sub hl [0, 2, 3, 4] rfl)
              · have hc28 : ¬ 7 ≤ (L16).toInt := i_nle hc28 rfl rfl
                refine lv_aload_n hx hb dX9_two_32 rfl (lv_at hl 3 rfl) ?_
                refine lv_iload_n hx hb dX9_two_33 rfl (lv_at hl 1 rfl) ?_
                obtain ⟨x36, x37, t38, t39, t40, t41, t42, t43, f35, h44, h45⟩ := (show sM ad (wL18 64) from ok25 64 (by decide))
                have f46 : wL18 64 = .inr (7, [.ref (ad 65), .ref (ad 66), .ref (ad 67), .ref (ad 68), .long x36, .long x37, .ref (ad 69), .int t38, .ref (ad 70), .ref (ad 71), .int t39, .int t40, .int t41, .int t42, .int t43, .ref (ad 72), .ref (ad 73)]) := f35
                refine n_Vi (na := 1) (As := [.int L2]) (rest := []) X hD hN h rfl (c_M_mayName l G cI cB cZ cO ad wL18  ok25 L2  ) ⟨kv_523, kv_524, kv_525, kv_470, kv_526⟩ rfl ⟨by decide, by decide, by decide⟩ ⟨Nat.le_of_ble_eq_true rfl, Nat.le_of_ble_eq_true rfl⟩ ⟨Nat.zero_le _, Nat.zero_le _⟩ (by decide) f46 rfl rfl hl.1 rfl (Nat.le_of_ble_eq_true rfl) dX9_two_34 (fun r32 w33 H locs hp34 h => ?_)
                obtain ⟨rfl, hr47⟩ := hp34
                rcases hr47 with ⟨hq48, hq49, rfl⟩ | rfl
                · refine lv_if_eq (tgt := 75) hx hb dX9_two_37 (by decide) (fun hc => absurd hc (by decide)) (fun _ => ?_)
                  refine lv_aload_n hx hb dX9_two_40 rfl (lv_at hl 3 rfl) ?_
                  refine lv_iload hx hb dX9_two_41 (lv_at hl 0 rfl) ?_
                  refine n_Vi (na := 1) (As := [.int L16]) (rest := []) X hD hN h rfl (c_M_mayName l G cI cB cZ cO ad wL18  ok25 L16  ) ⟨kv_523, kv_524, kv_525, kv_470, kv_526⟩ rfl ⟨by decide, by decide, by decide⟩ ⟨Nat.le_of_ble_eq_true rfl, Nat.le_of_ble_eq_true rfl⟩ ⟨Nat.zero_le _, Nat.zero_le _⟩ (by decide) f46 rfl rfl hl.1 rfl (Nat.le_of_ble_eq_true rfl) dX9_two_43 (fun r50 w51 H locs hp52 h => ?_)
                  obtain ⟨rfl, hr53⟩ := hp52
                  rcases hr53 with ⟨hq54, hq55, rfl⟩ | rfl
                  · refine lv_if_eq (tgt := 75) hx hb dX9_two_46 (by decide) (fun hc => absurd hc (by decide)) (fun _ => ?_)
                    refine lv_aload_n hx hb dX9_two_49 rfl (lv_at hl 3 rfl) ?_
                    refine lv_iload_n hx hb dX9_two_50 rfl (lv_at hl 1 rfl) ?_
                    refine lv_iload hx hb dX9_two_51 (lv_at hl 0 rfl) ?_
                    refine n_Vi (na := 2) (As := [.int L2, .int L16]) (rest := []) X hD hN h rfl (c_M_rests l G cI cB cZ cO ad wL18  ok25 L2 L16 (by omega) (by omega) (by omega) (by omega) ) ⟨kv_601, kv_602, kv_603, kv_470, kv_604⟩ rfl ⟨by decide, by decide, by decide⟩ ⟨Nat.le_of_ble_eq_true rfl, Nat.le_of_ble_eq_true rfl⟩ ⟨Nat.zero_le _, Nat.zero_le _⟩ (by decide) f46 rfl rfl hl.1 rfl (Nat.le_of_ble_eq_true rfl) dX9_two_53 (fun r56 w57 H locs hp58 h => ?_)
                    obtain ⟨rfl, hr59⟩ := hp58
                    rcases hr59 with rfl | rfl
                    · refine lv_if_eq (tgt := 75) hx hb dX9_two_56 (by decide) (fun hc => absurd hc (by decide)) (fun _ => ?_)
                      refine lv_iload_n hx hb dX9_two_59 rfl (lv_at hl 2 rfl) ?_
                      refine lv_iload_n hx hb dX9_two_60 rfl (lv_at hl 4 rfl) ?_
                      refine lv_icmp_ne (tgt := 72) hx hb dX9_two_61 (by decide) (fun hc60 => ?_) (fun hc60 => ?_)
                      · have hc60 : ¬ (L17).toInt = (k).toInt := i_ne hc60 rfl rfl
                        obtain ⟨z61, e62⟩ : ∃ z : Int32, L17 + 1 = z := ⟨_, rfl⟩
                        refine lv_iinc (v := z61) (lv' := [(2, .int z61), (4, .int L16), (3, .int L2), (0, .ref (ad 64)), (1, .int k)]) hx hb dX9_two_72 hl (k := 2) rfl e62 (by decide) rfl (fun ls hl => ?_)
                        obtain ⟨z64, e65, t66⟩ := x_add (x := L16) (y := 1) (a := L16.toInt) (b := 1) rfl rfl (by omega) (by omega)
                        refine lv_iinc (v := z64) (lv' := [(4, .int z64), (2, .int z61), (3, .int L2), (0, .ref (ad 64)), (1, .int k)]) hx hb dX9_two_75 hl (k := 1) rfl e65 (by decide) rfl (fun ls hl => ?_)
                        refine lv_goto (tgt := 25) hx hb dX9_two_78 (by decide) ?_
                        exact ih21  z64 z61 wL18 _ _ _ (by omega) (by omega) ok25 kx26 (by omega) h (lv_sub hl [0, 2, 1, 3, 4] rfl)
                      · have hc60 : (L17).toInt = (k).toInt := i_eq hc60 rfl rfl
                        refine lv_bipush (v := 10) hx hb dX9_two_64 (by decide) ?_
                        refine lv_iload_n hx hb dX9_two_66 rfl (lv_at hl 1 rfl) ?_
                        obtain ⟨z69, e67, t68⟩ := x_mul (x := (10 : Int32)) (y := L2) (a := 10) (b := (L2).toInt) rfl rfl (by omega) (by omega)
                        refine o_imul (z := z69) hx hb dX9_two_67 e67 ?_
                        refine lv_iload hx hb dX9_two_68 (lv_at hl 0 rfl) ?_
                        obtain ⟨z72, e70, t71⟩ := x_add (x := z69) (y := L16) (a := (z69).toInt) (b := (L16).toInt) rfl rfl (by omega) (by omega)
                        refine o_iadd (z := z72) hx hb dX9_two_70 e70 ?_
                        exact e_i X h hr hlk dX9_two_71 ⟨ok25, kx26, trivial⟩
                    · refine lv_if_eq (tgt := 75) hx hb dX9_two_56 (by decide) (fun _ => ?_) (fun hc => absurd (by decide) hc)
                      obtain ⟨z73, e74, t75⟩ := x_add (x := L16) (y := 1) (a := L16.toInt) (b := 1) rfl rfl (by omega) (by omega)
                      refine lv_iinc (v := z73) (lv' := [(4, .int z73), (3, .int L2), (2, .int L17), (0, .ref (ad 64)), (1, .int k)]) hx hb dX9_two_75 hl (k := 0) rfl e74 (by decide) rfl (fun ls hl => ?_)
                      refine lv_goto (tgt := 25) hx hb dX9_two_78 (by decide) ?_
                      exact ih21  z73 L17 wL18 _ _ _ (by omega) (by omega) ok25 kx26 (by omega) h (lv_sub hl [0, 1, 2, 3, 4] rfl)
                  · refine lv_if_eq (tgt := 75) hx hb dX9_two_46 (by decide) (fun _ => ?_) (fun hc => absurd (by decide) hc)
                    obtain ⟨z76, e77, t78⟩ := x_add (x := L16) (y := 1) (a := L16.toInt) (b := 1) rfl rfl (by omega) (by omega)
                    refine lv_iinc (v := z76) (lv' := [(4, .int z76), (3, .int L2), (2, .int L17), (0, .ref (ad 64)), (1, .int k)]) hx hb dX9_two_75 hl (k := 0) rfl e77 (by decide) rfl (fun ls hl => ?_)
                    refine lv_goto (tgt := 25) hx hb dX9_two_78 (by decide) ?_
                    exact ih21  z76 L17 wL18 _ _ _ (by omega) (by omega) ok25 kx26 (by omega) h (lv_sub hl [0, 1, 2, 3, 4] rfl)
                · refine lv_if_eq (tgt := 75) hx hb dX9_two_37 (by decide) (fun _ => ?_) (fun hc => absurd (by decide) hc)
                  obtain ⟨z79, e80, t81⟩ := x_add (x := L16) (y := 1) (a := L16.toInt) (b := 1) rfl rfl (by omega) (by omega)
                  refine lv_iinc (v := z79) (lv' := [(4, .int z79), (3, .int L2), (2, .int L17), (0, .ref (ad 64)), (1, .int k)]) hx hb dX9_two_75 hl (k := 0) rfl e80 (by decide) rfl (fun ls hl => ?_)
                  refine lv_goto (tgt := 25) hx hb dX9_two_78 (by decide) ?_
                  exact ih21  z79 L17 wL18 _ _ _ (by omega) (by omega) ok25 kx26 (by omega) h (lv_sub hl [0, 1, 2, 3, 4] rfl)
          exact hloop19 8 (0 : Int32) L3 wL4 _ _ _ (by have q0 : (0 : Int32).toInt = 0 := rfl; omega) (by have q0 : (0 : Int32).toInt = 0 := rfl; omega) ok11 kx12 (by have q0 : (0 : Int32).toInt = 0 := rfl; omega) h (lv_sub hl [0, 1, 2, 3, 4] rfl)
    exact hloop5 8 (0 : Int32) (0 : Int32) w _ _ _ (by have q0 : (0 : Int32).toInt = 0 := rfl; omega) (by have q0 : (0 : Int32).toInt = 0 := rfl; omega) ok KM.rf (by have q0 : (0 : Int32).toInt = 0 := rfl; omega) h (lv_sub hl [0, 1, 2, 3] rfl)
  · have hc1 : ¬ (-1) ≤ (k).toInt := i_nle hc1 rfl rfl
    refine lv_aload_n hx hb dX9_two_5 rfl (lv_at hl 0 rfl) ?_
    refine lv_bipush (v := (-10)) hx hb dX9_two_6 (by decide) ?_
    obtain ⟨x86, x87, t88, t89, t90, t91, t92, t93, f85, h94, h95⟩ := (show sM ad (w 64) from ok 64 (by decide))
    have f96 : w 64 = .inr (7, [.ref (ad 65), .ref (ad 66), .ref (ad 67), .ref (ad 68), .long x86, .long x87, .ref (ad 69), .int t88, .ref (ad 70), .ref (ad 71), .int t89, .int t90, .int t91, .int t92, .int t93, .ref (ad 72), .ref (ad 73)]) := f85
    refine n_Vi (na := 1) (As := [.int (-10)]) (rest := []) X hD hN h rfl (c_M_bad l G cI cB cZ cO ad w  ok ((-10) : Int32)  ) ⟨kv_553, kv_554, kv_555, kv_470, kv_556⟩ rfl ⟨by decide, by decide, by decide⟩ ⟨Nat.le_of_ble_eq_true rfl, Nat.le_of_ble_eq_true rfl⟩ ⟨Nat.zero_le _, Nat.zero_le _⟩ (by decide) f96 rfl rfl hl.1 rfl (Nat.le_of_ble_eq_true rfl) dX9_two_8 (fun r82 w83 H locs hp84 h => ?_)
    obtain ⟨ok98, kk99, hr97⟩ := hp84
    have kx100 : KM w w83 := kk99
    subst hr97
    exact e_i X h hr hlk dX9_two_11 ⟨ok98, kx100, trivial⟩

set_option maxHeartbeats 4000000 in
set_option maxRecDepth 100000 in
theorem c_M_noons_ (l : Launch) (G : va_G) (cI cB cZ cO : ClassId) (ad : Nat → Nat) (w : Nat → va_E)  (ok : OK cI cB cZ cO ad w) (x : Int32) (n : Int32)   : NI l G (tyq cI cB cZ cO) yX9_noons cX9_noons 9 (some .int) 3 69 74 ad w [.ref (ad 64), .int x, .int n] (fun r w1 => OK cI cB cZ cO ad w1 ∧ KM w w1 ∧ True) := by
  refine nk_i (own := "NoonShadeModel") rfl (by decide) (Nat.le_of_ble_eq_true rfl) ?_
  intro p e s m below meth c ls X hD hN hr hlk h hl
  have hx := X.1.1
  have hb := X.1.2.1
  have hown := X.1.2.2.2.1
  have hts := X.1.2.2.2.2
  have hl : lv_has ls 9 [(0, .ref (ad 64)), (1, .int x), (2, .int n)] := hl
  refine lv_iload_n hx hb dX9_noons_0 rfl (lv_at hl 1 rfl) ?_
  obtain ⟨z1, e2⟩ : ∃ z : Int64, x.toInt64 = z := ⟨_, rfl⟩
  have tz1 : z1.toInt = (x).toInt := by rw [← e2]; exact Int32.toInt_toInt64 _
  refine lv_i2l (v := z1) hx hb dX9_noons_1 e2 ?_
  refine lv_lconst (v := 0) hx hb dX9_noons_2 (by decide) ?_
  refine lv_ldc2 (v := 999999) hx hb hown (hts _ kv_613) dX9_noons_3 ?_
  refine n_Si (na := 3) (As := [.long z1, .long 0, .long 999999]) (rest := []) X hD hN h (c_M_in l G cI cB cZ cO ad w z1 (0 : Int64) (999999 : Int64) ((x).toInt) 0 999999 tz1 rfl rfl) ⟨kv_468, kv_469, kv_470, kv_471⟩ ⟨by decide, by decide, by decide⟩ ⟨Nat.le_of_ble_eq_true rfl, Nat.le_of_ble_eq_true rfl⟩ ⟨Nat.zero_le _, Nat.zero_le _⟩ rfl hl.1 rfl (Nat.le_of_ble_eq_true rfl) dX9_noons_6 (fun r3 w4 H locs hp5 h => ?_)
  obtain ⟨rfl, hq6⟩ := hp5
  rcases hq6 with ⟨hq7, hq8, rfl⟩ | ⟨hq6, rfl⟩
  · refine lv_if_eq (tgt := 24) hx hb dX9_noons_9 (by decide) (fun hc => absurd hc (by decide)) (fun _ => ?_)
    refine lv_iload_n hx hb dX9_noons_12 rfl (lv_at hl 2 rfl) ?_
    obtain ⟨z9, e10⟩ : ∃ z : Int64, n.toInt64 = z := ⟨_, rfl⟩
    have tz9 : z9.toInt = (n).toInt := by rw [← e10]; exact Int32.toInt_toInt64 _
    refine lv_i2l (v := z9) hx hb dX9_noons_13 e10 ?_
    refine lv_lconst (v := 0) hx hb dX9_noons_14 (by decide) ?_
    refine lv_ldc2 (v := 60) hx hb hown (hts _ kv_476) dX9_noons_15 ?_
    refine n_Si (na := 3) (As := [.long z9, .long 0, .long 60]) (rest := []) X hD hN h (c_M_in l G cI cB cZ cO ad w z9 (0 : Int64) (60 : Int64) ((n).toInt) 0 60 tz9 rfl rfl) ⟨kv_468, kv_469, kv_470, kv_471⟩ ⟨by decide, by decide, by decide⟩ ⟨Nat.le_of_ble_eq_true rfl, Nat.le_of_ble_eq_true rfl⟩ ⟨Nat.zero_le _, Nat.zero_le _⟩ rfl hl.1 rfl (Nat.le_of_ble_eq_true rfl) dX9_noons_18 (fun r11 w12 H locs hp13 h => ?_)
    obtain ⟨rfl, hq14⟩ := hp13
    rcases hq14 with ⟨hq15, hq16, rfl⟩ | ⟨hq14, rfl⟩
    · refine lv_if_ne (tgt := 31) hx hb dX9_noons_21 (by decide) (fun _ => ?_) (fun hc => absurd hc (by decide))
      refine lv_iload_n hx hb dX9_noons_31 rfl (lv_at hl 1 rfl) ?_
      obtain ⟨z17, e18⟩ : ∃ z : Int64, x.toInt64 = z := ⟨_, rfl⟩
      have tz17 : z17.toInt = (x).toInt := by rw [← e18]; exact Int32.toInt_toInt64 _
      refine lv_i2l (v := z17) hx hb dX9_noons_32 e18 ?_
      refine lv_lstore_n (lv' := [(3, .long z17), (0, .ref (ad 64)), (1, .int x), (2, .int n)]) hx hb dX9_noons_33 rfl hl (by decide) rfl (fun ls hl => ?_)
      refine lv_aload_n hx hb dX9_noons_34 rfl (lv_at hl 1 rfl) ?_
      obtain ⟨x23, x24, t25, t26, t27, t28, t29, t30, f22, h31, h32⟩ := (show sM ad (w 64) from ok 64 (by decide))
      have f33 : w 64 = .inr (7, [.ref (ad 65), .ref (ad 66), .ref (ad 67), .ref (ad 68), .long x23, .long x24, .ref (ad 69), .int t25, .ref (ad 70), .ref (ad 71), .int t26, .int t27, .int t28, .int t29, .int t30, .ref (ad 72), .ref (ad 73)]) := f22
      refine n_Vv (na := 0) (As := []) (rest := []) X hD hN h rfl (c_M_layHand l G cI cB cZ cO ad w  ok   ) ⟨kv_503, kv_504, kv_505, kv_470, kv_506⟩ rfl ⟨by decide, by decide, by decide⟩ ⟨Nat.le_of_ble_eq_true rfl, Nat.le_of_ble_eq_true rfl⟩ ⟨Nat.zero_le _, Nat.zero_le _⟩ (by decide) f33 rfl rfl hl.1 rfl (Nat.le_of_ble_eq_true rfl) dX9_noons_35 (fun w20 H locs hp21 h => ?_)
      obtain ⟨ok35, kk36, hr34⟩ := hp21
      have kx37 : KM w w20 := kk36
      refine lv_iconst (v := 0) hx hb dX9_noons_38 (by decide) ?_
      refine lv_istore (lv' := [(5, .int 0), (3, .long z17), (0, .ref (ad 64)), (1, .int x), (2, .int n)]) hx hb dX9_noons_39 hl (by decide) rfl (fun ls hl => ?_)
      have hloop41 : ∀ (d42 : Nat) (L38 : Int32) (L39 : Int64) (wL40 : Nat → va_E) (H : Heap) (locs : List Loc) (ls : Array Slot), 0 ≤ L38.toInt → L38.toInt ≤ 60 → OK cI cB cZ cO ad wL40 → KM w wL40 → 60 - L38.toInt < (d42 : Int) → St G 74 ad (wA 74 ad s.heap.size) s.heap wL40 H locs → lv_has ls 9 [(5, .int L38), (3, .long L39), (0, .ref (ad 64)), (1, .int x), (2, .int n)] → W p l e { frames := 3, cells := 0, slots := 0, locals := 69 } s m [.ref (ad 64), .int x, .int n].toArray below meth c H locs 0 0 (MQ below (va_Qi (fun r w1 => OK cI cB cZ cO ad w1 ∧ KM w w1 ∧ True) (Aft G 74 ad) (wA 74 ad s.heap.size)) [.ref (ad 64), .int x, .int n].toArray s 0 0 (wA 74 ad s.heap.size)) (F0 m 41 ls []) := by
        intro d42
        induction d42 with
        | zero => intro L38 L39 wL40 H locs ls hi45 hi46 ok47 kx48 hm44 h hl; exfalso; omega
        | succ d42 ih43 =>
          intro L38 L39 wL40 H locs ls hi45 hi46 ok47 kx48 hm44 h hl
          refine lv_iload hx hb dX9_noons_41 (lv_at hl 0 rfl) ?_
          refine lv_iload_n hx hb dX9_noons_43 rfl (lv_at hl 4 rfl) ?_
          refine lv_icmp_ge (tgt := 158) hx hb dX9_noons_44 (by decide) (fun hc50 => ?_) (fun hc50 => ?_)
          · have hc50 : (n).toInt ≤ (L38).toInt := i_le hc50 rfl rfl
            refine lv_aload_n hx hb dX9_noons_158 rfl (lv_at hl 2 rfl) ?_
            obtain ⟨x52, x53, t54, t55, t56, t57, t58, t59, f51, h60, h61⟩ := (show sM ad (wL40 64) from ok47 64 (by decide))
            have f62 : wL40 64 = .inr (7, [.ref (ad 65), .ref (ad 66), .ref (ad 67), .ref (ad 68), .long x52, .long x53, .ref (ad 69), .int t54, .ref (ad 70), .ref (ad 71), .int t55, .int t56, .int t57, .int t58, .int t59, .ref (ad 72), .ref (ad 73)]) := f51
            refine r_get kc9 X h 64 6 (by decide) rfl f62 (by decide) kv_495 rfl dX9_noons_159 ?_
            refine n_Si (na := 1) (As := [.ref (ad 69)]) (rest := []) X hD hN h (c_M_coolOf l G cI cB cZ cO ad wL40 69 (Or.inr (Or.inl rfl)) ok47   ) ⟨kv_533, kv_534, kv_470, kv_535⟩ ⟨by decide, by decide, by decide⟩ ⟨Nat.le_of_ble_eq_true rfl, Nat.le_of_ble_eq_true rfl⟩ ⟨Nat.zero_le _, Nat.zero_le _⟩ rfl hl.1 rfl (Nat.le_of_ble_eq_true rfl) dX9_noons_162 (fun r63 w64 H locs hp65 h => ?_)
            obtain ⟨rfl, hr66⟩ := hp65
            exact e_i X h hr hlk dX9_noons_165 ⟨ok47, kx48, trivial⟩
          · have hc50 : ¬ (n).toInt ≤ (L38).toInt := i_nle hc50 rfl rfl
            refine lv_lload_n hx hb dX9_noons_47 rfl (lv_at hl 1 rfl) ?_
            refine lv_ldc2 (v := 1103515245) hx hb hown (hts _ kv_614) dX9_noons_48 ?_
            obtain ⟨z68, e67⟩ : ∃ z : Int64, L39 * (1103515245 : Int64) = z := ⟨_, rfl⟩
            refine o_lmul (z := z68) hx hb dX9_noons_51 e67 ?_
            refine lv_ldc2 (v := 12345) hx hb hown (hts _ kv_615) dX9_noons_52 ?_
            obtain ⟨z70, e69⟩ : ∃ z : Int64, z68 + (12345 : Int64) = z := ⟨_, rfl⟩
            refine o_ladd (z := z70) hx hb dX9_noons_55 e69 ?_
            refine lv_ldc2 (v := 2147483648) hx hb hown (hts _ kv_616) dX9_noons_56 ?_
            obtain ⟨z72, e71⟩ : ∃ z : Int64, z70 - z70 / (2147483648 : Int64) * (2147483648 : Int64) = z := ⟨_, rfl⟩
            refine o_lrem (z := z72) hx hb dX9_noons_59 (by decide) e71 ?_
            refine lv_lstore_n (lv' := [(3, .long z72), (5, .int L38), (0, .ref (ad 64)), (1, .int x), (2, .int n)]) hx hb dX9_noons_60 rfl hl (by decide) rfl (fun ls hl => ?_)
            refine lv_lload_n hx hb dX9_noons_61 rfl (lv_at hl 0 rfl) ?_
            refine lv_ldc2 (v := 65536) hx hb hown (hts _ kv_617) dX9_noons_62 ?_
            obtain ⟨z74, e73⟩ : ∃ z : Int64, z72 / (65536 : Int64) = z := ⟨_, rfl⟩
            refine o_ldiv (z := z74) hx hb dX9_noons_65 (by decide) e73 ?_
            refine lv_ldc2 (v := 7) hx hb hown (hts _ kv_618) dX9_noons_66 ?_
            obtain ⟨z76, e75⟩ : ∃ z : Int64, z74 - z74 / (7 : Int64) * (7 : Int64) = z := ⟨_, rfl⟩
            refine o_lrem (z := z76) hx hb dX9_noons_69 (by decide) e75 ?_
            obtain ⟨z77, e78⟩ : ∃ z : Int32, z76.toInt32 = z := ⟨_, rfl⟩
            refine lv_l2i (v := z77) hx hb dX9_noons_70 e78 ?_
            refine lv_istore (lv' := [(6, .int z77), (3, .long z72), (5, .int L38), (0, .ref (ad 64)), (1, .int x), (2, .int n)]) hx hb dX9_noons_71 hl (by decide) rfl (fun ls hl => ?_)
            refine lv_lload_n hx hb dX9_noons_73 rfl (lv_at hl 1 rfl) ?_
            refine lv_ldc2 (v := 1048576) hx hb hown (hts _ kv_619) dX9_noons_74 ?_
            obtain ⟨z80, e79⟩ : ∃ z : Int64, z72 / (1048576 : Int64) = z := ⟨_, rfl⟩
            refine o_ldiv (z := z80) hx hb dX9_noons_77 (by decide) e79 ?_
            refine lv_ldc2 (v := 4) hx hb hown (hts _ kv_563) dX9_noons_78 ?_
            obtain ⟨z82, e81⟩ : ∃ z : Int64, z80 - z80 / (4 : Int64) * (4 : Int64) = z := ⟨_, rfl⟩
            refine o_lrem (z := z82) hx hb dX9_noons_81 (by decide) e81 ?_
            obtain ⟨z83, e84⟩ : ∃ z : Int32, z82.toInt32 = z := ⟨_, rfl⟩
            refine lv_l2i (v := z83) hx hb dX9_noons_82 e84 ?_
            refine lv_istore (lv' := [(7, .int z83), (6, .int z77), (3, .long z72), (5, .int L38), (0, .ref (ad 64)), (1, .int x), (2, .int n)]) hx hb dX9_noons_83 hl (by decide) rfl (fun ls hl => ?_)
            refine lv_aload_n hx hb dX9_noons_85 rfl (lv_at hl 4 rfl) ?_
            refine lv_iload hx hb dX9_noons_86 (lv_at hl 1 rfl) ?_
            obtain ⟨x89, x90, t91, t92, t93, t94, t95, t96, f88, h97, h98⟩ := (show sM ad (wL40 64) from ok47 64 (by decide))
            have f99 : wL40 64 = .inr (7, [.ref (ad 65), .ref (ad 66), .ref (ad 67), .ref (ad 68), .long x89, .long x90, .ref (ad 69), .int t91, .ref (ad 70), .ref (ad 71), .int t92, .int t93, .int t94, .int t95, .int t96, .ref (ad 72), .ref (ad 73)]) := f88
            refine n_Vi (na := 1) (As := [.int z77]) (rest := []) X hD hN h rfl (c_M_isCaster l G cI cB cZ cO ad wL40  ok47 z77  ) ⟨kv_519, kv_520, kv_521, kv_470, kv_522⟩ rfl ⟨by decide, by decide, by decide⟩ ⟨Nat.le_of_ble_eq_true rfl, Nat.le_of_ble_eq_true rfl⟩ ⟨Nat.zero_le _, Nat.zero_le _⟩ (by decide) f99 rfl rfl hl.1 rfl (Nat.le_of_ble_eq_true rfl) dX9_noons_88 (fun r85 w86 H locs hp87 h => ?_)
            obtain ⟨rfl, hr100⟩ := hp87
            rcases hr100 with ⟨hq101, hq102, rfl⟩ | rfl
            · refine lv_if_eq (tgt := 131) hx hb dX9_noons_91 (by decide) (fun hc => absurd hc (by decide)) (fun _ => ?_)
              refine lv_aload_n hx hb dX9_noons_94 rfl (lv_at hl 4 rfl) ?_
              refine lv_iload hx hb dX9_noons_95 (lv_at hl 0 rfl) ?_
              refine n_Vi (na := 1) (As := [.int z83]) (rest := []) X hD hN h rfl (c_M_isJar l G cI cB cZ cO ad wL40  ok47 z83  ) ⟨kv_541, kv_542, kv_543, kv_470, kv_544⟩ rfl ⟨by decide, by decide, by decide⟩ ⟨Nat.le_of_ble_eq_true rfl, Nat.le_of_ble_eq_true rfl⟩ ⟨Nat.zero_le _, Nat.zero_le _⟩ (by decide) f99 rfl rfl hl.1 rfl (Nat.le_of_ble_eq_true rfl) dX9_noons_97 (fun r103 w104 H locs hp105 h => ?_)
              obtain ⟨rfl, hr106⟩ := hp105
              rcases hr106 with ⟨hq107, hq108, rfl⟩ | rfl
              · refine lv_if_eq (tgt := 131) hx hb dX9_noons_100 (by decide) (fun hc => absurd hc (by decide)) (fun _ => ?_)
                refine lv_aload_n hx hb dX9_noons_103 rfl (lv_at hl 4 rfl) ?_
                refine r_get kc9 X h 64 6 (by decide) rfl f99 (by decide) kv_495 rfl dX9_noons_104 ?_
                refine lv_bipush (v := 7) hx hb dX9_noons_107 (by decide) ?_
                obtain ⟨g110, f109, p111⟩ := (show sA cI 41 (alA) (wL40 69) from ok47 69 (by decide))
                have f112 : wL40 69 = .inl (cI, 41, .inl g110) := f109
                obtain ⟨v113, e114⟩ : ∃ z : Int32, g110 7 = z := ⟨_, rfl⟩
                refine o_iald (v := v113) X h 69 0 (by decide) rfl f112 rfl (by unfold vp_in; decide) e114 dX9_noons_109 ?_
                refine lv_iload hx hb dX9_noons_110 (lv_at hl 1 rfl) ?_
                refine n_Si (na := 2) (As := [.int v113, .int z77]) (rest := []) X hD hN h (c_M_has l G cI cB cZ cO ad wL40   v113 z77  ) ⟨kv_496, kv_497, kv_470, kv_498⟩ ⟨by decide, by decide, by decide⟩ ⟨Nat.le_of_ble_eq_true rfl, Nat.le_of_ble_eq_true rfl⟩ ⟨Nat.zero_le _, Nat.zero_le _⟩ rfl hl.1 rfl (Nat.le_of_ble_eq_true rfl) dX9_noons_112 (fun r116 w117 H locs hp118 h => ?_)
                obtain ⟨rfl, hr119⟩ := hp118
                rcases hr119 with rfl | rfl
                · refine lv_if_ne (tgt := 131) hx hb dX9_noons_115 (by decide) (fun _ => ?_) (fun hc => absurd hc (by decide))
                  refine lv_lload_n hx hb dX9_noons_131 rfl (lv_at hl 2 rfl) ?_
                  refine lv_ldc2 (v := 16384) hx hb hown (hts _ kv_620) dX9_noons_132 ?_
                  obtain ⟨z121, e120⟩ : ∃ z : Int64, z72 / (16384 : Int64) = z := ⟨_, rfl⟩
                  refine o_ldiv (z := z121) hx hb dX9_noons_135 (by decide) e120 ?_
                  refine lv_ldc2 (v := 2) hx hb hown (hts _ kv_621) dX9_noons_136 ?_
                  obtain ⟨z123, e122⟩ : ∃ z : Int64, z121 - z121 / (2 : Int64) * (2 : Int64) = z := ⟨_, rfl⟩
                  refine o_lrem (z := z123) hx hb dX9_noons_139 (by decide) e122 ?_
                  refine lv_lconst (v := 0) hx hb dX9_noons_140 (by decide) ?_
                  refine W.lcmp hx hb dX9_noons_141 ?_
                  refine lv_if_ne (tgt := 152) hx hb dX9_noons_142 (by decide) (fun hc124 => ?_) (fun hc124 => ?_)
                  · have hc124 : ¬ (z123).toInt = 0 := lcm_ne hc124 rfl rfl
                    obtain ⟨z125, e126, t127⟩ := x_add (x := L38) (y := 1) (a := L38.toInt) (b := 1) rfl rfl (by omega) (by omega)
                    refine lv_iinc (v := z125) (lv' := [(5, .int z125), (7, .int z83), (6, .int z77), (3, .long z72), (0, .ref (ad 64)), (1, .int x), (2, .int n)]) hx hb dX9_noons_152 hl (k := 3) rfl e126 (by decide) rfl (fun ls hl => ?_)
                    refine lv_goto (tgt := 41) hx hb dX9_noons_155 (by decide) ?_
                    exact ih43  z125 z72 wL40 _ _ _ (by omega) (by omega) ok47 kx48 (by omega) h (lv_sub hl [0, 3, 4, 5, 6] rfl)
                  · have hc124 : (z123).toInt = 0 := lcm_eq hc124 rfl rfl
                    refine lv_aload_n hx hb dX9_noons_145 rfl (lv_at hl 4 rfl) ?_
                    refine r_get kc9 X h 64 6 (by decide) rfl f99 (by decide) kv_495 rfl dX9_noons_146 ?_
                    refine n_Sv (na := 1) (As := [.ref (ad 69)]) (rest := []) X hD hN h (c_M_goHour l G cI cB cZ cO ad wL40 69 (Or.inr (Or.inl rfl)) ok47   ) ⟨kv_492, kv_493, kv_470, kv_494⟩ ⟨by decide, by decide, by decide⟩ ⟨Nat.le_of_ble_eq_true rfl, Nat.le_of_ble_eq_true rfl⟩ ⟨Nat.zero_le _, Nat.zero_le _⟩ rfl hl.1 rfl (Nat.le_of_ble_eq_true rfl) dX9_noons_149 (fun w129 H locs hp130 h => ?_)
                    obtain ⟨ok132, kk133, hr131⟩ := hp130
                    have kx134 : KM w w129 := KM.tr kx48 kk133.1
                    obtain ⟨z135, e136, t137⟩ := x_add (x := L38) (y := 1) (a := L38.toInt) (b := 1) rfl rfl (by omega) (by omega)
                    refine lv_iinc (v := z135) (lv' := [(5, .int z135), (7, .int z83), (6, .int z77), (3, .long z72), (0, .ref (ad 64)), (1, .int x), (2, .int n)]) hx hb dX9_noons_152 hl (k := 3) rfl e136 (by decide) rfl (fun ls hl => ?_)
                    refine lv_goto (tgt := 41) hx hb dX9_noons_155 (by decide) ?_
                    exact ih43  z135 z72 w129 _ _ _ (by omega) (by omega) ok132 kx134 (by omega) h (lv_sub hl [0, 3, 4, 5, 6] rfl)
                · refine lv_if_ne (tgt := 131) hx hb dX9_noons_115 (by decide) (fun hc => absurd (by decide) hc) (fun _ => ?_)
                  refine lv_aload_n hx hb dX9_noons_118 rfl (lv_at hl 4 rfl) ?_
                  refine r_get kc9 X h 64 6 (by decide) rfl f99 (by decide) kv_495 rfl dX9_noons_119 ?_
                  refine lv_iload hx hb dX9_noons_122 (lv_at hl 1 rfl) ?_
                  refine lv_iload hx hb dX9_noons_124 (lv_at hl 0 rfl) ?_
                  refine n_Si (na := 3) (As := [.ref (ad 69), .int z77, .int z83]) (rest := []) X hD hN h (c_M_goLadle l G cI cB cZ cO ad wL40 69 (Or.inr (Or.inl rfl)) ok47 z77 z83 (by omega) (by omega) (by omega) (by omega) ) ⟨kv_511, kv_512, kv_470, kv_513⟩ ⟨by decide, by decide, by decide⟩ ⟨Nat.le_of_ble_eq_true rfl, Nat.le_of_ble_eq_true rfl⟩ ⟨Nat.zero_le _, Nat.zero_le _⟩ rfl hl.1 rfl (Nat.le_of_ble_eq_true rfl) dX9_noons_126 (fun r138 w139 H locs hp140 h => ?_)
                  obtain ⟨ok142, kk143, hr141⟩ := hp140
                  have kx144 : KM w w139 := KM.tr kx48 kk143.1
                  refine lv_istore (lv' := [(8, .int r138), (7, .int z83), (6, .int z77), (3, .long z72), (5, .int L38), (0, .ref (ad 64)), (1, .int x), (2, .int n)]) hx hb dX9_noons_129 hl (by decide) rfl (fun ls hl => ?_)
                  refine lv_lload_n hx hb dX9_noons_131 rfl (lv_at hl 3 rfl) ?_
                  refine lv_ldc2 (v := 16384) hx hb hown (hts _ kv_620) dX9_noons_132 ?_
                  obtain ⟨z146, e145⟩ : ∃ z : Int64, z72 / (16384 : Int64) = z := ⟨_, rfl⟩
                  refine o_ldiv (z := z146) hx hb dX9_noons_135 (by decide) e145 ?_
                  refine lv_ldc2 (v := 2) hx hb hown (hts _ kv_621) dX9_noons_136 ?_
                  obtain ⟨z148, e147⟩ : ∃ z : Int64, z146 - z146 / (2 : Int64) * (2 : Int64) = z := ⟨_, rfl⟩
                  refine o_lrem (z := z148) hx hb dX9_noons_139 (by decide) e147 ?_
                  refine lv_lconst (v := 0) hx hb dX9_noons_140 (by decide) ?_
                  refine W.lcmp hx hb dX9_noons_141 ?_
                  refine lv_if_ne (tgt := 152) hx hb dX9_noons_142 (by decide) (fun hc149 => ?_) (fun hc149 => ?_)
                  · have hc149 : ¬ (z148).toInt = 0 := lcm_ne hc149 rfl rfl
                    obtain ⟨z150, e151, t152⟩ := x_add (x := L38) (y := 1) (a := L38.toInt) (b := 1) rfl rfl (by omega) (by omega)
                    refine lv_iinc (v := z150) (lv' := [(5, .int z150), (8, .int r138), (7, .int z83), (6, .int z77), (3, .long z72), (0, .ref (ad 64)), (1, .int x), (2, .int n)]) hx hb dX9_noons_152 hl (k := 4) rfl e151 (by decide) rfl (fun ls hl => ?_)
                    refine lv_goto (tgt := 41) hx hb dX9_noons_155 (by decide) ?_
                    exact ih43  z150 z72 w139 _ _ _ (by omega) (by omega) ok142 kx144 (by omega) h (lv_sub hl [0, 4, 5, 6, 7] rfl)
                  · have hc149 : (z148).toInt = 0 := lcm_eq hc149 rfl rfl
                    refine lv_aload_n hx hb dX9_noons_145 rfl (lv_at hl 5 rfl) ?_
                    have f153 : w139 64 = .inr (7, [.ref (ad 65), .ref (ad 66), .ref (ad 67), .ref (ad 68), .long x89, .long x90, .ref (ad 69), .int t91, .ref (ad 70), .ref (ad 71), .int t92, .int t93, .int t94, .int t95, .int t96, .ref (ad 72), .ref (ad 73)]) := (kk143.2 64 (by decide)).trans f99
                    refine r_get kc9 X h 64 6 (by decide) rfl f153 (by decide) kv_495 rfl dX9_noons_146 ?_
                    refine n_Sv (na := 1) (As := [.ref (ad 69)]) (rest := []) X hD hN h (c_M_goHour l G cI cB cZ cO ad w139 69 (Or.inr (Or.inl rfl)) ok142   ) ⟨kv_492, kv_493, kv_470, kv_494⟩ ⟨by decide, by decide, by decide⟩ ⟨Nat.le_of_ble_eq_true rfl, Nat.le_of_ble_eq_true rfl⟩ ⟨Nat.zero_le _, Nat.zero_le _⟩ rfl hl.1 rfl (Nat.le_of_ble_eq_true rfl) dX9_noons_149 (fun w155 H locs hp156 h => ?_)
                    obtain ⟨ok158, kk159, hr157⟩ := hp156
                    have kx160 : KM w w155 := KM.tr kx144 kk159.1
                    obtain ⟨z161, e162, t163⟩ := x_add (x := L38) (y := 1) (a := L38.toInt) (b := 1) rfl rfl (by omega) (by omega)
                    refine lv_iinc (v := z161) (lv' := [(5, .int z161), (8, .int r138), (7, .int z83), (6, .int z77), (3, .long z72), (0, .ref (ad 64)), (1, .int x), (2, .int n)]) hx hb dX9_noons_152 hl (k := 4) rfl e162 (by decide) rfl (fun ls hl => ?_)
                    refine lv_goto (tgt := 41) hx hb dX9_noons_155 (by decide) ?_
                    exact ih43  z161 z72 w155 _ _ _ (by omega) (by omega) ok158 kx160 (by omega) h (lv_sub hl [0, 4, 5, 6, 7] rfl)
              · refine lv_if_eq (tgt := 131) hx hb dX9_noons_100 (by decide) (fun _ => ?_) (fun hc => absurd (by decide) hc)
                refine lv_lload_n hx hb dX9_noons_131 rfl (lv_at hl 2 rfl) ?_
                refine lv_ldc2 (v := 16384) hx hb hown (hts _ kv_620) dX9_noons_132 ?_
                obtain ⟨z165, e164⟩ : ∃ z : Int64, z72 / (16384 : Int64) = z := ⟨_, rfl⟩
                refine o_ldiv (z := z165) hx hb dX9_noons_135 (by decide) e164 ?_
                refine lv_ldc2 (v := 2) hx hb hown (hts _ kv_621) dX9_noons_136 ?_
                obtain ⟨z167, e166⟩ : ∃ z : Int64, z165 - z165 / (2 : Int64) * (2 : Int64) = z := ⟨_, rfl⟩
                refine o_lrem (z := z167) hx hb dX9_noons_139 (by decide) e166 ?_
                refine lv_lconst (v := 0) hx hb dX9_noons_140 (by decide) ?_
                refine W.lcmp hx hb dX9_noons_141 ?_
                refine lv_if_ne (tgt := 152) hx hb dX9_noons_142 (by decide) (fun hc168 => ?_) (fun hc168 => ?_)
                · have hc168 : ¬ (z167).toInt = 0 := lcm_ne hc168 rfl rfl
                  obtain ⟨z169, e170, t171⟩ := x_add (x := L38) (y := 1) (a := L38.toInt) (b := 1) rfl rfl (by omega) (by omega)
                  refine lv_iinc (v := z169) (lv' := [(5, .int z169), (7, .int z83), (6, .int z77), (3, .long z72), (0, .ref (ad 64)), (1, .int x), (2, .int n)]) hx hb dX9_noons_152 hl (k := 3) rfl e170 (by decide) rfl (fun ls hl => ?_)
                  refine lv_goto (tgt := 41) hx hb dX9_noons_155 (by decide) ?_
                  exact ih43  z169 z72 wL40 _ _ _ (by omega) (by omega) ok47 kx48 (by omega) h (lv_sub hl [0, 3, 4, 5, 6] rfl)
                · have hc168 : (z167).toInt = 0 := lcm_eq hc168 rfl rfl
                  refine lv_aload_n hx hb dX9_noons_145 rfl (lv_at hl 4 rfl) ?_
                  refine r_get kc9 X h 64 6 (by decide) rfl f99 (by decide) kv_495 rfl dX9_noons_146 ?_
                  refine n_Sv (na := 1) (As := [.ref (ad 69)]) (rest := []) X hD hN h (c_M_goHour l G cI cB cZ cO ad wL40 69 (Or.inr (Or.inl rfl)) ok47   ) ⟨kv_492, kv_493, kv_470, kv_494⟩ ⟨by decide, by decide, by decide⟩ ⟨Nat.le_of_ble_eq_true rfl, Nat.le_of_ble_eq_true rfl⟩ ⟨Nat.zero_le _, Nat.zero_le _⟩ rfl hl.1 rfl (Nat.le_of_ble_eq_true rfl) dX9_noons_149 (fun w173 H locs hp174 h => ?_)
                  obtain ⟨ok176, kk177, hr175⟩ := hp174
                  have kx178 : KM w w173 := KM.tr kx48 kk177.1
                  obtain ⟨z179, e180, t181⟩ := x_add (x := L38) (y := 1) (a := L38.toInt) (b := 1) rfl rfl (by omega) (by omega)
                  refine lv_iinc (v := z179) (lv' := [(5, .int z179), (7, .int z83), (6, .int z77), (3, .long z72), (0, .ref (ad 64)), (1, .int x), (2, .int n)]) hx hb dX9_noons_152 hl (k := 3) rfl e180 (by decide) rfl (fun ls hl => ?_)
                  refine lv_goto (tgt := 41) hx hb dX9_noons_155 (by decide) ?_
                  exact ih43  z179 z72 w173 _ _ _ (by omega) (by omega) ok176 kx178 (by omega) h (lv_sub hl [0, 3, 4, 5, 6] rfl)
            · refine lv_if_eq (tgt := 131) hx hb dX9_noons_91 (by decide) (fun _ => ?_) (fun hc => absurd (by decide) hc)
              refine lv_lload_n hx hb dX9_noons_131 rfl (lv_at hl 2 rfl) ?_
              refine lv_ldc2 (v := 16384) hx hb hown (hts _ kv_620) dX9_noons_132 ?_
              obtain ⟨z183, e182⟩ : ∃ z : Int64, z72 / (16384 : Int64) = z := ⟨_, rfl⟩
              refine o_ldiv (z := z183) hx hb dX9_noons_135 (by decide) e182 ?_
              refine lv_ldc2 (v := 2) hx hb hown (hts _ kv_621) dX9_noons_136 ?_
              obtain ⟨z185, e184⟩ : ∃ z : Int64, z183 - z183 / (2 : Int64) * (2 : Int64) = z := ⟨_, rfl⟩
              refine o_lrem (z := z185) hx hb dX9_noons_139 (by decide) e184 ?_
              refine lv_lconst (v := 0) hx hb dX9_noons_140 (by decide) ?_
              refine W.lcmp hx hb dX9_noons_141 ?_
              refine lv_if_ne (tgt := 152) hx hb dX9_noons_142 (by decide) (fun hc186 => ?_) (fun hc186 => ?_)
              · have hc186 : ¬ (z185).toInt = 0 := lcm_ne hc186 rfl rfl
                obtain ⟨z187, e188, t189⟩ := x_add (x := L38) (y := 1) (a := L38.toInt) (b := 1) rfl rfl (by omega) (by omega)
                refine lv_iinc (v := z187) (lv' := [(5, .int z187), (7, .int z83), (6, .int z77), (3, .long z72), (0, .ref (ad 64)), (1, .int x), (2, .int n)]) hx hb dX9_noons_152 hl (k := 3) rfl e188 (by decide) rfl (fun ls hl => ?_)
                refine lv_goto (tgt := 41) hx hb dX9_noons_155 (by decide) ?_
                exact ih43  z187 z72 wL40 _ _ _ (by omega) (by omega) ok47 kx48 (by omega) h (lv_sub hl [0, 3, 4, 5, 6] rfl)
              · have hc186 : (z185).toInt = 0 := lcm_eq hc186 rfl rfl
                refine lv_aload_n hx hb dX9_noons_145 rfl (lv_at hl 4 rfl) ?_
                refine r_get kc9 X h 64 6 (by decide) rfl f99 (by decide) kv_495 rfl dX9_noons_146 ?_
                refine n_Sv (na := 1) (As := [.ref (ad 69)]) (rest := []) X hD hN h (c_M_goHour l G cI cB cZ cO ad wL40 69 (Or.inr (Or.inl rfl)) ok47   ) ⟨kv_492, kv_493, kv_470, kv_494⟩ ⟨by decide, by decide, by decide⟩ ⟨Nat.le_of_ble_eq_true rfl, Nat.le_of_ble_eq_true rfl⟩ ⟨Nat.zero_le _, Nat.zero_le _⟩ rfl hl.1 rfl (Nat.le_of_ble_eq_true rfl) dX9_noons_149 (fun w191 H locs hp192 h => ?_)
                obtain ⟨ok194, kk195, hr193⟩ := hp192
                have kx196 : KM w w191 := KM.tr kx48 kk195.1
                obtain ⟨z197, e198, t199⟩ := x_add (x := L38) (y := 1) (a := L38.toInt) (b := 1) rfl rfl (by omega) (by omega)
                refine lv_iinc (v := z197) (lv' := [(5, .int z197), (7, .int z83), (6, .int z77), (3, .long z72), (0, .ref (ad 64)), (1, .int x), (2, .int n)]) hx hb dX9_noons_152 hl (k := 3) rfl e198 (by decide) rfl (fun ls hl => ?_)
                refine lv_goto (tgt := 41) hx hb dX9_noons_155 (by decide) ?_
                exact ih43  z197 z72 w191 _ _ _ (by omega) (by omega) ok194 kx196 (by omega) h (lv_sub hl [0, 3, 4, 5, 6] rfl)
      exact hloop41 61 (0 : Int32) z17 w20 _ _ _ (by have q0 : (0 : Int32).toInt = 0 := rfl; omega) (by have q0 : (0 : Int32).toInt = 0 := rfl; omega) ok35 kx37 (by have q0 : (0 : Int32).toInt = 0 := rfl; omega) h (lv_sub hl [0, 1, 2, 3, 4] rfl)
    · refine lv_if_ne (tgt := 31) hx hb dX9_noons_21 (by decide) (fun hc => absurd (by decide) hc) (fun _ => ?_)
      refine lv_aload_n hx hb dX9_noons_24 rfl (lv_at hl 0 rfl) ?_
      refine lv_bipush (v := (-2)) hx hb dX9_noons_25 (by decide) ?_
      obtain ⟨x204, x205, t206, t207, t208, t209, t210, t211, f203, h212, h213⟩ := (show sM ad (w 64) from ok 64 (by decide))
      have f214 : w 64 = .inr (7, [.ref (ad 65), .ref (ad 66), .ref (ad 67), .ref (ad 68), .long x204, .long x205, .ref (ad 69), .int t206, .ref (ad 70), .ref (ad 71), .int t207, .int t208, .int t209, .int t210, .int t211, .ref (ad 72), .ref (ad 73)]) := f203
      refine n_Vi (na := 1) (As := [.int (-2)]) (rest := []) X hD hN h rfl (c_M_bad l G cI cB cZ cO ad w  ok ((-2) : Int32)  ) ⟨kv_553, kv_554, kv_555, kv_470, kv_556⟩ rfl ⟨by decide, by decide, by decide⟩ ⟨Nat.le_of_ble_eq_true rfl, Nat.le_of_ble_eq_true rfl⟩ ⟨Nat.zero_le _, Nat.zero_le _⟩ (by decide) f214 rfl rfl hl.1 rfl (Nat.le_of_ble_eq_true rfl) dX9_noons_27 (fun r200 w201 H locs hp202 h => ?_)
      obtain ⟨ok216, kk217, hr215⟩ := hp202
      have kx218 : KM w w201 := kk217
      subst hr215
      exact e_i X h hr hlk dX9_noons_30 ⟨ok216, kx218, trivial⟩
  · refine lv_if_eq (tgt := 24) hx hb dX9_noons_9 (by decide) (fun _ => ?_) (fun hc => absurd (by decide) hc)
    refine lv_aload_n hx hb dX9_noons_24 rfl (lv_at hl 0 rfl) ?_
    refine lv_bipush (v := (-2)) hx hb dX9_noons_25 (by decide) ?_
    obtain ⟨x223, x224, t225, t226, t227, t228, t229, t230, f222, h231, h232⟩ := (show sM ad (w 64) from ok 64 (by decide))
    have f233 : w 64 = .inr (7, [.ref (ad 65), .ref (ad 66), .ref (ad 67), .ref (ad 68), .long x223, .long x224, .ref (ad 69), .int t225, .ref (ad 70), .ref (ad 71), .int t226, .int t227, .int t228, .int t229, .int t230, .ref (ad 72), .ref (ad 73)]) := f222
    refine n_Vi (na := 1) (As := [.int (-2)]) (rest := []) X hD hN h rfl (c_M_bad l G cI cB cZ cO ad w  ok ((-2) : Int32)  ) ⟨kv_553, kv_554, kv_555, kv_470, kv_556⟩ rfl ⟨by decide, by decide, by decide⟩ ⟨Nat.le_of_ble_eq_true rfl, Nat.le_of_ble_eq_true rfl⟩ ⟨Nat.zero_le _, Nat.zero_le _⟩ (by decide) f233 rfl rfl hl.1 rfl (Nat.le_of_ble_eq_true rfl) dX9_noons_27 (fun r219 w220 H locs hp221 h => ?_)
    obtain ⟨ok235, kk236, hr234⟩ := hp221
    have kx237 : KM w w220 := kk236
    subst hr234
    exact e_i X h hr hlk dX9_noons_30 ⟨ok235, kx237, trivial⟩

set_option maxHeartbeats 4000000 in
set_option maxRecDepth 100000 in
theorem c_M_part_ (l : Launch) (G : va_G) (cI cB cZ cO : ClassId) (ad : Nat → Nat) (w : Nat → va_E)  (ok : OK cI cB cZ cO ad w) (u : Int32)   : NL l G (tyq cI cB cZ cO) yX9_part cX9_part 2 (some .long) 1 21 74 ad w [.ref (ad 64), .int u] (fun r w1 => OK cI cB cZ cO ad w1 ∧ KM w w1 ∧ True) := by
  refine nk_l (own := "NoonShadeModel") rfl (by decide) (Nat.le_of_ble_eq_true rfl) ?_
  intro p e s m below meth c ls X hD hN hr hlk h hl
  have hx := X.1.1
  have hb := X.1.2.1
  have hown := X.1.2.2.2.1
  have hts := X.1.2.2.2.2
  have hl : lv_has ls 2 [(0, .ref (ad 64)), (1, .int u)] := hl
  refine lv_iload_n hx hb dX9_part_0 rfl (lv_at hl 1 rfl) ?_
  refine lv_if_ne (tgt := 11) hx hb dX9_part_1 (by decide) (fun hc1 => ?_) (fun hc1 => ?_)
  · have hc1 : ¬ (u).toInt = 0 := i_ne hc1 rfl rfl
    refine lv_iload_n hx hb dX9_part_11 rfl (lv_at hl 1 rfl) ?_
    refine lv_iconst (v := 1) hx hb dX9_part_12 (by decide) ?_
    refine lv_icmp_ne (tgt := 23) hx hb dX9_part_13 (by decide) (fun hc2 => ?_) (fun hc2 => ?_)
    · have hc2 : ¬ (u).toInt = 1 := i_ne hc2 rfl rfl
      refine lv_aload_n hx hb dX9_part_23 rfl (lv_at hl 0 rfl) ?_
      refine lv_bipush (v := (-2)) hx hb dX9_part_24 (by decide) ?_
      obtain ⟨x7, x8, t9, t10, t11, t12, t13, t14, f6, h15, h16⟩ := (show sM ad (w 64) from ok 64 (by decide))
      have f17 : w 64 = .inr (7, [.ref (ad 65), .ref (ad 66), .ref (ad 67), .ref (ad 68), .long x7, .long x8, .ref (ad 69), .int t9, .ref (ad 70), .ref (ad 71), .int t10, .int t11, .int t12, .int t13, .int t14, .ref (ad 72), .ref (ad 73)]) := f6
      refine n_Vi (na := 1) (As := [.int (-2)]) (rest := []) X hD hN h rfl (c_M_bad l G cI cB cZ cO ad w  ok ((-2) : Int32)  ) ⟨kv_553, kv_554, kv_555, kv_470, kv_556⟩ rfl ⟨by decide, by decide, by decide⟩ ⟨Nat.le_of_ble_eq_true rfl, Nat.le_of_ble_eq_true rfl⟩ ⟨Nat.zero_le _, Nat.zero_le _⟩ (by decide) f17 rfl rfl hl.1 rfl (Nat.le_of_ble_eq_true rfl) dX9_part_26 (fun r3 w4 H locs hp5 h => ?_)
      obtain ⟨ok19, kk20, hr18⟩ := hp5
      have kx21 : KM w w4 := kk20
      subst hr18
      refine lv_i2l (v := (-2)) hx hb dX9_part_29 rfl ?_
      exact e_l X h hr hlk dX9_part_30 ⟨ok19, kx21, trivial⟩
    · have hc2 : (u).toInt = 1 := i_eq hc2 rfl rfl
      refine lv_aload_n hx hb dX9_part_16 rfl (lv_at hl 0 rfl) ?_
      obtain ⟨x23, x24, t25, t26, t27, t28, t29, t30, f22, h31, h32⟩ := (show sM ad (w 64) from ok 64 (by decide))
      have f33 : w 64 = .inr (7, [.ref (ad 65), .ref (ad 66), .ref (ad 67), .ref (ad 68), .long x23, .long x24, .ref (ad 69), .int t25, .ref (ad 70), .ref (ad 71), .int t26, .int t27, .int t28, .int t29, .int t30, .ref (ad 72), .ref (ad 73)]) := f22
      refine r_get kc9 X h 64 5 (by decide) rfl f33 (by decide) kv_532 rfl dX9_part_17 ?_
      refine lv_goto (tgt := 30) hx hb dX9_part_20 (by decide) ?_
      exact e_l X h hr hlk dX9_part_30 ⟨ok, KM.rf, trivial⟩
  · have hc1 : (u).toInt = 0 := i_eq hc1 rfl rfl
    refine lv_aload_n hx hb dX9_part_4 rfl (lv_at hl 0 rfl) ?_
    obtain ⟨x35, x36, t37, t38, t39, t40, t41, t42, f34, h43, h44⟩ := (show sM ad (w 64) from ok 64 (by decide))
    have f45 : w 64 = .inr (7, [.ref (ad 65), .ref (ad 66), .ref (ad 67), .ref (ad 68), .long x35, .long x36, .ref (ad 69), .int t37, .ref (ad 70), .ref (ad 71), .int t38, .int t39, .int t40, .int t41, .int t42, .ref (ad 72), .ref (ad 73)]) := f34
    refine r_get kc9 X h 64 4 (by decide) rfl f45 (by decide) kv_531 rfl dX9_part_5 ?_
    refine lv_goto (tgt := 30) hx hb dX9_part_8 (by decide) ?_
    exact e_l X h hr hlk dX9_part_30 ⟨ok, KM.rf, trivial⟩

set_option maxHeartbeats 4000000 in
set_option maxRecDepth 100000 in
theorem c_M_status_ (l : Launch) (G : va_G) (cI cB cZ cO : ClassId) (ad : Nat → Nat) (w : Nat → va_E)  (ok : OK cI cB cZ cO ad w) (u : Int32)   : NI l G (tyq cI cB cZ cO) yX9_status cX9_status 2 (some .int) 1 25 74 ad w [.ref (ad 64), .int u] (fun r w1 => OK cI cB cZ cO ad w1 ∧ KM w w1 ∧ True) := by
  refine nk_i (own := "NoonShadeModel") rfl (by decide) (Nat.le_of_ble_eq_true rfl) ?_
  intro p e s m below meth c ls X hD hN hr hlk h hl
  have hx := X.1.1
  have hb := X.1.2.1
  have hown := X.1.2.2.2.1
  have hts := X.1.2.2.2.2
  have hl : lv_has ls 2 [(0, .ref (ad 64)), (1, .int u)] := hl
  refine lv_iload_n hx hb dX9_status_0 rfl (lv_at hl 1 rfl) ?_
  obtain ⟨z1, e2⟩ : ∃ z : Int64, u.toInt64 = z := ⟨_, rfl⟩
  have tz1 : z1.toInt = (u).toInt := by rw [← e2]; exact Int32.toInt_toInt64 _
  refine lv_i2l (v := z1) hx hb dX9_status_1 e2 ?_
  refine lv_lconst (v := 0) hx hb dX9_status_2 (by decide) ?_
  refine lv_ldc2 (v := 2) hx hb hown (hts _ kv_621) dX9_status_3 ?_
  refine n_Si (na := 3) (As := [.long z1, .long 0, .long 2]) (rest := []) X hD hN h (c_M_in l G cI cB cZ cO ad w z1 (0 : Int64) (2 : Int64) ((u).toInt) 0 2 tz1 rfl rfl) ⟨kv_468, kv_469, kv_470, kv_471⟩ ⟨by decide, by decide, by decide⟩ ⟨Nat.le_of_ble_eq_true rfl, Nat.le_of_ble_eq_true rfl⟩ ⟨Nat.zero_le _, Nat.zero_le _⟩ rfl hl.1 rfl (Nat.le_of_ble_eq_true rfl) dX9_status_6 (fun r3 w4 H locs hp5 h => ?_)
  obtain ⟨rfl, hq6⟩ := hp5
  rcases hq6 with ⟨hq7, hq8, rfl⟩ | ⟨hq6, rfl⟩
  · refine lv_if_eq (tgt := 21) hx hb dX9_status_9 (by decide) (fun hc => absurd hc (by decide)) (fun _ => ?_)
    refine lv_aload_n hx hb dX9_status_12 rfl (lv_at hl 0 rfl) ?_
    obtain ⟨x10, x11, t12, t13, t14, t15, t16, t17, f9, h18, h19⟩ := (show sM ad (w 64) from ok 64 (by decide))
    have f20 : w 64 = .inr (7, [.ref (ad 65), .ref (ad 66), .ref (ad 67), .ref (ad 68), .long x10, .long x11, .ref (ad 69), .int t12, .ref (ad 70), .ref (ad 71), .int t13, .int t14, .int t15, .int t16, .int t17, .ref (ad 72), .ref (ad 73)]) := f9
    refine r_get kc9 X h 64 3 (by decide) rfl f20 (by decide) kv_466 rfl dX9_status_13 ?_
    refine lv_iload_n hx hb dX9_status_16 rfl (lv_at hl 1 rfl) ?_
    obtain ⟨g22, f21, p23⟩ := (show sA cI 3 (anyA) (w 68) from ok 68 (by decide))
    have f24 : w 68 = .inl (cI, 3, .inl g22) := f21
    obtain ⟨v25, e26⟩ : ∃ z : Int32, g22 (u).toNatClampNeg = z := ⟨_, rfl⟩
    refine o_iald (v := v25) X h 68 0 (by decide) rfl f24 rfl (in_of (by omega) (by omega)) e26 dX9_status_17 ?_
    refine lv_goto (tgt := 26) hx hb dX9_status_18 (by decide) ?_
    exact e_i X h hr hlk dX9_status_26 ⟨ok, KM.rf, trivial⟩
  · refine lv_if_eq (tgt := 21) hx hb dX9_status_9 (by decide) (fun _ => ?_) (fun hc => absurd (by decide) hc)
    refine lv_aload_n hx hb dX9_status_21 rfl (lv_at hl 0 rfl) ?_
    refine lv_iconst (v := (-1)) hx hb dX9_status_22 (by decide) ?_
    obtain ⟨x32, x33, t34, t35, t36, t37, t38, t39, f31, h40, h41⟩ := (show sM ad (w 64) from ok 64 (by decide))
    have f42 : w 64 = .inr (7, [.ref (ad 65), .ref (ad 66), .ref (ad 67), .ref (ad 68), .long x32, .long x33, .ref (ad 69), .int t34, .ref (ad 70), .ref (ad 71), .int t35, .int t36, .int t37, .int t38, .int t39, .ref (ad 72), .ref (ad 73)]) := f31
    refine n_Vi (na := 1) (As := [.int (-1)]) (rest := []) X hD hN h rfl (c_M_bad l G cI cB cZ cO ad w  ok ((-1) : Int32)  ) ⟨kv_553, kv_554, kv_555, kv_470, kv_556⟩ rfl ⟨by decide, by decide, by decide⟩ ⟨Nat.le_of_ble_eq_true rfl, Nat.le_of_ble_eq_true rfl⟩ ⟨Nat.zero_le _, Nat.zero_le _⟩ (by decide) f42 rfl rfl hl.1 rfl (Nat.le_of_ble_eq_true rfl) dX9_status_23 (fun r28 w29 H locs hp30 h => ?_)
    obtain ⟨ok44, kk45, hr43⟩ := hp30
    have kx46 : KM w w29 := kk45
    subst hr43
    exact e_i X h hr hlk dX9_status_26 ⟨ok44, kx46, trivial⟩

set_option maxHeartbeats 4000000 in
set_option maxRecDepth 100000 in
theorem c_M_count_ (l : Launch) (G : va_G) (cI cB cZ cO : ClassId) (ad : Nat → Nat) (w : Nat → va_E)  (ok : OK cI cB cZ cO ad w) (u : Int32)   : NI l G (tyq cI cB cZ cO) yX9_count cX9_count 2 (some .int) 2 43 74 ad w [.ref (ad 64), .int u] (fun r w1 => OK cI cB cZ cO ad w1 ∧ KM w w1 ∧ True) := by
  refine nk_i (own := "NoonShadeModel") rfl (by decide) (Nat.le_of_ble_eq_true rfl) ?_
  intro p e s m below meth c ls X hD hN hr hlk h hl
  have hx := X.1.1
  have hb := X.1.2.1
  have hown := X.1.2.2.2.1
  have hts := X.1.2.2.2.2
  have hl : lv_has ls 2 [(0, .ref (ad 64)), (1, .int u)] := hl
  refine lv_iload_n hx hb dX9_count_0 rfl (lv_at hl 1 rfl) ?_
  obtain ⟨z1, e2⟩ : ∃ z : Int64, u.toInt64 = z := ⟨_, rfl⟩
  have tz1 : z1.toInt = (u).toInt := by rw [← e2]; exact Int32.toInt_toInt64 _
  refine lv_i2l (v := z1) hx hb dX9_count_1 e2 ?_
  refine lv_lconst (v := 0) hx hb dX9_count_2 (by decide) ?_
  refine lv_ldc2 (v := 9) hx hb hown (hts _ kv_473) dX9_count_3 ?_
  refine n_Si (na := 3) (As := [.long z1, .long 0, .long 9]) (rest := []) X hD hN h (c_M_in l G cI cB cZ cO ad w z1 (0 : Int64) (9 : Int64) ((u).toInt) 0 9 tz1 rfl rfl) ⟨kv_468, kv_469, kv_470, kv_471⟩ ⟨by decide, by decide, by decide⟩ ⟨Nat.le_of_ble_eq_true rfl, Nat.le_of_ble_eq_true rfl⟩ ⟨Nat.zero_le _, Nat.zero_le _⟩ rfl hl.1 rfl (Nat.le_of_ble_eq_true rfl) dX9_count_6 (fun r3 w4 H locs hp5 h => ?_)
  obtain ⟨rfl, hq6⟩ := hp5
  rcases hq6 with ⟨hq7, hq8, rfl⟩ | ⟨hq6, rfl⟩
  · refine lv_if_eq (tgt := 20) hx hb dX9_count_9 (by decide) (fun hc => absurd hc (by decide)) (fun _ => ?_)
    refine lv_aload_n hx hb dX9_count_12 rfl (lv_at hl 0 rfl) ?_
    refine lv_iload_n hx hb dX9_count_13 rfl (lv_at hl 1 rfl) ?_
    obtain ⟨x13, x14, t15, t16, t17, t18, t19, t20, f12, h21, h22⟩ := (show sM ad (w 64) from ok 64 (by decide))
    have f23 : w 64 = .inr (7, [.ref (ad 65), .ref (ad 66), .ref (ad 67), .ref (ad 68), .long x13, .long x14, .ref (ad 69), .int t15, .ref (ad 70), .ref (ad 71), .int t16, .int t17, .int t18, .int t19, .int t20, .ref (ad 72), .ref (ad 73)]) := f12
    refine n_Vi (na := 1) (As := [.int u]) (rest := []) X hD hN h rfl (c_M_counted l G cI cB cZ cO ad w  ok u  ) ⟨kv_622, kv_623, kv_624, kv_470, kv_625⟩ rfl ⟨by decide, by decide, by decide⟩ ⟨Nat.le_of_ble_eq_true rfl, Nat.le_of_ble_eq_true rfl⟩ ⟨Nat.zero_le _, Nat.zero_le _⟩ (by decide) f23 rfl rfl hl.1 rfl (Nat.le_of_ble_eq_true rfl) dX9_count_14 (fun r9 w10 H locs hp11 h => ?_)
    obtain ⟨rfl, hr24⟩ := hp11
    refine lv_goto (tgt := 26) hx hb dX9_count_17 (by decide) ?_
    exact e_i X h hr hlk dX9_count_26 ⟨ok, KM.rf, trivial⟩
  · refine lv_if_eq (tgt := 20) hx hb dX9_count_9 (by decide) (fun _ => ?_) (fun hc => absurd (by decide) hc)
    refine lv_aload_n hx hb dX9_count_20 rfl (lv_at hl 0 rfl) ?_
    refine lv_bipush (v := (-2)) hx hb dX9_count_21 (by decide) ?_
    obtain ⟨x29, x30, t31, t32, t33, t34, t35, t36, f28, h37, h38⟩ := (show sM ad (w 64) from ok 64 (by decide))
    have f39 : w 64 = .inr (7, [.ref (ad 65), .ref (ad 66), .ref (ad 67), .ref (ad 68), .long x29, .long x30, .ref (ad 69), .int t31, .ref (ad 70), .ref (ad 71), .int t32, .int t33, .int t34, .int t35, .int t36, .ref (ad 72), .ref (ad 73)]) := f28
    refine n_Vi (na := 1) (As := [.int (-2)]) (rest := []) X hD hN h rfl (c_M_bad l G cI cB cZ cO ad w  ok ((-2) : Int32)  ) ⟨kv_553, kv_554, kv_555, kv_470, kv_556⟩ rfl ⟨by decide, by decide, by decide⟩ ⟨Nat.le_of_ble_eq_true rfl, Nat.le_of_ble_eq_true rfl⟩ ⟨Nat.zero_le _, Nat.zero_le _⟩ (by decide) f39 rfl rfl hl.1 rfl (Nat.le_of_ble_eq_true rfl) dX9_count_23 (fun r25 w26 H locs hp27 h => ?_)
    obtain ⟨ok41, kk42, hr40⟩ := hp27
    have kx43 : KM w w26 := kk42
    subst hr40
    exact e_i X h hr hlk dX9_count_26 ⟨ok41, kx43, trivial⟩

set_option maxHeartbeats 4000000 in
set_option maxRecDepth 100000 in
theorem c_M_digest_ (l : Launch) (G : va_G) (cI cB cZ cO : ClassId) (ad : Nat → Nat) (w : Nat → va_E)  (ok : OK cI cB cZ cO ad w)    : NL l G (tyq cI cB cZ cO) yX9_digest cX9_digest 5 (some .long) 3 69 74 ad w [.ref (ad 64)] (fun r w1 => OK cI cB cZ cO ad w1 ∧ KM w w1 ∧ True) := by
  refine nk_l (own := "NoonShadeModel") rfl (by decide) (Nat.le_of_ble_eq_true rfl) ?_
  intro p e s m below meth c ls X hD hN hr hlk h hl
  have hx := X.1.1
  have hb := X.1.2.1
  have hown := X.1.2.2.2.1
  have hts := X.1.2.2.2.2
  have hl : lv_has ls 5 [(0, .ref (ad 64))] := hl
  refine lv_ldc2 (v := 1879) hx hb hown (hts _ kv_626) dX9_digest_0 ?_
  refine lv_lstore_n (lv' := [(1, .long 1879), (0, .ref (ad 64))]) hx hb dX9_digest_3 rfl hl (by decide) rfl (fun ls hl => ?_)
  refine lv_iconst (v := 0) hx hb dX9_digest_4 (by decide) ?_
  refine lv_istore_n (lv' := [(3, .int 0), (1, .long 1879), (0, .ref (ad 64))]) hx hb dX9_digest_5 rfl hl (by decide) rfl (fun ls hl => ?_)
  have hloop4 : ∀ (d5 : Nat) (L1 : Int32) (L2 : Int64) (wL3 : Nat → va_E) (H : Heap) (locs : List Loc) (ls : Array Slot), 0 ≤ L1.toInt → L1.toInt ≤ 10 → OK cI cB cZ cO ad wL3 → KM w wL3 → 10 - L1.toInt < (d5 : Int) → St G 74 ad (wA 74 ad s.heap.size) s.heap wL3 H locs → lv_has ls 5 [(3, .int L1), (1, .long L2), (0, .ref (ad 64))] → W p l e { frames := 3, cells := 0, slots := 0, locals := 69 } s m [.ref (ad 64)].toArray below meth c H locs 0 0 (MQ below (va_Ql (fun r w1 => OK cI cB cZ cO ad w1 ∧ KM w w1 ∧ True) (Aft G 74 ad) (wA 74 ad s.heap.size)) [.ref (ad 64)].toArray s 0 0 (wA 74 ad s.heap.size)) (F0 m 6 ls []) := by
    intro d5
    induction d5 with
    | zero => intro L1 L2 wL3 H locs ls hi8 hi9 ok10 kx11 hm7 h hl; exfalso; omega
    | succ d5 ih6 =>
      intro L1 L2 wL3 H locs ls hi8 hi9 ok10 kx11 hm7 h hl
      refine lv_iload_n hx hb dX9_digest_6 rfl (lv_at hl 0 rfl) ?_
      refine lv_bipush (v := 10) hx hb dX9_digest_7 (by decide) ?_
      refine lv_icmp_ge (tgt := 31) hx hb dX9_digest_9 (by decide) (fun hc13 => ?_) (fun hc13 => ?_)
      · have hc13 : 10 ≤ (L1).toInt := i_le hc13 rfl rfl
        refine lv_iconst (v := 0) hx hb dX9_digest_31 (by decide) ?_
        refine lv_istore_n (lv' := [(3, .int 0), (1, .long L2), (0, .ref (ad 64))]) hx hb dX9_digest_32 rfl hl (by decide) rfl (fun ls hl => ?_)
        have hloop17 : ∀ (d18 : Nat) (L14 : Int32) (L15 : Int64) (wL16 : Nat → va_E) (H : Heap) (locs : List Loc) (ls : Array Slot), 0 ≤ L14.toInt → L14.toInt ≤ 7 → OK cI cB cZ cO ad wL16 → KM w wL16 → 7 - L14.toInt < (d18 : Int) → St G 74 ad (wA 74 ad s.heap.size) s.heap wL16 H locs → lv_has ls 5 [(3, .int L14), (1, .long L15), (0, .ref (ad 64))] → W p l e { frames := 3, cells := 0, slots := 0, locals := 69 } s m [.ref (ad 64)].toArray below meth c H locs 0 0 (MQ below (va_Ql (fun r w1 => OK cI cB cZ cO ad w1 ∧ KM w w1 ∧ True) (Aft G 74 ad) (wA 74 ad s.heap.size)) [.ref (ad 64)].toArray s 0 0 (wA 74 ad s.heap.size)) (F0 m 33 ls []) := by
          intro d18
          induction d18 with
          | zero => intro L14 L15 wL16 H locs ls hi21 hi22 ok23 kx24 hm20 h hl; exfalso; omega
          | succ d18 ih19 =>
            intro L14 L15 wL16 H locs ls hi21 hi22 ok23 kx24 hm20 h hl
            refine lv_iload_n hx hb dX9_digest_33 rfl (lv_at hl 0 rfl) ?_
            refine lv_aload_n hx hb dX9_digest_34 rfl (lv_at hl 2 rfl) ?_
            obtain ⟨x27, x28, t29, t30, t31, t32, t33, t34, f26, h35, h36⟩ := (show sM ad (wL16 64) from ok23 64 (by decide))
            have f37 : wL16 64 = .inr (7, [.ref (ad 65), .ref (ad 66), .ref (ad 67), .ref (ad 68), .long x27, .long x28, .ref (ad 69), .int t29, .ref (ad 70), .ref (ad 71), .int t30, .int t31, .int t32, .int t33, .int t34, .ref (ad 72), .ref (ad 73)]) := f26
            refine r_get kc9 X h 64 0 (by decide) rfl f37 (by decide) kv_467 rfl dX9_digest_35 ?_
            refine lv_iconst (v := 0) hx hb dX9_digest_38 (by decide) ?_
            obtain ⟨g39, f38, p40⟩ := (show sA cI 177 (alA) (wL16 65) from ok23 65 (by decide))
            have f41 : wL16 65 = .inl (cI, 177, .inl g39) := f38
            obtain ⟨v42, e43⟩ : ∃ z : Int32, g39 0 = z := ⟨_, rfl⟩
            have h44 := (alA_rd p40 e43).1 rfl
            refine o_iald (v := v42) X h 65 0 (by decide) rfl f41 rfl (by unfold vp_in; decide) e43 dX9_digest_39 ?_
            refine lv_icmp_ge (tgt := 79) hx hb dX9_digest_40 (by decide) (fun hc45 => ?_) (fun hc45 => ?_)
            · have hc45 : (v42).toInt ≤ (L14).toInt := i_le hc45 rfl rfl
              refine lv_iconst (v := 0) hx hb dX9_digest_79 (by decide) ?_
              refine lv_istore_n (lv' := [(3, .int 0), (1, .long L15), (0, .ref (ad 64))]) hx hb dX9_digest_80 rfl hl (by decide) rfl (fun ls hl => ?_)
              have hloop49 : ∀ (d50 : Nat) (L46 : Int32) (L47 : Int64) (wL48 : Nat → va_E) (H : Heap) (locs : List Loc) (ls : Array Slot), 0 ≤ L46.toInt → L46.toInt ≤ 4 → OK cI cB cZ cO ad wL48 → KM w wL48 → 4 - L46.toInt < (d50 : Int) → St G 74 ad (wA 74 ad s.heap.size) s.heap wL48 H locs → lv_has ls 5 [(3, .int L46), (1, .long L47), (0, .ref (ad 64))] → W p l e { frames := 3, cells := 0, slots := 0, locals := 69 } s m [.ref (ad 64)].toArray below meth c H locs 0 0 (MQ below (va_Ql (fun r w1 => OK cI cB cZ cO ad w1 ∧ KM w w1 ∧ True) (Aft G 74 ad) (wA 74 ad s.heap.size)) [.ref (ad 64)].toArray s 0 0 (wA 74 ad s.heap.size)) (F0 m 81 ls []) := by
                intro d50
                induction d50 with
                | zero => intro L46 L47 wL48 H locs ls hi53 hi54 ok55 kx56 hm52 h hl; exfalso; omega
                | succ d50 ih51 =>
                  intro L46 L47 wL48 H locs ls hi53 hi54 ok55 kx56 hm52 h hl
                  refine lv_iload_n hx hb dX9_digest_81 rfl (lv_at hl 0 rfl) ?_
                  refine lv_aload_n hx hb dX9_digest_82 rfl (lv_at hl 2 rfl) ?_
                  obtain ⟨x59, x60, t61, t62, t63, t64, t65, t66, f58, h67, h68⟩ := (show sM ad (wL48 64) from ok55 64 (by decide))
                  have f69 : wL48 64 = .inr (7, [.ref (ad 65), .ref (ad 66), .ref (ad 67), .ref (ad 68), .long x59, .long x60, .ref (ad 69), .int t61, .ref (ad 70), .ref (ad 71), .int t62, .int t63, .int t64, .int t65, .int t66, .ref (ad 72), .ref (ad 73)]) := f58
                  refine r_get kc9 X h 64 0 (by decide) rfl f69 (by decide) kv_467 rfl dX9_digest_83 ?_
                  refine lv_iconst (v := 1) hx hb dX9_digest_86 (by decide) ?_
                  obtain ⟨g71, f70, p72⟩ := (show sA cI 177 (alA) (wL48 65) from ok55 65 (by decide))
                  have f73 : wL48 65 = .inl (cI, 177, .inl g71) := f70
                  obtain ⟨v74, e75⟩ : ∃ z : Int32, g71 1 = z := ⟨_, rfl⟩
                  have h76 := (alA_rd p72 e75).2.1 rfl
                  refine o_iald (v := v74) X h 65 0 (by decide) rfl f73 rfl (by unfold vp_in; decide) e75 dX9_digest_87 ?_
                  refine lv_icmp_ge (tgt := 127) hx hb dX9_digest_88 (by decide) (fun hc77 => ?_) (fun hc77 => ?_)
                  · have hc77 : (v74).toInt ≤ (L46).toInt := i_le hc77 rfl rfl
                    refine lv_aload_n hx hb dX9_digest_127 rfl (lv_at hl 2 rfl) ?_
                    refine lv_lload_n hx hb dX9_digest_128 rfl (lv_at hl 1 rfl) ?_
                    refine lv_bipush (v := 41) hx hb dX9_digest_129 (by decide) ?_
                    refine lv_iconst (v := 4) hx hb dX9_digest_131 (by decide) ?_
                    refine lv_aload_n hx hb dX9_digest_132 rfl (lv_at hl 2 rfl) ?_
                    refine r_get kc9 X h 64 0 (by decide) rfl f69 (by decide) kv_467 rfl dX9_digest_133 ?_
                    refine lv_iconst (v := 2) hx hb dX9_digest_136 (by decide) ?_
                    obtain ⟨v78, e79⟩ : ∃ z : Int32, g71 2 = z := ⟨_, rfl⟩
                    have h80 := (alA_rd p72 e79).2.2.1 rfl
                    refine o_iald (v := v78) X h 65 0 (by decide) rfl f73 rfl (by unfold vp_in; decide) e79 dX9_digest_137 ?_
                    obtain ⟨z83, e81, t82⟩ := x_mul (x := (4 : Int32)) (y := v78) (a := 4) (b := (v78).toInt) rfl rfl (by omega) (by omega)
                    refine o_imul (z := z83) hx hb dX9_digest_138 e81 ?_
                    refine n_Vl (na := 3) (As := [.long L47, .int 41, .int z83]) (rest := []) X hD hN h rfl (c_M_sums l G cI cB cZ cO ad wL48  ok55 L47 (41 : Int32) z83 (by decide) (by decide) (by omega) (by omega) ) ⟨kv_627, kv_628, kv_629, kv_470, kv_630⟩ rfl ⟨by decide, by decide, by decide⟩ ⟨Nat.le_of_ble_eq_true rfl, Nat.le_of_ble_eq_true rfl⟩ ⟨Nat.zero_le _, Nat.zero_le _⟩ (by decide) f69 rfl rfl hl.1 rfl (Nat.le_of_ble_eq_true rfl) dX9_digest_139 (fun r84 w85 H locs hp86 h => ?_)
                    obtain ⟨rfl, hr87⟩ := hp86
                    refine lv_lstore_n (lv' := [(1, .long r84), (3, .int L46), (0, .ref (ad 64))]) hx hb dX9_digest_142 rfl hl (by decide) rfl (fun ls hl => ?_)
                    refine lv_aload_n hx hb dX9_digest_143 rfl (lv_at hl 2 rfl) ?_
                    refine lv_lload_n hx hb dX9_digest_144 rfl (lv_at hl 0 rfl) ?_
                    refine lv_bipush (v := 65) hx hb dX9_digest_145 (by decide) ?_
                    refine lv_iconst (v := 4) hx hb dX9_digest_147 (by decide) ?_
                    refine lv_aload_n hx hb dX9_digest_148 rfl (lv_at hl 2 rfl) ?_
                    refine r_get kc9 X h 64 0 (by decide) rfl f69 (by decide) kv_467 rfl dX9_digest_149 ?_
                    refine lv_iconst (v := 3) hx hb dX9_digest_152 (by decide) ?_
                    obtain ⟨v88, e89⟩ : ∃ z : Int32, g71 3 = z := ⟨_, rfl⟩
                    have h90 := (alA_rd p72 e89).2.2.2.1 rfl
                    refine o_iald (v := v88) X h 65 0 (by decide) rfl f73 rfl (by unfold vp_in; decide) e89 dX9_digest_153 ?_
                    obtain ⟨z93, e91, t92⟩ := x_mul (x := (4 : Int32)) (y := v88) (a := 4) (b := (v88).toInt) rfl rfl (by omega) (by omega)
                    refine o_imul (z := z93) hx hb dX9_digest_154 e91 ?_
                    refine n_Vl (na := 3) (As := [.long r84, .int 65, .int z93]) (rest := []) X hD hN h rfl (c_M_sums l G cI cB cZ cO ad wL48  ok55 r84 (65 : Int32) z93 (by decide) (by decide) (by omega) (by omega) ) ⟨kv_627, kv_628, kv_629, kv_470, kv_630⟩ rfl ⟨by decide, by decide, by decide⟩ ⟨Nat.le_of_ble_eq_true rfl, Nat.le_of_ble_eq_true rfl⟩ ⟨Nat.zero_le _, Nat.zero_le _⟩ (by decide) f69 rfl rfl hl.1 rfl (Nat.le_of_ble_eq_true rfl) dX9_digest_155 (fun r94 w95 H locs hp96 h => ?_)
                    obtain ⟨rfl, hr97⟩ := hp96
                    refine lv_lstore_n (lv' := [(1, .long r94), (3, .int L46), (0, .ref (ad 64))]) hx hb dX9_digest_158 rfl hl (by decide) rfl (fun ls hl => ?_)
                    refine lv_ldc2 (v := 31) hx hb hown (hts _ kv_540) dX9_digest_159 ?_
                    refine lv_ldc2 (v := 31) hx hb hown (hts _ kv_540) dX9_digest_162 ?_
                    refine lv_lload_n hx hb dX9_digest_165 rfl (lv_at hl 0 rfl) ?_
                    obtain ⟨z99, e98⟩ : ∃ z : Int64, (31 : Int64) * r94 = z := ⟨_, rfl⟩
                    refine o_lmul (z := z99) hx hb dX9_digest_166 e98 ?_
                    refine lv_aload_n hx hb dX9_digest_167 rfl (lv_at hl 2 rfl) ?_
                    refine r_get kc9 X h 64 4 (by decide) rfl f69 (by decide) kv_531 rfl dX9_digest_168 ?_
                    obtain ⟨z101, e100⟩ : ∃ z : Int64, z99 + x59 = z := ⟨_, rfl⟩
                    refine o_ladd (z := z101) hx hb dX9_digest_171 e100 ?_
                    obtain ⟨z103, e102⟩ : ∃ z : Int64, (31 : Int64) * z101 = z := ⟨_, rfl⟩
                    refine o_lmul (z := z103) hx hb dX9_digest_172 e102 ?_
                    refine lv_aload_n hx hb dX9_digest_173 rfl (lv_at hl 2 rfl) ?_
                    refine r_get kc9 X h 64 5 (by decide) rfl f69 (by decide) kv_532 rfl dX9_digest_174 ?_
                    obtain ⟨z105, e104⟩ : ∃ z : Int64, z103 + x60 = z := ⟨_, rfl⟩
                    refine o_ladd (z := z105) hx hb dX9_digest_177 e104 ?_
                    exact e_l X h hr hlk dX9_digest_178 ⟨ok55, kx56, trivial⟩
                  · have hc77 : ¬ (v74).toInt ≤ (L46).toInt := i_nle hc77 rfl rfl
                    refine lv_iconst (v := 0) hx hb dX9_digest_91 (by decide) ?_
                    refine lv_istore (lv' := [(4, .int 0), (3, .int L46), (1, .long L47), (0, .ref (ad 64))]) hx hb dX9_digest_92 hl (by decide) rfl (fun ls hl => ?_)
                    have hloop109 : ∀ (d110 : Nat) (L106 : Int32) (L107 : Int64) (wL108 : Nat → va_E) (H : Heap) (locs : List Loc) (ls : Array Slot), 0 ≤ L106.toInt → L106.toInt ≤ 3 → OK cI cB cZ cO ad wL108 → KM w wL108 → 3 - L106.toInt < (d110 : Int) → St G 74 ad (wA 74 ad s.heap.size) s.heap wL108 H locs → lv_has ls 5 [(4, .int L106), (3, .int L46), (1, .long L107), (0, .ref (ad 64))] → W p l e { frames := 3, cells := 0, slots := 0, locals := 69 } s m [.ref (ad 64)].toArray below meth c H locs 0 0 (MQ below (va_Ql (fun r w1 => OK cI cB cZ cO ad w1 ∧ KM w w1 ∧ True) (Aft G 74 ad) (wA 74 ad s.heap.size)) [.ref (ad 64)].toArray s 0 0 (wA 74 ad s.heap.size)) (F0 m 94 ls []) := by
                      intro d110
                      induction d110 with
                      | zero => intro L106 L107 wL108 H locs ls hi113 hi114 ok115 kx116 hm112 h hl; exfalso; omega
                      | succ d110 ih111 =>
                        intro L106 L107 wL108 H locs ls hi113 hi114 ok115 kx116 hm112 h hl
                        refine lv_iload hx hb dX9_digest_94 (lv_at hl 0 rfl) ?_
                        refine lv_iconst (v := 3) hx hb dX9_digest_96 (by decide) ?_
                        refine lv_icmp_ge (tgt := 121) hx hb dX9_digest_97 (by decide) (fun hc118 => ?_) (fun hc118 => ?_)
                        · have hc118 : 3 ≤ (L106).toInt := i_le hc118 rfl rfl
                          obtain ⟨z119, e120, t121⟩ := x_add (x := L46) (y := 1) (a := L46.toInt) (b := 1) rfl rfl (by omega) (by omega)
                          refine lv_iinc (v := z119) (lv' := [(3, .int z119), (4, .int L106), (1, .long L107), (0, .ref (ad 64))]) hx hb dX9_digest_121 hl (k := 1) rfl e120 (by decide) rfl (fun ls hl => ?_)
                          refine lv_goto (tgt := 81) hx hb dX9_digest_124 (by decide) ?_
                          exact ih51  z119 L107 wL108 _ _ _ (by omega) (by omega) ok115 kx116 (by omega) h (lv_sub hl [0, 2, 3] rfl)
                        · have hc118 : ¬ 3 ≤ (L106).toInt := i_nle hc118 rfl rfl
                          refine lv_ldc2 (v := 31) hx hb hown (hts _ kv_540) dX9_digest_100 ?_
                          refine lv_lload_n hx hb dX9_digest_103 rfl (lv_at hl 2 rfl) ?_
                          obtain ⟨z123, e122⟩ : ∃ z : Int64, (31 : Int64) * L107 = z := ⟨_, rfl⟩
                          refine o_lmul (z := z123) hx hb dX9_digest_104 e122 ?_
                          refine lv_aload_n hx hb dX9_digest_105 rfl (lv_at hl 3 rfl) ?_
                          refine lv_iload_n hx hb dX9_digest_106 rfl (lv_at hl 1 rfl) ?_
                          refine lv_iload hx hb dX9_digest_107 (lv_at hl 0 rfl) ?_
                          obtain ⟨x128, x129, t130, t131, t132, t133, t134, t135, f127, h136, h137⟩ := (show sM ad (wL108 64) from ok115 64 (by decide))
                          have f138 : wL108 64 = .inr (7, [.ref (ad 65), .ref (ad 66), .ref (ad 67), .ref (ad 68), .long x128, .long x129, .ref (ad 69), .int t130, .ref (ad 70), .ref (ad 71), .int t131, .int t132, .int t133, .int t134, .int t135, .ref (ad 72), .ref (ad 73)]) := f127
                          refine n_Vi (na := 2) (As := [.int L46, .int L106]) (rest := [.long z123]) X hD hN h rfl (c_M_toldJar l G cI cB cZ cO ad wL108  ok115 L46 L106 (by omega) (by omega) ) ⟨kv_568, kv_569, kv_570, kv_470, kv_571⟩ rfl ⟨by decide, by decide, by decide⟩ ⟨Nat.le_of_ble_eq_true rfl, Nat.le_of_ble_eq_true rfl⟩ ⟨Nat.zero_le _, Nat.zero_le _⟩ (by decide) f138 rfl rfl hl.1 rfl (Nat.le_of_ble_eq_true rfl) dX9_digest_109 (fun r124 w125 H locs hp126 h => ?_)
                          obtain ⟨rfl, hr139⟩ := hp126
                          obtain ⟨z140, e141⟩ : ∃ z : Int64, r124.toInt64 = z := ⟨_, rfl⟩
                          have tz140 : z140.toInt = (r124).toInt := by rw [← e141]; exact Int32.toInt_toInt64 _
                          refine lv_i2l (v := z140) hx hb dX9_digest_112 e141 ?_
                          obtain ⟨z143, e142⟩ : ∃ z : Int64, z123 + z140 = z := ⟨_, rfl⟩
                          refine o_ladd (z := z143) hx hb dX9_digest_113 e142 ?_
                          refine lv_lstore_n (lv' := [(1, .long z143), (4, .int L106), (3, .int L46), (0, .ref (ad 64))]) hx hb dX9_digest_114 rfl hl (by decide) rfl (fun ls hl => ?_)
                          obtain ⟨z144, e145, t146⟩ := x_add (x := L106) (y := 1) (a := L106.toInt) (b := 1) rfl rfl (by omega) (by omega)
                          refine lv_iinc (v := z144) (lv' := [(4, .int z144), (1, .long z143), (3, .int L46), (0, .ref (ad 64))]) hx hb dX9_digest_115 hl (k := 1) rfl e145 (by decide) rfl (fun ls hl => ?_)
                          refine lv_goto (tgt := 94) hx hb dX9_digest_118 (by decide) ?_
                          exact ih111  z144 z143 wL108 _ _ _ (by omega) (by omega) ok115 kx116 (by omega) h (lv_sub hl [0, 2, 1, 3] rfl)
                    exact hloop109 4 (0 : Int32) L47 wL48 _ _ _ (by have q0 : (0 : Int32).toInt = 0 := rfl; omega) (by have q0 : (0 : Int32).toInt = 0 := rfl; omega) ok55 kx56 (by have q0 : (0 : Int32).toInt = 0 := rfl; omega) h (lv_sub hl [0, 1, 2, 3] rfl)
              exact hloop49 5 (0 : Int32) L15 wL16 _ _ _ (by have q0 : (0 : Int32).toInt = 0 := rfl; omega) (by have q0 : (0 : Int32).toInt = 0 := rfl; omega) ok23 kx24 (by have q0 : (0 : Int32).toInt = 0 := rfl; omega) h (lv_sub hl [0, 1, 2] rfl)
            · have hc45 : ¬ (v42).toInt ≤ (L14).toInt := i_nle hc45 rfl rfl
              refine lv_iconst (v := 0) hx hb dX9_digest_43 (by decide) ?_
              refine lv_istore (lv' := [(4, .int 0), (3, .int L14), (1, .long L15), (0, .ref (ad 64))]) hx hb dX9_digest_44 hl (by decide) rfl (fun ls hl => ?_)
              have hloop150 : ∀ (d151 : Nat) (L147 : Int32) (L148 : Int64) (wL149 : Nat → va_E) (H : Heap) (locs : List Loc) (ls : Array Slot), 0 ≤ L147.toInt → L147.toInt ≤ 4 → OK cI cB cZ cO ad wL149 → KM w wL149 → 4 - L147.toInt < (d151 : Int) → St G 74 ad (wA 74 ad s.heap.size) s.heap wL149 H locs → lv_has ls 5 [(4, .int L147), (3, .int L14), (1, .long L148), (0, .ref (ad 64))] → W p l e { frames := 3, cells := 0, slots := 0, locals := 69 } s m [.ref (ad 64)].toArray below meth c H locs 0 0 (MQ below (va_Ql (fun r w1 => OK cI cB cZ cO ad w1 ∧ KM w w1 ∧ True) (Aft G 74 ad) (wA 74 ad s.heap.size)) [.ref (ad 64)].toArray s 0 0 (wA 74 ad s.heap.size)) (F0 m 46 ls []) := by
                intro d151
                induction d151 with
                | zero => intro L147 L148 wL149 H locs ls hi154 hi155 ok156 kx157 hm153 h hl; exfalso; omega
                | succ d151 ih152 =>
                  intro L147 L148 wL149 H locs ls hi154 hi155 ok156 kx157 hm153 h hl
                  refine lv_iload hx hb dX9_digest_46 (lv_at hl 0 rfl) ?_
                  refine lv_iconst (v := 4) hx hb dX9_digest_48 (by decide) ?_
                  refine lv_icmp_ge (tgt := 73) hx hb dX9_digest_49 (by decide) (fun hc159 => ?_) (fun hc159 => ?_)
                  · have hc159 : 4 ≤ (L147).toInt := i_le hc159 rfl rfl
                    obtain ⟨z160, e161, t162⟩ := x_add (x := L14) (y := 1) (a := L14.toInt) (b := 1) rfl rfl (by omega) (by omega)
                    refine lv_iinc (v := z160) (lv' := [(3, .int z160), (4, .int L147), (1, .long L148), (0, .ref (ad 64))]) hx hb dX9_digest_73 hl (k := 1) rfl e161 (by decide) rfl (fun ls hl => ?_)
                    refine lv_goto (tgt := 33) hx hb dX9_digest_76 (by decide) ?_
                    exact ih19  z160 L148 wL149 _ _ _ (by omega) (by omega) ok156 kx157 (by omega) h (lv_sub hl [0, 2, 3] rfl)
                  · have hc159 : ¬ 4 ≤ (L147).toInt := i_nle hc159 rfl rfl
                    refine lv_ldc2 (v := 31) hx hb hown (hts _ kv_540) dX9_digest_52 ?_
                    refine lv_lload_n hx hb dX9_digest_55 rfl (lv_at hl 2 rfl) ?_
                    obtain ⟨z164, e163⟩ : ∃ z : Int64, (31 : Int64) * L148 = z := ⟨_, rfl⟩
                    refine o_lmul (z := z164) hx hb dX9_digest_56 e163 ?_
                    refine lv_aload_n hx hb dX9_digest_57 rfl (lv_at hl 3 rfl) ?_
                    refine lv_iload_n hx hb dX9_digest_58 rfl (lv_at hl 1 rfl) ?_
                    refine lv_iload hx hb dX9_digest_59 (lv_at hl 0 rfl) ?_
                    obtain ⟨x169, x170, t171, t172, t173, t174, t175, t176, f168, h177, h178⟩ := (show sM ad (wL149 64) from ok156 64 (by decide))
                    have f179 : wL149 64 = .inr (7, [.ref (ad 65), .ref (ad 66), .ref (ad 67), .ref (ad 68), .long x169, .long x170, .ref (ad 69), .int t171, .ref (ad 70), .ref (ad 71), .int t172, .int t173, .int t174, .int t175, .int t176, .ref (ad 72), .ref (ad 73)]) := f168
                    refine n_Vi (na := 2) (As := [.int L14, .int L147]) (rest := [.long z164]) X hD hN h rfl (c_M_toldCaster l G cI cB cZ cO ad wL149  ok156 L14 L147 (by omega) (by omega) ) ⟨kv_564, kv_565, kv_566, kv_470, kv_567⟩ rfl ⟨by decide, by decide, by decide⟩ ⟨Nat.le_of_ble_eq_true rfl, Nat.le_of_ble_eq_true rfl⟩ ⟨Nat.zero_le _, Nat.zero_le _⟩ (by decide) f179 rfl rfl hl.1 rfl (Nat.le_of_ble_eq_true rfl) dX9_digest_61 (fun r165 w166 H locs hp167 h => ?_)
                    obtain ⟨rfl, hr180⟩ := hp167
                    obtain ⟨z181, e182⟩ : ∃ z : Int64, r165.toInt64 = z := ⟨_, rfl⟩
                    have tz181 : z181.toInt = (r165).toInt := by rw [← e182]; exact Int32.toInt_toInt64 _
                    refine lv_i2l (v := z181) hx hb dX9_digest_64 e182 ?_
                    obtain ⟨z184, e183⟩ : ∃ z : Int64, z164 + z181 = z := ⟨_, rfl⟩
                    refine o_ladd (z := z184) hx hb dX9_digest_65 e183 ?_
                    refine lv_lstore_n (lv' := [(1, .long z184), (4, .int L147), (3, .int L14), (0, .ref (ad 64))]) hx hb dX9_digest_66 rfl hl (by decide) rfl (fun ls hl => ?_)
                    obtain ⟨z185, e186, t187⟩ := x_add (x := L147) (y := 1) (a := L147.toInt) (b := 1) rfl rfl (by omega) (by omega)
                    refine lv_iinc (v := z185) (lv' := [(4, .int z185), (1, .long z184), (3, .int L14), (0, .ref (ad 64))]) hx hb dX9_digest_67 hl (k := 1) rfl e186 (by decide) rfl (fun ls hl => ?_)
                    refine lv_goto (tgt := 46) hx hb dX9_digest_70 (by decide) ?_
                    exact ih152  z185 z184 wL149 _ _ _ (by omega) (by omega) ok156 kx157 (by omega) h (lv_sub hl [0, 2, 1, 3] rfl)
              exact hloop150 5 (0 : Int32) L15 wL16 _ _ _ (by have q0 : (0 : Int32).toInt = 0 := rfl; omega) (by have q0 : (0 : Int32).toInt = 0 := rfl; omega) ok23 kx24 (by have q0 : (0 : Int32).toInt = 0 := rfl; omega) h (lv_sub hl [0, 1, 2, 3] rfl)
        exact hloop17 8 (0 : Int32) L2 wL3 _ _ _ (by have q0 : (0 : Int32).toInt = 0 := rfl; omega) (by have q0 : (0 : Int32).toInt = 0 := rfl; omega) ok10 kx11 (by have q0 : (0 : Int32).toInt = 0 := rfl; omega) h (lv_sub hl [0, 1, 2] rfl)
      · have hc13 : ¬ 10 ≤ (L1).toInt := i_nle hc13 rfl rfl
        refine lv_ldc2 (v := 31) hx hb hown (hts _ kv_540) dX9_digest_12 ?_
        refine lv_lload_n hx hb dX9_digest_15 rfl (lv_at hl 1 rfl) ?_
        obtain ⟨z189, e188⟩ : ∃ z : Int64, (31 : Int64) * L2 = z := ⟨_, rfl⟩
        refine o_lmul (z := z189) hx hb dX9_digest_16 e188 ?_
        refine lv_aload_n hx hb dX9_digest_17 rfl (lv_at hl 2 rfl) ?_
        refine lv_iload_n hx hb dX9_digest_18 rfl (lv_at hl 0 rfl) ?_
        obtain ⟨x194, x195, t196, t197, t198, t199, t200, t201, f193, h202, h203⟩ := (show sM ad (wL3 64) from ok10 64 (by decide))
        have f204 : wL3 64 = .inr (7, [.ref (ad 65), .ref (ad 66), .ref (ad 67), .ref (ad 68), .long x194, .long x195, .ref (ad 69), .int t196, .ref (ad 70), .ref (ad 71), .int t197, .int t198, .int t199, .int t200, .int t201, .ref (ad 72), .ref (ad 73)]) := f193
        refine n_Vi (na := 1) (As := [.int L1]) (rest := [.long z189]) X hD hN h rfl (c_M_counted l G cI cB cZ cO ad wL3  ok10 L1  ) ⟨kv_622, kv_623, kv_624, kv_470, kv_625⟩ rfl ⟨by decide, by decide, by decide⟩ ⟨Nat.le_of_ble_eq_true rfl, Nat.le_of_ble_eq_true rfl⟩ ⟨Nat.zero_le _, Nat.zero_le _⟩ (by decide) f204 rfl rfl hl.1 rfl (Nat.le_of_ble_eq_true rfl) dX9_digest_19 (fun r190 w191 H locs hp192 h => ?_)
        obtain ⟨rfl, hr205⟩ := hp192
        obtain ⟨z206, e207⟩ : ∃ z : Int64, r190.toInt64 = z := ⟨_, rfl⟩
        have tz206 : z206.toInt = (r190).toInt := by rw [← e207]; exact Int32.toInt_toInt64 _
        refine lv_i2l (v := z206) hx hb dX9_digest_22 e207 ?_
        obtain ⟨z209, e208⟩ : ∃ z : Int64, z189 + z206 = z := ⟨_, rfl⟩
        refine o_ladd (z := z209) hx hb dX9_digest_23 e208 ?_
        refine lv_lstore_n (lv' := [(1, .long z209), (3, .int L1), (0, .ref (ad 64))]) hx hb dX9_digest_24 rfl hl (by decide) rfl (fun ls hl => ?_)
        obtain ⟨z210, e211, t212⟩ := x_add (x := L1) (y := 1) (a := L1.toInt) (b := 1) rfl rfl (by omega) (by omega)
        refine lv_iinc (v := z210) (lv' := [(3, .int z210), (1, .long z209), (0, .ref (ad 64))]) hx hb dX9_digest_25 hl (k := 1) rfl e211 (by decide) rfl (fun ls hl => ?_)
        refine lv_goto (tgt := 6) hx hb dX9_digest_28 (by decide) ?_
        exact ih6  z210 z209 wL3 _ _ _ (by omega) (by omega) ok10 kx11 (by omega) h (lv_sub hl [0, 1, 2] rfl)
  exact hloop4 11 (0 : Int32) (1879 : Int64) w _ _ _ (by have q0 : (0 : Int32).toInt = 0 := rfl; omega) (by have q0 : (0 : Int32).toInt = 0 := rfl; omega) ok KM.rf (by have q0 : (0 : Int32).toInt = 0 := rfl; omega) h (lv_sub hl [0, 1, 2] rfl)

