set_option maxHeartbeats 4000000 in
set_option maxRecDepth 100000 in
theorem c_F_spilt (l : Launch) (G : va_G) (cI cB cZ cO : ClassId) (ad : Nat → Nat) (w : Nat → va_E) (ho so mi ca ja : Int32) (ok : OK cI cB cZ cO ad w) (j : Int32) (n : Int32) (x : Int32) (u : Int32)  (n_1 : w 1 = .inr (1, [.int ho, .int so, .int mi, .int ca, .int ja, .ref (ad 2), .ref (ad 3), .ref (ad 4), .ref (ad 5), .ref (ad 6), .ref (ad 7), .ref (ad 8), .ref (ad 10), .ref (ad 12)])) (hja : 0 ≤ ja.toInt ∧ ja.toInt ≤ 4) (hca : 0 ≤ ca.toInt ∧ ca.toInt ≤ 7) : NI l G (tyq cI cB cZ cO) yX8_spilt cX8_spilt 5 (some .int) 5 118 74 ad w [.ref (ad 0), .int j, .int n, .int x, .int u] (fun r w1 => OK cI cB cZ cO ad w1 ∧ KX w w1 ∧ ((((0 ≤ j.toInt ∧ j.toInt < ja.toInt) ∧ (0 ≤ n.toInt ∧ n.toInt ≤ 4) ∧ (0 ≤ x.toInt ∧ x.toInt ≤ 60) ∧ (0 ≤ u.toInt ∧ u.toInt ≤ 10)) ∧ r = 1) ∨ (¬ ((0 ≤ j.toInt ∧ j.toInt < ja.toInt) ∧ (0 ≤ n.toInt ∧ n.toInt ≤ 4) ∧ (0 ≤ x.toInt ∧ x.toInt ≤ 60) ∧ (0 ≤ u.toInt ∧ u.toInt ≤ 10)) ∧ r = -2))) := by
  refine nk_i (own := "NoonShade") rfl (by decide) (Nat.le_of_ble_eq_true rfl) ?_
  intro p e s m below meth c ls X hD hN hr hlk h hl
  have hx := X.1.1
  have hb := X.1.2.1
  have hown := X.1.2.2.2.1
  have hts := X.1.2.2.2.2
  have hl : lv_has ls 5 [(0, .ref (ad 0)), (1, .int j), (2, .int n), (3, .int x), (4, .int u)] := hl
  refine lv_aload_n hx hb dX8_spilt_0 rfl (lv_at hl 0 rfl) ?_
  obtain ⟨x2, x3, q4, q5, q6, f1⟩ := (show sN ad (w 0) from ok 0 (by decide))
  have f7 : w 0 = .inr (6, [.ref (ad 1), .ref (ad 14), .ref (ad 27), .ref (ad 54), .ref (ad 55), .ref (ad 58), .ref (ad 62), .long x2, .long x3, .int q4, .int q5, .int q6]) := f1
  refine r_get kc8 X h 0 0 (by decide) rfl f7 (by decide) kv_172 rfl dX8_spilt_1 ?_
  refine lv_iload_n hx hb dX8_spilt_4 rfl (lv_at hl 1 rfl) ?_
  refine n_Vi (na := 1) (As := [.int j]) (rest := []) X hD hN h rfl (c_F1_hasJar l G cI cB cZ cO ad w ho so mi ca ja  j  n_1) ⟨kv_223, kv_224, kv_225, kv_37, kv_226⟩ rfl ⟨by decide, by decide, by decide⟩ ⟨Nat.le_of_ble_eq_true rfl, Nat.le_of_ble_eq_true rfl⟩ ⟨Nat.zero_le _, Nat.zero_le _⟩ (by decide) n_1 rfl rfl hl.1 rfl (Nat.le_of_ble_eq_true rfl) dX8_spilt_5 (fun r8 w9 H locs hp10 h => ?_)
  obtain ⟨rfl, hr11⟩ := hp10
  rcases hr11 with ⟨hq12, hq13, rfl⟩ | ⟨hq14, rfl⟩
  · refine lv_if_eq (tgt := 41) hx hb dX8_spilt_8 (by decide) (fun hc => absurd hc (by decide)) (fun _ => ?_)
    refine lv_iload_n hx hb dX8_spilt_11 rfl (lv_at hl 2 rfl) ?_
    refine lv_iconst (v := 0) hx hb dX8_spilt_12 (by decide) ?_
    refine lv_iconst (v := 4) hx hb dX8_spilt_13 (by decide) ?_
    refine n_Si (na := 3) (As := [.int n, .int 0, .int 4]) (rest := []) X hD hN h (c_within l G cI cB cZ cO ad w n (0 : Int32) (4 : Int32) ((n).toInt) 0 4 rfl rfl rfl) ⟨kv_247, kv_248, kv_212, kv_249⟩ ⟨by decide, by decide, by decide⟩ ⟨Nat.le_of_ble_eq_true rfl, Nat.le_of_ble_eq_true rfl⟩ ⟨Nat.zero_le _, Nat.zero_le _⟩ rfl hl.1 rfl (Nat.le_of_ble_eq_true rfl) dX8_spilt_14 (fun r15 w16 H locs hp17 h => ?_)
    obtain ⟨rfl, hq18⟩ := hp17
    rcases hq18 with ⟨hq19, hq20, rfl⟩ | ⟨hq18, rfl⟩
    · refine lv_if_eq (tgt := 41) hx hb dX8_spilt_17 (by decide) (fun hc => absurd hc (by decide)) (fun _ => ?_)
      refine lv_iload_n hx hb dX8_spilt_20 rfl (lv_at hl 3 rfl) ?_
      refine lv_iconst (v := 0) hx hb dX8_spilt_21 (by decide) ?_
      refine lv_bipush (v := 60) hx hb dX8_spilt_22 (by decide) ?_
      refine n_Si (na := 3) (As := [.int x, .int 0, .int 60]) (rest := []) X hD hN h (c_within l G cI cB cZ cO ad w x (0 : Int32) (60 : Int32) ((x).toInt) 0 60 rfl rfl rfl) ⟨kv_247, kv_248, kv_212, kv_249⟩ ⟨by decide, by decide, by decide⟩ ⟨Nat.le_of_ble_eq_true rfl, Nat.le_of_ble_eq_true rfl⟩ ⟨Nat.zero_le _, Nat.zero_le _⟩ rfl hl.1 rfl (Nat.le_of_ble_eq_true rfl) dX8_spilt_24 (fun r21 w22 H locs hp23 h => ?_)
      obtain ⟨rfl, hq24⟩ := hp23
      rcases hq24 with ⟨hq25, hq26, rfl⟩ | ⟨hq24, rfl⟩
      · refine lv_if_eq (tgt := 41) hx hb dX8_spilt_27 (by decide) (fun hc => absurd hc (by decide)) (fun _ => ?_)
        refine lv_iload hx hb dX8_spilt_30 (lv_at hl 4 rfl) ?_
        refine lv_iconst (v := 0) hx hb dX8_spilt_32 (by decide) ?_
        refine lv_bipush (v := 10) hx hb dX8_spilt_33 (by decide) ?_
        refine n_Si (na := 3) (As := [.int u, .int 0, .int 10]) (rest := []) X hD hN h (c_within l G cI cB cZ cO ad w u (0 : Int32) (10 : Int32) ((u).toInt) 0 10 rfl rfl rfl) ⟨kv_247, kv_248, kv_212, kv_249⟩ ⟨by decide, by decide, by decide⟩ ⟨Nat.le_of_ble_eq_true rfl, Nat.le_of_ble_eq_true rfl⟩ ⟨Nat.zero_le _, Nat.zero_le _⟩ rfl hl.1 rfl (Nat.le_of_ble_eq_true rfl) dX8_spilt_35 (fun r27 w28 H locs hp29 h => ?_)
        obtain ⟨rfl, hq30⟩ := hp29
        rcases hq30 with ⟨hq31, hq32, rfl⟩ | ⟨hq30, rfl⟩
        · refine lv_if_ne (tgt := 48) hx hb dX8_spilt_38 (by decide) (fun _ => ?_) (fun hc => absurd hc (by decide))
          refine lv_aload_n hx hb dX8_spilt_48 rfl (lv_at hl 0 rfl) ?_
          refine r_get kc8 X h 0 5 (by decide) rfl f7 (by decide) kv_265 rfl dX8_spilt_49 ?_
          refine lv_aload_n hx hb dX8_spilt_52 rfl (lv_at hl 0 rfl) ?_
          refine r_get kc8 X h 0 0 (by decide) rfl f7 (by decide) kv_172 rfl dX8_spilt_53 ?_
          refine lv_iload_n hx hb dX8_spilt_56 rfl (lv_at hl 1 rfl) ?_
          refine lv_iload_n hx hb dX8_spilt_57 rfl (lv_at hl 2 rfl) ?_
          obtain ⟨t37, t38, t39, f36, h40, h41, h42, h43⟩ := (show sL ad (w 58) from ok 58 (by decide))
          have f44 : w 58 = .inr (3, [.ref (ad 59), .ref (ad 60), .ref (ad 61), .int t37, .int t38, .int t39]) := f36
          refine n_Vv (na := 3) (As := [.ref (ad 1), .int j, .int n]) (rest := []) X hD hN h rfl (c_make l G cI cB cZ cO ad w  ok j n (by omega) (by omega) (by omega) (by omega) ) ⟨kv_266, kv_267, kv_268, kv_117, kv_269⟩ rfl ⟨by decide, by decide, by decide⟩ ⟨Nat.le_of_ble_eq_true rfl, Nat.le_of_ble_eq_true rfl⟩ ⟨Nat.zero_le _, Nat.zero_le _⟩ (by decide) f44 rfl rfl hl.1 rfl (Nat.le_of_ble_eq_true rfl) dX8_spilt_58 (fun w34 H locs hp35 h => ?_)
          obtain ⟨ok46, kk47, hr45⟩ := hp35
          have kx48 : KX w w34 := kk47
          refine lv_aload_n hx hb dX8_spilt_61 rfl (lv_at hl 0 rfl) ?_
          refine lv_aload_n hx hb dX8_spilt_62 rfl (lv_at hl 0 rfl) ?_
          obtain ⟨x50, x51, q52, q53, q54, f49⟩ := (show sN ad (w34 0) from ok46 0 (by decide))
          have f55 : w34 0 = .inr (6, [.ref (ad 1), .ref (ad 14), .ref (ad 27), .ref (ad 54), .ref (ad 55), .ref (ad 58), .ref (ad 62), .long x50, .long x51, .int q52, .int q53, .int q54]) := f49
          refine r_get kc8 X h 0 5 (by decide) rfl f55 (by decide) kv_265 rfl dX8_spilt_63 ?_
          refine lv_aload_n hx hb dX8_spilt_66 rfl (lv_at hl 0 rfl) ?_
          refine r_get kc8 X h 0 0 (by decide) rfl f55 (by decide) kv_172 rfl dX8_spilt_67 ?_
          refine lv_iload_n hx hb dX8_spilt_70 rfl (lv_at hl 1 rfl) ?_
          refine lv_iload_n hx hb dX8_spilt_71 rfl (lv_at hl 3 rfl) ?_
          refine lv_iload hx hb dX8_spilt_72 (lv_at hl 4 rfl) ?_
          obtain ⟨t60, t61, t62, f59, h63, h64, h65, h66⟩ := (show sL ad (w34 58) from ok46 58 (by decide))
          have f67 : w34 58 = .inr (3, [.ref (ad 59), .ref (ad 60), .ref (ad 61), .int t60, .int t61, .int t62]) := f59
          refine n_Vl (na := 4) (As := [.ref (ad 1), .int j, .int x, .int u]) (rest := [.ref (ad 0)]) X hD hN h rfl (c_waysToKeep l G cI cB cZ cO ad w34  ok46 j x u (by omega) (by omega) ) ⟨kv_293, kv_294, kv_295, kv_117, kv_296⟩ rfl ⟨by decide, by decide, by decide⟩ ⟨Nat.le_of_ble_eq_true rfl, Nat.le_of_ble_eq_true rfl⟩ ⟨Nat.zero_le _, Nat.zero_le _⟩ (by decide) f67 rfl rfl hl.1 rfl (Nat.le_of_ble_eq_true rfl) dX8_spilt_74 (fun r56 w57 H locs hp58 h => ?_)
          obtain ⟨rfl, hr68⟩ := hp58
          refine lv_aload_n hx hb dX8_spilt_77 rfl (lv_at hl 0 rfl) ?_
          refine r_get kc8 X h 0 5 (by decide) rfl f55 (by decide) kv_265 rfl dX8_spilt_78 ?_
          refine n_Vl (na := 0) (As := []) (rest := [.long r56, .ref (ad 0)]) X hD hN h rfl (c_waysInAll l G cI cB cZ cO ad w34  ok46   ) ⟨kv_297, kv_298, kv_299, kv_117, kv_300⟩ rfl ⟨by decide, by decide, by decide⟩ ⟨Nat.le_of_ble_eq_true rfl, Nat.le_of_ble_eq_true rfl⟩ ⟨Nat.zero_le _, Nat.zero_le _⟩ (by decide) f67 rfl rfl hl.1 rfl (Nat.le_of_ble_eq_true rfl) dX8_spilt_81 (fun r69 w70 H locs hp71 h => ?_)
          obtain ⟨rfl, hr72⟩ := hp71
          refine n_Vv (na := 2) (As := [.long r56, .long r69]) (rest := []) X hD hN h rfl (c_setFraction l G cI cB cZ cO ad w34  ok46 r56 r69  ) ⟨kv_301, kv_302, kv_303, kv_212, kv_304⟩ rfl ⟨by decide, by decide, by decide⟩ ⟨Nat.le_of_ble_eq_true rfl, Nat.le_of_ble_eq_true rfl⟩ ⟨Nat.zero_le _, Nat.zero_le _⟩ (by decide) f55 rfl rfl hl.1 rfl (Nat.le_of_ble_eq_true rfl) dX8_spilt_84 (fun w74 H locs hp75 h => ?_)
          obtain ⟨ok77, kk78, hr76⟩ := hp75
          have kx79 : KX w w74 := KX.tr kx48 kk78
          refine lv_iconst (v := 1) hx hb dX8_spilt_87 (by decide) ?_
          exact e_i X h hr hlk dX8_spilt_88 ⟨ok77, kx79, Or.inl ⟨by omega, rfl⟩⟩
        · refine lv_if_ne (tgt := 48) hx hb dX8_spilt_38 (by decide) (fun hc => absurd (by decide) hc) (fun _ => ?_)
          refine lv_aload_n hx hb dX8_spilt_41 rfl (lv_at hl 0 rfl) ?_
          refine lv_bipush (v := (-2)) hx hb dX8_spilt_42 (by decide) ?_
          refine n_Vi (na := 1) (As := [.int (-2)]) (rest := []) X hD hN h rfl (c_refused l G cI cB cZ cO ad w  ok ((-2) : Int32)  ) ⟨kv_227, kv_228, kv_229, kv_212, kv_230⟩ rfl ⟨by decide, by decide, by decide⟩ ⟨Nat.le_of_ble_eq_true rfl, Nat.le_of_ble_eq_true rfl⟩ ⟨Nat.zero_le _, Nat.zero_le _⟩ (by decide) f7 rfl rfl hl.1 rfl (Nat.le_of_ble_eq_true rfl) dX8_spilt_44 (fun r80 w81 H locs hp82 h => ?_)
          obtain ⟨ok85, kk86, hr84⟩ := hp82
          have kx87 : KX w w81 := kk86
          subst hr84
          exact e_i X h hr hlk dX8_spilt_47 ⟨ok85, kx87, Or.inr ⟨by omega, rfl⟩⟩
      · refine lv_if_eq (tgt := 41) hx hb dX8_spilt_27 (by decide) (fun _ => ?_) (fun hc => absurd (by decide) hc)
        refine lv_aload_n hx hb dX8_spilt_41 rfl (lv_at hl 0 rfl) ?_
        refine lv_bipush (v := (-2)) hx hb dX8_spilt_42 (by decide) ?_
        refine n_Vi (na := 1) (As := [.int (-2)]) (rest := []) X hD hN h rfl (c_refused l G cI cB cZ cO ad w  ok ((-2) : Int32)  ) ⟨kv_227, kv_228, kv_229, kv_212, kv_230⟩ rfl ⟨by decide, by decide, by decide⟩ ⟨Nat.le_of_ble_eq_true rfl, Nat.le_of_ble_eq_true rfl⟩ ⟨Nat.zero_le _, Nat.zero_le _⟩ (by decide) f7 rfl rfl hl.1 rfl (Nat.le_of_ble_eq_true rfl) dX8_spilt_44 (fun r88 w89 H locs hp90 h => ?_)
        obtain ⟨ok93, kk94, hr92⟩ := hp90
        have kx95 : KX w w89 := kk94
        subst hr92
        exact e_i X h hr hlk dX8_spilt_47 ⟨ok93, kx95, Or.inr ⟨by omega, rfl⟩⟩
    · refine lv_if_eq (tgt := 41) hx hb dX8_spilt_17 (by decide) (fun _ => ?_) (fun hc => absurd (by decide) hc)
      refine lv_aload_n hx hb dX8_spilt_41 rfl (lv_at hl 0 rfl) ?_
      refine lv_bipush (v := (-2)) hx hb dX8_spilt_42 (by decide) ?_
      refine n_Vi (na := 1) (As := [.int (-2)]) (rest := []) X hD hN h rfl (c_refused l G cI cB cZ cO ad w  ok ((-2) : Int32)  ) ⟨kv_227, kv_228, kv_229, kv_212, kv_230⟩ rfl ⟨by decide, by decide, by decide⟩ ⟨Nat.le_of_ble_eq_true rfl, Nat.le_of_ble_eq_true rfl⟩ ⟨Nat.zero_le _, Nat.zero_le _⟩ (by decide) f7 rfl rfl hl.1 rfl (Nat.le_of_ble_eq_true rfl) dX8_spilt_44 (fun r96 w97 H locs hp98 h => ?_)
      obtain ⟨ok101, kk102, hr100⟩ := hp98
      have kx103 : KX w w97 := kk102
      subst hr100
      exact e_i X h hr hlk dX8_spilt_47 ⟨ok101, kx103, Or.inr ⟨by omega, rfl⟩⟩
  · refine lv_if_eq (tgt := 41) hx hb dX8_spilt_8 (by decide) (fun _ => ?_) (fun hc => absurd (by decide) hc)
    refine lv_aload_n hx hb dX8_spilt_41 rfl (lv_at hl 0 rfl) ?_
    refine lv_bipush (v := (-2)) hx hb dX8_spilt_42 (by decide) ?_
    refine n_Vi (na := 1) (As := [.int (-2)]) (rest := []) X hD hN h rfl (c_refused l G cI cB cZ cO ad w  ok ((-2) : Int32)  ) ⟨kv_227, kv_228, kv_229, kv_212, kv_230⟩ rfl ⟨by decide, by decide, by decide⟩ ⟨Nat.le_of_ble_eq_true rfl, Nat.le_of_ble_eq_true rfl⟩ ⟨Nat.zero_le _, Nat.zero_le _⟩ (by decide) f7 rfl rfl hl.1 rfl (Nat.le_of_ble_eq_true rfl) dX8_spilt_44 (fun r104 w105 H locs hp106 h => ?_)
    obtain ⟨ok109, kk110, hr108⟩ := hp106
    have kx111 : KX w w105 := kk110
    subst hr108
    exact e_i X h hr hlk dX8_spilt_47 ⟨ok109, kx111, Or.inr ⟨by omega, rfl⟩⟩

set_option maxHeartbeats 4000000 in
set_option maxRecDepth 100000 in
theorem c_MF_spilt (l : Launch) (G : va_G) (cI cB cZ cO : ClassId) (ad : Nat → Nat) (w : Nat → va_E) (f : Nat → Int32) (ok : OK cI cB cZ cO ad w) (j : Int32) (n : Int32) (x : Int32) (u : Int32)  (pf : w 65 = .inl (cI, 177, .inl f)) (pal : alA f) : NI l G (tyq cI cB cZ cO) yX9_spilt cX9_spilt 14 (some .int) 4 97 74 ad w [.ref (ad 64), .int j, .int n, .int x, .int u] (fun r w1 => OK cI cB cZ cO ad w1 ∧ KM w w1 ∧ ((((0 ≤ j.toInt ∧ j.toInt < (f 1).toInt) ∧ (0 ≤ n.toInt ∧ n.toInt ≤ 4) ∧ (0 ≤ x.toInt ∧ x.toInt ≤ 60) ∧ (0 ≤ u.toInt ∧ u.toInt ≤ 10)) ∧ r = 1) ∨ (¬ ((0 ≤ j.toInt ∧ j.toInt < (f 1).toInt) ∧ (0 ≤ n.toInt ∧ n.toInt ≤ 4) ∧ (0 ≤ x.toInt ∧ x.toInt ≤ 60) ∧ (0 ≤ u.toInt ∧ u.toInt ≤ 10)) ∧ r = -2))) := by
  refine nk_i (own := "NoonShadeModel") rfl (by decide) (Nat.le_of_ble_eq_true rfl) ?_
  intro p e s m below meth c ls X hD hN hr hlk h hl
  have hx := X.1.1
  have hb := X.1.2.1
  have hown := X.1.2.2.2.1
  have hts := X.1.2.2.2.2
  have hl : lv_has ls 14 [(0, .ref (ad 64)), (1, .int j), (2, .int n), (3, .int x), (4, .int u)] := hl
  obtain ⟨v1, ev1⟩ : ∃ z : Int32, f 1 = z := ⟨_, rfl⟩
  have hv1 := (alA_rd pal ev1).2.1 rfl
  have hw1 := congrArg Int32.toInt ev1
  refine lv_aload_n hx hb dX9_spilt_0 rfl (lv_at hl 0 rfl) ?_
  refine lv_iload_n hx hb dX9_spilt_1 rfl (lv_at hl 1 rfl) ?_
  obtain ⟨x5, x6, t7, t8, t9, t10, t11, t12, f4, h13, h14⟩ := (show sM ad (w 64) from ok 64 (by decide))
  have f15 : w 64 = .inr (7, [.ref (ad 65), .ref (ad 66), .ref (ad 67), .ref (ad 68), .long x5, .long x6, .ref (ad 69), .int t7, .ref (ad 70), .ref (ad 71), .int t8, .int t9, .int t10, .int t11, .int t12, .ref (ad 72), .ref (ad 73)]) := f4
  refine n_Vi (na := 1) (As := [.int j]) (rest := []) X hD hN h rfl (c_MF_isJar l G cI cB cZ cO ad w f ok j  pf pal) ⟨kv_541, kv_542, kv_543, kv_470, kv_544⟩ rfl ⟨by decide, by decide, by decide⟩ ⟨Nat.le_of_ble_eq_true rfl, Nat.le_of_ble_eq_true rfl⟩ ⟨Nat.zero_le _, Nat.zero_le _⟩ (by decide) f15 rfl rfl hl.1 rfl (Nat.le_of_ble_eq_true rfl) dX9_spilt_2 (fun r1 w2 H locs hp3 h => ?_)
  obtain ⟨rfl, hr16⟩ := hp3
  rcases hr16 with ⟨hq17, hq18, rfl⟩ | ⟨hq19, rfl⟩
  · refine lv_if_eq (tgt := 40) hx hb dX9_spilt_5 (by decide) (fun hc => absurd hc (by decide)) (fun _ => ?_)
    refine lv_iload_n hx hb dX9_spilt_8 rfl (lv_at hl 2 rfl) ?_
    obtain ⟨z20, e21⟩ : ∃ z : Int64, n.toInt64 = z := ⟨_, rfl⟩
    have tz20 : z20.toInt = (n).toInt := by rw [← e21]; exact Int32.toInt_toInt64 _
    refine lv_i2l (v := z20) hx hb dX9_spilt_9 e21 ?_
    refine lv_lconst (v := 0) hx hb dX9_spilt_10 (by decide) ?_
    refine lv_ldc2 (v := 4) hx hb hown (hts _ kv_563) dX9_spilt_11 ?_
    refine n_Si (na := 3) (As := [.long z20, .long 0, .long 4]) (rest := []) X hD hN h (c_M_in l G cI cB cZ cO ad w z20 (0 : Int64) (4 : Int64) ((n).toInt) 0 4 tz20 rfl rfl) ⟨kv_468, kv_469, kv_470, kv_471⟩ ⟨by decide, by decide, by decide⟩ ⟨Nat.le_of_ble_eq_true rfl, Nat.le_of_ble_eq_true rfl⟩ ⟨Nat.zero_le _, Nat.zero_le _⟩ rfl hl.1 rfl (Nat.le_of_ble_eq_true rfl) dX9_spilt_14 (fun r22 w23 H locs hp24 h => ?_)
    obtain ⟨rfl, hq25⟩ := hp24
    rcases hq25 with ⟨hq26, hq27, rfl⟩ | ⟨hq25, rfl⟩
    · refine lv_if_eq (tgt := 40) hx hb dX9_spilt_17 (by decide) (fun hc => absurd hc (by decide)) (fun _ => ?_)
      refine lv_iload_n hx hb dX9_spilt_20 rfl (lv_at hl 3 rfl) ?_
      refine n_Si (na := 1) (As := [.int x]) (rest := []) X hD hN h (c_M_isCool l G cI cB cZ cO ad w   x  ) ⟨kv_605, kv_606, kv_470, kv_607⟩ ⟨by decide, by decide, by decide⟩ ⟨Nat.le_of_ble_eq_true rfl, Nat.le_of_ble_eq_true rfl⟩ ⟨Nat.zero_le _, Nat.zero_le _⟩ rfl hl.1 rfl (Nat.le_of_ble_eq_true rfl) dX9_spilt_21 (fun r28 w29 H locs hp30 h => ?_)
      obtain ⟨rfl, hr31⟩ := hp30
      rcases hr31 with ⟨hq32, hq33, rfl⟩ | ⟨hq34, rfl⟩
      · refine lv_if_eq (tgt := 40) hx hb dX9_spilt_24 (by decide) (fun hc => absurd hc (by decide)) (fun _ => ?_)
        refine lv_iload hx hb dX9_spilt_27 (lv_at hl 4 rfl) ?_
        obtain ⟨z35, e36⟩ : ∃ z : Int64, u.toInt64 = z := ⟨_, rfl⟩
        have tz35 : z35.toInt = (u).toInt := by rw [← e36]; exact Int32.toInt_toInt64 _
        refine lv_i2l (v := z35) hx hb dX9_spilt_29 e36 ?_
        refine lv_lconst (v := 0) hx hb dX9_spilt_30 (by decide) ?_
        refine lv_ldc2 (v := 10) hx hb hown (hts _ kv_608) dX9_spilt_31 ?_
        refine n_Si (na := 3) (As := [.long z35, .long 0, .long 10]) (rest := []) X hD hN h (c_M_in l G cI cB cZ cO ad w z35 (0 : Int64) (10 : Int64) ((u).toInt) 0 10 tz35 rfl rfl) ⟨kv_468, kv_469, kv_470, kv_471⟩ ⟨by decide, by decide, by decide⟩ ⟨Nat.le_of_ble_eq_true rfl, Nat.le_of_ble_eq_true rfl⟩ ⟨Nat.zero_le _, Nat.zero_le _⟩ rfl hl.1 rfl (Nat.le_of_ble_eq_true rfl) dX9_spilt_34 (fun r37 w38 H locs hp39 h => ?_)
        obtain ⟨rfl, hq40⟩ := hp39
        rcases hq40 with ⟨hq41, hq42, rfl⟩ | ⟨hq40, rfl⟩
        · refine lv_if_ne (tgt := 47) hx hb dX9_spilt_37 (by decide) (fun _ => ?_) (fun hc => absurd hc (by decide))
          refine lv_aload_n hx hb dX9_spilt_47 rfl (lv_at hl 0 rfl) ?_
          refine lv_iload_n hx hb dX9_spilt_48 rfl (lv_at hl 1 rfl) ?_
          refine lv_iload_n hx hb dX9_spilt_49 rfl (lv_at hl 2 rfl) ?_
          refine n_Vi (na := 2) (As := [.int j, .int n]) (rest := []) X hD hN h rfl (c_M_bestRow l G cI cB cZ cO ad w  ok j n (by omega) (by omega) (by omega) (by omega) ) ⟨kv_572, kv_573, kv_574, kv_470, kv_575⟩ rfl ⟨by decide, by decide, by decide⟩ ⟨Nat.le_of_ble_eq_true rfl, Nat.le_of_ble_eq_true rfl⟩ ⟨Nat.zero_le _, Nat.zero_le _⟩ (by decide) f15 rfl rfl hl.1 rfl (Nat.le_of_ble_eq_true rfl) dX9_spilt_50 (fun r43 w44 H locs hp45 h => ?_)
          obtain ⟨ok47, kk48, hr46⟩ := hp45
          have kx49 : KM w w44 := kk48
          obtain ⟨h50, h51⟩ := hr46
          refine lv_istore (lv' := [(5, .int r43), (0, .ref (ad 64)), (1, .int j), (2, .int n), (3, .int x), (4, .int u)]) hx hb dX9_spilt_53 hl (by decide) rfl (fun ls hl => ?_)
          refine lv_lconst (v := 0) hx hb dX9_spilt_55 (by decide) ?_
          refine lv_lstore (lv' := [(6, .long 0), (5, .int r43), (0, .ref (ad 64)), (1, .int j), (2, .int n), (3, .int x), (4, .int u)]) hx hb dX9_spilt_56 hl (by decide) rfl (fun ls hl => ?_)
          refine lv_iconst (v := 0) hx hb dX9_spilt_58 (by decide) ?_
          refine lv_istore (lv' := [(8, .int 0), (6, .long 0), (5, .int r43), (0, .ref (ad 64)), (1, .int j), (2, .int n), (3, .int x), (4, .int u)]) hx hb dX9_spilt_59 hl (by decide) rfl (fun ls hl => ?_)
          have hloop55 : ∀ (d56 : Nat) (L52 : Int32) (L53 : Int64) (wL54 : Nat → va_E) (H : Heap) (locs : List Loc) (ls : Array Slot), 0 ≤ L52.toInt → L52.toInt ≤ 128 → OK cI cB cZ cO ad wL54 → KM w wL54 → 128 - L52.toInt < (d56 : Int) → St G 74 ad (wA 74 ad s.heap.size) s.heap wL54 H locs → lv_has ls 14 [(8, .int L52), (6, .long L53), (5, .int r43), (0, .ref (ad 64)), (1, .int j), (2, .int n), (3, .int x), (4, .int u)] → W p l e { frames := 4, cells := 0, slots := 0, locals := 97 } s m [.ref (ad 64), .int j, .int n, .int x, .int u].toArray below meth c H locs 0 0 (MQ below (va_Qi (fun r w1 => OK cI cB cZ cO ad w1 ∧ KM w w1 ∧ ((((0 ≤ j.toInt ∧ j.toInt < (f 1).toInt) ∧ (0 ≤ n.toInt ∧ n.toInt ≤ 4) ∧ (0 ≤ x.toInt ∧ x.toInt ≤ 60) ∧ (0 ≤ u.toInt ∧ u.toInt ≤ 10)) ∧ r = 1) ∨ (¬ ((0 ≤ j.toInt ∧ j.toInt < (f 1).toInt) ∧ (0 ≤ n.toInt ∧ n.toInt ≤ 4) ∧ (0 ≤ x.toInt ∧ x.toInt ≤ 60) ∧ (0 ≤ u.toInt ∧ u.toInt ≤ 10)) ∧ r = -2))) (Aft G 74 ad) (wA 74 ad s.heap.size)) [.ref (ad 64), .int j, .int n, .int x, .int u].toArray s 0 0 (wA 74 ad s.heap.size)) (F0 m 61 ls []) := by
            intro d56
            induction d56 with
            | zero => intro L52 L53 wL54 H locs ls hi59 hi60 ok61 kx62 hm58 h hl; exfalso; omega
            | succ d56 ih57 =>
              intro L52 L53 wL54 H locs ls hi59 hi60 ok61 kx62 hm58 h hl
              refine lv_iload hx hb dX9_spilt_61 (lv_at hl 0 rfl) ?_
              refine lv_iconst (v := 1) hx hb dX9_spilt_63 (by decide) ?_
              refine lv_iload_n hx hb dX9_spilt_64 rfl (lv_at hl 5 rfl) ?_
              obtain ⟨z66, e64, t65, t65b⟩ := x_shl7 (i := n) (by omega) (by omega)
              refine o_ishl (z := z66) hx hb dX9_spilt_65 e64 ?_
              refine lv_icmp_ge (tgt := 199) hx hb dX9_spilt_66 (by decide) (fun hc67 => ?_) (fun hc67 => ?_)
              · have hc67 : (z66).toInt ≤ (L52).toInt := i_le hc67 rfl rfl
                refine lv_aload_n hx hb dX9_spilt_199 rfl (lv_at hl 3 rfl) ?_
                refine lv_lload hx hb dX9_spilt_200 (lv_at hl 1 rfl) ?_
                refine lv_bipush (v := 10) hx hb dX9_spilt_202 (by decide) ?_
                refine lv_iload_n hx hb dX9_spilt_204 rfl (lv_at hl 5 rfl) ?_
                refine n_Si (na := 2) (As := [.int 10, .int n]) (rest := [.long L53, .ref (ad 64)]) X hD hN h (c_M_power l G cI cB cZ cO ad wL54 (10 : Int32) n (by decide) (by decide) (by omega) (by omega)) ⟨kv_499, kv_500, kv_470, kv_501⟩ ⟨by decide, by decide, by decide⟩ ⟨Nat.le_of_ble_eq_true rfl, Nat.le_of_ble_eq_true rfl⟩ ⟨Nat.zero_le _, Nat.zero_le _⟩ rfl hl.1 rfl (Nat.le_of_ble_eq_true rfl) dX9_spilt_205 (fun r68 w69 H locs hp70 h => ?_)
                obtain ⟨rfl, hr71⟩ := hp70
                obtain ⟨h72, h73⟩ := hr71
                obtain ⟨z74, e75⟩ : ∃ z : Int64, r68.toInt64 = z := ⟨_, rfl⟩
                have tz74 : z74.toInt = (r68).toInt := by rw [← e75]; exact Int32.toInt_toInt64 _
                refine lv_i2l (v := z74) hx hb dX9_spilt_208 e75 ?_
                obtain ⟨x80, x81, t82, t83, t84, t85, t86, t87, f79, h88, h89⟩ := (show sM ad (wL54 64) from ok61 64 (by decide))
                have f90 : wL54 64 = .inr (7, [.ref (ad 65), .ref (ad 66), .ref (ad 67), .ref (ad 68), .long x80, .long x81, .ref (ad 69), .int t82, .ref (ad 70), .ref (ad 71), .int t83, .int t84, .int t85, .int t86, .int t87, .ref (ad 72), .ref (ad 73)]) := f79
                refine n_Vv (na := 2) (As := [.long L53, .long z74]) (rest := []) X hD hN h rfl (c_M_fraction l G cI cB cZ cO ad wL54 ok61 L53 z74 (by rw [tz74]; omega)) ⟨kv_609, kv_610, kv_611, kv_470, kv_612⟩ rfl ⟨by decide, by decide, by decide⟩ ⟨Nat.le_of_ble_eq_true rfl, Nat.le_of_ble_eq_true rfl⟩ ⟨Nat.zero_le _, Nat.zero_le _⟩ (by decide) f90 rfl rfl hl.1 rfl (Nat.le_of_ble_eq_true rfl) dX9_spilt_209 (fun w77 H locs hp78 h => ?_)
                obtain ⟨ok91, kk92, hr93⟩ := hp78
                have kx94 : KM w w77 := KM.tr kx62 kk92
                refine lv_iconst (v := 1) hx hb dX9_spilt_212 (by decide) ?_
                exact e_i X h hr hlk dX9_spilt_213 ⟨ok91, kx94, Or.inl ⟨by omega, rfl⟩⟩
              · have hc67 : ¬ (z66).toInt ≤ (L52).toInt := i_nle hc67 rfl rfl
                refine lv_lconst (v := 1) hx hb dX9_spilt_69 (by decide) ?_
                refine lv_lstore (lv' := [(9, .long 1), (8, .int L52), (6, .long L53), (5, .int r43), (0, .ref (ad 64)), (1, .int j), (2, .int n), (3, .int x), (4, .int u)]) hx hb dX9_spilt_70 hl (by decide) rfl (fun ls hl => ?_)
                refine lv_aload_n hx hb dX9_spilt_72 rfl (lv_at hl 4 rfl) ?_
                obtain ⟨x99, x100, t101, t102, t103, t104, t105, t106, f98, h107, h108⟩ := (show sM ad (wL54 64) from ok61 64 (by decide))
                have f109 : wL54 64 = .inr (7, [.ref (ad 65), .ref (ad 66), .ref (ad 67), .ref (ad 68), .long x99, .long x100, .ref (ad 69), .int t101, .ref (ad 70), .ref (ad 71), .int t102, .int t103, .int t104, .int t105, .int t106, .ref (ad 72), .ref (ad 73)]) := f98
                refine n_Vv (na := 0) (As := []) (rest := []) X hD hN h rfl (c_M_layHand l G cI cB cZ cO ad wL54  ok61   ) ⟨kv_503, kv_504, kv_505, kv_470, kv_506⟩ rfl ⟨by decide, by decide, by decide⟩ ⟨Nat.le_of_ble_eq_true rfl, Nat.le_of_ble_eq_true rfl⟩ ⟨Nat.zero_le _, Nat.zero_le _⟩ (by decide) f109 rfl rfl hl.1 rfl (Nat.le_of_ble_eq_true rfl) dX9_spilt_73 (fun w96 H locs hp97 h => ?_)
                obtain ⟨ok111, kk112, hr110⟩ := hp97
                have kx113 : KM w w96 := KM.tr kx62 kk112
                refine lv_iconst (v := 0) hx hb dX9_spilt_76 (by decide) ?_
                refine lv_istore (lv' := [(11, .int 0), (9, .long 1), (8, .int L52), (6, .long L53), (5, .int r43), (0, .ref (ad 64)), (1, .int j), (2, .int n), (3, .int x), (4, .int u)]) hx hb dX9_spilt_77 hl (by decide) rfl (fun ls hl => ?_)
                have hloop117 : ∀ (d118 : Nat) (L114 : Int32) (L115 : Int64) (wL116 : Nat → va_E) (H : Heap) (locs : List Loc) (ls : Array Slot), 0 ≤ L114.toInt → L114.toInt ≤ 4 → OK cI cB cZ cO ad wL116 → KM w wL116 → 4 - L114.toInt < (d118 : Int) → St G 74 ad (wA 74 ad s.heap.size) s.heap wL116 H locs → lv_has ls 14 [(11, .int L114), (9, .long L115), (8, .int L52), (6, .long L53), (5, .int r43), (0, .ref (ad 64)), (1, .int j), (2, .int n), (3, .int x), (4, .int u)] → W p l e { frames := 4, cells := 0, slots := 0, locals := 97 } s m [.ref (ad 64), .int j, .int n, .int x, .int u].toArray below meth c H locs 0 0 (MQ below (va_Qi (fun r w1 => OK cI cB cZ cO ad w1 ∧ KM w w1 ∧ ((((0 ≤ j.toInt ∧ j.toInt < (f 1).toInt) ∧ (0 ≤ n.toInt ∧ n.toInt ≤ 4) ∧ (0 ≤ x.toInt ∧ x.toInt ≤ 60) ∧ (0 ≤ u.toInt ∧ u.toInt ≤ 10)) ∧ r = 1) ∨ (¬ ((0 ≤ j.toInt ∧ j.toInt < (f 1).toInt) ∧ (0 ≤ n.toInt ∧ n.toInt ≤ 4) ∧ (0 ≤ x.toInt ∧ x.toInt ≤ 60) ∧ (0 ≤ u.toInt ∧ u.toInt ≤ 10)) ∧ r = -2))) (Aft G 74 ad) (wA 74 ad s.heap.size)) [.ref (ad 64), .int j, .int n, .int x, .int u].toArray s 0 0 (wA 74 ad s.heap.size)) (F0 m 79 ls []) := by
                  intro d118
                  induction d118 with
                  | zero => intro L114 L115 wL116 H locs ls hi121 hi122 ok123 kx124 hm120 h hl; exfalso; omega
                  | succ d118 ih119 =>
                    intro L114 L115 wL116 H locs ls hi121 hi122 ok123 kx124 hm120 h hl
                    refine lv_iload hx hb dX9_spilt_79 (lv_at hl 0 rfl) ?_
                    refine lv_iload_n hx hb dX9_spilt_81 rfl (lv_at hl 7 rfl) ?_
                    refine lv_icmp_ge (tgt := 169) hx hb dX9_spilt_82 (by decide) (fun hc126 => ?_) (fun hc126 => ?_)
                    · have hc126 : (n).toInt ≤ (L114).toInt := i_le hc126 rfl rfl
                      refine lv_lload hx hb dX9_spilt_169 (lv_at hl 3 rfl) ?_
                      refine lv_aload_n hx hb dX9_spilt_171 rfl (lv_at hl 5 rfl) ?_
                      obtain ⟨x128, x129, t130, t131, t132, t133, t134, t135, f127, h136, h137⟩ := (show sM ad (wL116 64) from ok123 64 (by decide))
                      have f138 : wL116 64 = .inr (7, [.ref (ad 65), .ref (ad 66), .ref (ad 67), .ref (ad 68), .long x128, .long x129, .ref (ad 69), .int t130, .ref (ad 70), .ref (ad 71), .int t131, .int t132, .int t133, .int t134, .int t135, .ref (ad 72), .ref (ad 73)]) := f127
                      refine r_get kc9 X h 64 6 (by decide) rfl f138 (by decide) kv_495 rfl dX9_spilt_172 ?_
                      refine lv_bipush (v := 8) hx hb dX9_spilt_175 (by decide) ?_
                      refine lv_iload_n hx hb dX9_spilt_177 rfl (lv_at hl 6 rfl) ?_
                      obtain ⟨z141, e139, t140⟩ := x_add (x := (8 : Int32)) (y := j) (a := 8) (b := (j).toInt) rfl rfl (by omega) (by omega)
                      refine o_iadd (z := z141) hx hb dX9_spilt_178 e139 ?_
                      obtain ⟨g143, f142, p144⟩ := (show sA cI 41 (alA) (wL116 69) from ok123 69 (by decide))
                      have f145 : wL116 69 = .inl (cI, 41, .inl g143) := f142
                      obtain ⟨v146, e147⟩ : ∃ z : Int32, g143 (z141).toNatClampNeg = z := ⟨_, rfl⟩
                      refine o_iald (v := v146) X h 69 0 (by decide) rfl f145 rfl (in_of (by omega) (by omega)) e147 dX9_spilt_179 ?_
                      refine lv_iload_n hx hb dX9_spilt_180 rfl (lv_at hl 8 rfl) ?_
                      refine lv_icmp_lt (tgt := 189) hx hb dX9_spilt_181 (by decide) (fun hc149 => ?_) (fun hc149 => ?_)
                      · have hc149 : (v146).toInt < (x).toInt := i_lt hc149 rfl rfl
                        refine lv_lconst (v := 0) hx hb dX9_spilt_189 (by decide) ?_
                        obtain ⟨z151, e150⟩ : ∃ z : Int64, L53 + (0 : Int64) = z := ⟨_, rfl⟩
                        refine o_ladd (z := z151) hx hb dX9_spilt_190 e150 ?_
                        refine lv_lstore (lv' := [(6, .long z151), (11, .int L114), (9, .long L115), (8, .int L52), (5, .int r43), (0, .ref (ad 64)), (1, .int j), (2, .int n), (3, .int x), (4, .int u)]) hx hb dX9_spilt_191 hl (by decide) rfl (fun ls hl => ?_)
                        obtain ⟨z152, e153, t154⟩ := x_add (x := L52) (y := 1) (a := L52.toInt) (b := 1) rfl rfl (by omega) (by omega)
                        refine lv_iinc (v := z152) (lv' := [(8, .int z152), (6, .long z151), (11, .int L114), (9, .long L115), (5, .int r43), (0, .ref (ad 64)), (1, .int j), (2, .int n), (3, .int x), (4, .int u)]) hx hb dX9_spilt_193 hl (k := 3) rfl e153 (by decide) rfl (fun ls hl => ?_)
                        refine lv_goto (tgt := 61) hx hb dX9_spilt_196 (by decide) ?_
                        exact ih57  z152 z151 wL116 _ _ _ (by omega) (by omega) ok123 kx124 (by omega) h (lv_sub hl [0, 1, 4, 5, 6, 7, 8, 9] rfl)
                      · have hc149 : ¬ (v146).toInt < (x).toInt := i_nlt hc149 rfl rfl
                        refine lv_lload hx hb dX9_spilt_184 (lv_at hl 1 rfl) ?_
                        refine lv_goto (tgt := 190) hx hb dX9_spilt_186 (by decide) ?_
                        obtain ⟨z156, e155⟩ : ∃ z : Int64, L53 + L115 = z := ⟨_, rfl⟩
                        refine o_ladd (z := z156) hx hb dX9_spilt_190 e155 ?_
                        refine lv_lstore (lv' := [(6, .long z156), (11, .int L114), (9, .long L115), (8, .int L52), (5, .int r43), (0, .ref (ad 64)), (1, .int j), (2, .int n), (3, .int x), (4, .int u)]) hx hb dX9_spilt_191 hl (by decide) rfl (fun ls hl => ?_)
                        obtain ⟨z157, e158, t159⟩ := x_add (x := L52) (y := 1) (a := L52.toInt) (b := 1) rfl rfl (by omega) (by omega)
                        refine lv_iinc (v := z157) (lv' := [(8, .int z157), (6, .long z156), (11, .int L114), (9, .long L115), (5, .int r43), (0, .ref (ad 64)), (1, .int j), (2, .int n), (3, .int x), (4, .int u)]) hx hb dX9_spilt_193 hl (k := 3) rfl e158 (by decide) rfl (fun ls hl => ?_)
                        refine lv_goto (tgt := 61) hx hb dX9_spilt_196 (by decide) ?_
                        exact ih57  z157 z156 wL116 _ _ _ (by omega) (by omega) ok123 kx124 (by omega) h (lv_sub hl [0, 1, 4, 5, 6, 7, 8, 9] rfl)
                    · have hc126 : ¬ (n).toInt ≤ (L114).toInt := i_nle hc126 rfl rfl
                      refine lv_aload_n hx hb dX9_spilt_85 rfl (lv_at hl 5 rfl) ?_
                      refine lv_iload hx hb dX9_spilt_86 (lv_at hl 4 rfl) ?_
                      refine lv_iload_n hx hb dX9_spilt_88 rfl (lv_at hl 7 rfl) ?_
                      refine lv_iload hx hb dX9_spilt_89 (lv_at hl 0 rfl) ?_
                      obtain ⟨x164, x165, t166, t167, t168, t169, t170, t171, f163, h172, h173⟩ := (show sM ad (wL116 64) from ok123 64 (by decide))
                      have f174 : wL116 64 = .inr (7, [.ref (ad 65), .ref (ad 66), .ref (ad 67), .ref (ad 68), .long x164, .long x165, .ref (ad 69), .int t166, .ref (ad 70), .ref (ad 71), .int t167, .int t168, .int t169, .int t170, .int t171, .ref (ad 72), .ref (ad 73)]) := f163
                      refine n_Vi (na := 3) (As := [.int r43, .int n, .int L114]) (rest := []) X hD hN h rfl (c_M_casterBy l G cI cB cZ cO ad wL116  ok123 r43 n L114 (by omega) (by omega) (by omega) (by omega) (by omega) (by omega) (by first | decide | omega)) ⟨kv_507, kv_508, kv_509, kv_470, kv_510⟩ rfl ⟨by decide, by decide, by decide⟩ ⟨Nat.le_of_ble_eq_true rfl, Nat.le_of_ble_eq_true rfl⟩ ⟨Nat.zero_le _, Nat.zero_le _⟩ (by decide) f174 rfl rfl hl.1 rfl (Nat.le_of_ble_eq_true rfl) dX9_spilt_91 (fun r160 w161 H locs hp162 h => ?_)
                      obtain ⟨rfl, hr175⟩ := hp162
                      obtain ⟨h176, h177⟩ := hr175
                      refine lv_istore (lv' := [(12, .int r160), (11, .int L114), (9, .long L115), (8, .int L52), (6, .long L53), (5, .int r43), (0, .ref (ad 64)), (1, .int j), (2, .int n), (3, .int x), (4, .int u)]) hx hb dX9_spilt_94 hl (by decide) rfl (fun ls hl => ?_)
                      refine lv_lload hx hb dX9_spilt_96 (lv_at hl 2 rfl) ?_
                      refine lv_iload hx hb dX9_spilt_98 (lv_at hl 3 rfl) ?_
                      refine lv_iload hx hb dX9_spilt_100 (lv_at hl 1 rfl) ?_
                      refine n_Si (na := 2) (As := [.int L52, .int L114]) (rest := [.long L115]) X hD hN h (c_M_has l G cI cB cZ cO ad wL116   L52 L114  ) ⟨kv_496, kv_497, kv_470, kv_498⟩ ⟨by decide, by decide, by decide⟩ ⟨Nat.le_of_ble_eq_true rfl, Nat.le_of_ble_eq_true rfl⟩ ⟨Nat.zero_le _, Nat.zero_le _⟩ rfl hl.1 rfl (Nat.le_of_ble_eq_true rfl) dX9_spilt_102 (fun r178 w179 H locs hp180 h => ?_)
                      obtain ⟨rfl, hr181⟩ := hp180
                      rcases hr181 with rfl | rfl
                      · refine lv_if_eq (tgt := 114) hx hb dX9_spilt_105 (by decide) (fun hc => absurd hc (by decide)) (fun _ => ?_)
                        refine lv_iload hx hb dX9_spilt_108 (lv_at hl 10 rfl) ?_
                        obtain ⟨z182, e183⟩ : ∃ z : Int64, u.toInt64 = z := ⟨_, rfl⟩
                        have tz182 : z182.toInt = (u).toInt := by rw [← e183]; exact Int32.toInt_toInt64 _
                        refine lv_i2l (v := z182) hx hb dX9_spilt_110 e183 ?_
                        refine lv_goto (tgt := 120) hx hb dX9_spilt_111 (by decide) ?_
                        obtain ⟨z185, e184⟩ : ∃ z : Int64, L115 * z182 = z := ⟨_, rfl⟩
                        refine o_lmul (z := z185) hx hb dX9_spilt_120 e184 ?_
                        refine lv_lstore (lv' := [(9, .long z185), (12, .int r160), (11, .int L114), (8, .int L52), (6, .long L53), (5, .int r43), (0, .ref (ad 64)), (1, .int j), (2, .int n), (3, .int x), (4, .int u)]) hx hb dX9_spilt_121 hl (by decide) rfl (fun ls hl => ?_)
                        refine lv_iload hx hb dX9_spilt_123 (lv_at hl 1 rfl) ?_
                        refine lv_aload_n hx hb dX9_spilt_125 rfl (lv_at hl 6 rfl) ?_
                        refine r_get kc9 X h 64 0 (by decide) rfl f174 (by decide) kv_467 rfl dX9_spilt_126 ?_
                        refine lv_iconst (v := 0) hx hb dX9_spilt_129 (by decide) ?_
                        obtain ⟨g187, f186, p188⟩ := (show sA cI 177 (alA) (wL116 65) from ok123 65 (by decide))
                        have f189 : wL116 65 = .inl (cI, 177, .inl g187) := f186
                        obtain ⟨v190, e191⟩ : ∃ z : Int32, g187 0 = z := ⟨_, rfl⟩
                        have h192 := (alA_rd p188 e191).1 rfl
                        refine o_iald (v := v190) X h 65 0 (by decide) rfl f189 rfl (by unfold vp_in; decide) e191 dX9_spilt_130 ?_
                        refine lv_icmp_ge (tgt := 156) hx hb dX9_spilt_131 (by decide) (fun hc193 => ?_) (fun hc193 => ?_)
                        · have hc193 : (v190).toInt ≤ (r160).toInt := i_le hc193 rfl rfl
                          refine lv_aload_n hx hb dX9_spilt_156 rfl (lv_at hl 6 rfl) ?_
                          refine r_get kc9 X h 64 6 (by decide) rfl f174 (by decide) kv_495 rfl dX9_spilt_157 ?_
                          refine n_Sv (na := 1) (As := [.ref (ad 69)]) (rest := []) X hD hN h (c_M_goHour l G cI cB cZ cO ad wL116 69 (Or.inr (Or.inl rfl)) ok123   ) ⟨kv_492, kv_493, kv_470, kv_494⟩ ⟨by decide, by decide, by decide⟩ ⟨Nat.le_of_ble_eq_true rfl, Nat.le_of_ble_eq_true rfl⟩ ⟨Nat.zero_le _, Nat.zero_le _⟩ rfl hl.1 rfl (Nat.le_of_ble_eq_true rfl) dX9_spilt_160 (fun w195 H locs hp196 h => ?_)
                          obtain ⟨ok198, kk199, hr197⟩ := hp196
                          have kx200 : KM w w195 := KM.tr kx124 kk199.1
                          obtain ⟨z201, e202, t203⟩ := x_add (x := L114) (y := 1) (a := L114.toInt) (b := 1) rfl rfl (by omega) (by omega)
                          refine lv_iinc (v := z201) (lv' := [(11, .int z201), (9, .long z185), (12, .int r160), (8, .int L52), (6, .long L53), (5, .int r43), (0, .ref (ad 64)), (1, .int j), (2, .int n), (3, .int x), (4, .int u)]) hx hb dX9_spilt_163 hl (k := 2) rfl e202 (by decide) rfl (fun ls hl => ?_)
                          refine lv_goto (tgt := 79) hx hb dX9_spilt_166 (by decide) ?_
                          exact ih119  z201 z185 w195 _ _ _ (by omega) (by omega) ok198 kx200 (by omega) h (lv_sub hl [0, 1, 3, 4, 5, 6, 7, 8, 9, 10] rfl)
                        · have hc193 : ¬ (v190).toInt ≤ (r160).toInt := i_nle hc193 rfl rfl
                          refine lv_iload hx hb dX9_spilt_134 (lv_at hl 3 rfl) ?_
                          refine lv_iload hx hb dX9_spilt_136 (lv_at hl 2 rfl) ?_
                          refine n_Si (na := 2) (As := [.int L52, .int L114]) (rest := []) X hD hN h (c_M_has l G cI cB cZ cO ad wL116   L52 L114  ) ⟨kv_496, kv_497, kv_470, kv_498⟩ ⟨by decide, by decide, by decide⟩ ⟨Nat.le_of_ble_eq_true rfl, Nat.le_of_ble_eq_true rfl⟩ ⟨Nat.zero_le _, Nat.zero_le _⟩ rfl hl.1 rfl (Nat.le_of_ble_eq_true rfl) dX9_spilt_138 (fun r204 w205 H locs hp206 h => ?_)
                          obtain ⟨rfl, hr207⟩ := hp206
                          rcases hr207 with rfl | rfl
                          · refine lv_if_ne (tgt := 156) hx hb dX9_spilt_141 (by decide) (fun _ => ?_) (fun hc => absurd hc (by decide))
                            refine lv_aload_n hx hb dX9_spilt_156 rfl (lv_at hl 6 rfl) ?_
                            refine r_get kc9 X h 64 6 (by decide) rfl f174 (by decide) kv_495 rfl dX9_spilt_157 ?_
                            refine n_Sv (na := 1) (As := [.ref (ad 69)]) (rest := []) X hD hN h (c_M_goHour l G cI cB cZ cO ad wL116 69 (Or.inr (Or.inl rfl)) ok123   ) ⟨kv_492, kv_493, kv_470, kv_494⟩ ⟨by decide, by decide, by decide⟩ ⟨Nat.le_of_ble_eq_true rfl, Nat.le_of_ble_eq_true rfl⟩ ⟨Nat.zero_le _, Nat.zero_le _⟩ rfl hl.1 rfl (Nat.le_of_ble_eq_true rfl) dX9_spilt_160 (fun w209 H locs hp210 h => ?_)
                            obtain ⟨ok212, kk213, hr211⟩ := hp210
                            have kx214 : KM w w209 := KM.tr kx124 kk213.1
                            obtain ⟨z215, e216, t217⟩ := x_add (x := L114) (y := 1) (a := L114.toInt) (b := 1) rfl rfl (by omega) (by omega)
                            refine lv_iinc (v := z215) (lv' := [(11, .int z215), (9, .long z185), (12, .int r160), (8, .int L52), (6, .long L53), (5, .int r43), (0, .ref (ad 64)), (1, .int j), (2, .int n), (3, .int x), (4, .int u)]) hx hb dX9_spilt_163 hl (k := 2) rfl e216 (by decide) rfl (fun ls hl => ?_)
                            refine lv_goto (tgt := 79) hx hb dX9_spilt_166 (by decide) ?_
                            exact ih119  z215 z185 w209 _ _ _ (by omega) (by omega) ok212 kx214 (by omega) h (lv_sub hl [0, 1, 3, 4, 5, 6, 7, 8, 9, 10] rfl)
                          · refine lv_if_ne (tgt := 156) hx hb dX9_spilt_141 (by decide) (fun hc => absurd (by decide) hc) (fun _ => ?_)
                            refine lv_aload_n hx hb dX9_spilt_144 rfl (lv_at hl 6 rfl) ?_
                            refine r_get kc9 X h 64 6 (by decide) rfl f174 (by decide) kv_495 rfl dX9_spilt_145 ?_
                            refine lv_iload hx hb dX9_spilt_148 (lv_at hl 1 rfl) ?_
                            refine lv_iload_n hx hb dX9_spilt_150 rfl (lv_at hl 7 rfl) ?_
                            refine n_Si (na := 3) (As := [.ref (ad 69), .int r160, .int j]) (rest := []) X hD hN h (c_M_goLadle l G cI cB cZ cO ad wL116 69 (Or.inr (Or.inl rfl)) ok123 r160 j (by omega) (by omega) (by omega) (by omega) ) ⟨kv_511, kv_512, kv_470, kv_513⟩ ⟨by decide, by decide, by decide⟩ ⟨Nat.le_of_ble_eq_true rfl, Nat.le_of_ble_eq_true rfl⟩ ⟨Nat.zero_le _, Nat.zero_le _⟩ rfl hl.1 rfl (Nat.le_of_ble_eq_true rfl) dX9_spilt_151 (fun r218 w219 H locs hp220 h => ?_)
                            obtain ⟨ok222, kk223, hr221⟩ := hp220
                            have kx224 : KM w w219 := KM.tr kx124 kk223.1
                            refine lv_istore (lv' := [(13, .int r218), (9, .long z185), (12, .int r160), (11, .int L114), (8, .int L52), (6, .long L53), (5, .int r43), (0, .ref (ad 64)), (1, .int j), (2, .int n), (3, .int x), (4, .int u)]) hx hb dX9_spilt_154 hl (by decide) rfl (fun ls hl => ?_)
                            refine lv_aload_n hx hb dX9_spilt_156 rfl (lv_at hl 7 rfl) ?_
                            have f225 : w219 64 = .inr (7, [.ref (ad 65), .ref (ad 66), .ref (ad 67), .ref (ad 68), .long x164, .long x165, .ref (ad 69), .int t166, .ref (ad 70), .ref (ad 71), .int t167, .int t168, .int t169, .int t170, .int t171, .ref (ad 72), .ref (ad 73)]) := (kk223.2 64 (by decide)).trans f174
                            refine r_get kc9 X h 64 6 (by decide) rfl f225 (by decide) kv_495 rfl dX9_spilt_157 ?_
                            refine n_Sv (na := 1) (As := [.ref (ad 69)]) (rest := []) X hD hN h (c_M_goHour l G cI cB cZ cO ad w219 69 (Or.inr (Or.inl rfl)) ok222   ) ⟨kv_492, kv_493, kv_470, kv_494⟩ ⟨by decide, by decide, by decide⟩ ⟨Nat.le_of_ble_eq_true rfl, Nat.le_of_ble_eq_true rfl⟩ ⟨Nat.zero_le _, Nat.zero_le _⟩ rfl hl.1 rfl (Nat.le_of_ble_eq_true rfl) dX9_spilt_160 (fun w227 H locs hp228 h => ?_)
                            obtain ⟨ok230, kk231, hr229⟩ := hp228
                            have kx232 : KM w w227 := KM.tr kx224 kk231.1
                            obtain ⟨z233, e234, t235⟩ := x_add (x := L114) (y := 1) (a := L114.toInt) (b := 1) rfl rfl (by omega) (by omega)
                            refine lv_iinc (v := z233) (lv' := [(11, .int z233), (13, .int r218), (9, .long z185), (12, .int r160), (8, .int L52), (6, .long L53), (5, .int r43), (0, .ref (ad 64)), (1, .int j), (2, .int n), (3, .int x), (4, .int u)]) hx hb dX9_spilt_163 hl (k := 3) rfl e234 (by decide) rfl (fun ls hl => ?_)
                            refine lv_goto (tgt := 79) hx hb dX9_spilt_166 (by decide) ?_
                            exact ih119  z233 z185 w227 _ _ _ (by omega) (by omega) ok230 kx232 (by omega) h (lv_sub hl [0, 2, 4, 5, 6, 7, 8, 9, 10, 11] rfl)
                      · refine lv_if_eq (tgt := 114) hx hb dX9_spilt_105 (by decide) (fun _ => ?_) (fun hc => absurd (by decide) hc)
                        refine lv_bipush (v := 10) hx hb dX9_spilt_114 (by decide) ?_
                        refine lv_iload hx hb dX9_spilt_116 (lv_at hl 10 rfl) ?_
                        obtain ⟨z238, e236, t237⟩ := x_sub (x := (10 : Int32)) (y := u) (a := 10) (b := (u).toInt) rfl rfl (by omega) (by omega)
                        refine o_isub (z := z238) hx hb dX9_spilt_118 e236 ?_
                        obtain ⟨z239, e240⟩ : ∃ z : Int64, z238.toInt64 = z := ⟨_, rfl⟩
                        have tz239 : z239.toInt = (z238).toInt := by rw [← e240]; exact Int32.toInt_toInt64 _
                        refine lv_i2l (v := z239) hx hb dX9_spilt_119 e240 ?_
                        obtain ⟨z242, e241⟩ : ∃ z : Int64, L115 * z239 = z := ⟨_, rfl⟩
                        refine o_lmul (z := z242) hx hb dX9_spilt_120 e241 ?_
                        refine lv_lstore (lv' := [(9, .long z242), (12, .int r160), (11, .int L114), (8, .int L52), (6, .long L53), (5, .int r43), (0, .ref (ad 64)), (1, .int j), (2, .int n), (3, .int x), (4, .int u)]) hx hb dX9_spilt_121 hl (by decide) rfl (fun ls hl => ?_)
                        refine lv_iload hx hb dX9_spilt_123 (lv_at hl 1 rfl) ?_
                        refine lv_aload_n hx hb dX9_spilt_125 rfl (lv_at hl 6 rfl) ?_
                        refine r_get kc9 X h 64 0 (by decide) rfl f174 (by decide) kv_467 rfl dX9_spilt_126 ?_
                        refine lv_iconst (v := 0) hx hb dX9_spilt_129 (by decide) ?_
                        obtain ⟨g244, f243, p245⟩ := (show sA cI 177 (alA) (wL116 65) from ok123 65 (by decide))
                        have f246 : wL116 65 = .inl (cI, 177, .inl g244) := f243
                        obtain ⟨v247, e248⟩ : ∃ z : Int32, g244 0 = z := ⟨_, rfl⟩
                        have h249 := (alA_rd p245 e248).1 rfl
                        refine o_iald (v := v247) X h 65 0 (by decide) rfl f246 rfl (by unfold vp_in; decide) e248 dX9_spilt_130 ?_
                        refine lv_icmp_ge (tgt := 156) hx hb dX9_spilt_131 (by decide) (fun hc250 => ?_) (fun hc250 => ?_)
                        · have hc250 : (v247).toInt ≤ (r160).toInt := i_le hc250 rfl rfl
                          refine lv_aload_n hx hb dX9_spilt_156 rfl (lv_at hl 6 rfl) ?_
                          refine r_get kc9 X h 64 6 (by decide) rfl f174 (by decide) kv_495 rfl dX9_spilt_157 ?_
                          refine n_Sv (na := 1) (As := [.ref (ad 69)]) (rest := []) X hD hN h (c_M_goHour l G cI cB cZ cO ad wL116 69 (Or.inr (Or.inl rfl)) ok123   ) ⟨kv_492, kv_493, kv_470, kv_494⟩ ⟨by decide, by decide, by decide⟩ ⟨Nat.le_of_ble_eq_true rfl, Nat.le_of_ble_eq_true rfl⟩ ⟨Nat.zero_le _, Nat.zero_le _⟩ rfl hl.1 rfl (Nat.le_of_ble_eq_true rfl) dX9_spilt_160 (fun w252 H locs hp253 h => ?_)
                          obtain ⟨ok255, kk256, hr254⟩ := hp253
                          have kx257 : KM w w252 := KM.tr kx124 kk256.1
                          obtain ⟨z258, e259, t260⟩ := x_add (x := L114) (y := 1) (a := L114.toInt) (b := 1) rfl rfl (by omega) (by omega)
                          refine lv_iinc (v := z258) (lv' := [(11, .int z258), (9, .long z242), (12, .int r160), (8, .int L52), (6, .long L53), (5, .int r43), (0, .ref (ad 64)), (1, .int j), (2, .int n), (3, .int x), (4, .int u)]) hx hb dX9_spilt_163 hl (k := 2) rfl e259 (by decide) rfl (fun ls hl => ?_)
                          refine lv_goto (tgt := 79) hx hb dX9_spilt_166 (by decide) ?_
                          exact ih119  z258 z242 w252 _ _ _ (by omega) (by omega) ok255 kx257 (by omega) h (lv_sub hl [0, 1, 3, 4, 5, 6, 7, 8, 9, 10] rfl)
                        · have hc250 : ¬ (v247).toInt ≤ (r160).toInt := i_nle hc250 rfl rfl
                          refine lv_iload hx hb dX9_spilt_134 (lv_at hl 3 rfl) ?_
                          refine lv_iload hx hb dX9_spilt_136 (lv_at hl 2 rfl) ?_
                          refine n_Si (na := 2) (As := [.int L52, .int L114]) (rest := []) X hD hN h (c_M_has l G cI cB cZ cO ad wL116   L52 L114  ) ⟨kv_496, kv_497, kv_470, kv_498⟩ ⟨by decide, by decide, by decide⟩ ⟨Nat.le_of_ble_eq_true rfl, Nat.le_of_ble_eq_true rfl⟩ ⟨Nat.zero_le _, Nat.zero_le _⟩ rfl hl.1 rfl (Nat.le_of_ble_eq_true rfl) dX9_spilt_138 (fun r261 w262 H locs hp263 h => ?_)
                          obtain ⟨rfl, hr264⟩ := hp263
                          rcases hr264 with rfl | rfl
                          · refine lv_if_ne (tgt := 156) hx hb dX9_spilt_141 (by decide) (fun _ => ?_) (fun hc => absurd hc (by decide))
                            refine lv_aload_n hx hb dX9_spilt_156 rfl (lv_at hl 6 rfl) ?_
                            refine r_get kc9 X h 64 6 (by decide) rfl f174 (by decide) kv_495 rfl dX9_spilt_157 ?_
                            refine n_Sv (na := 1) (As := [.ref (ad 69)]) (rest := []) X hD hN h (c_M_goHour l G cI cB cZ cO ad wL116 69 (Or.inr (Or.inl rfl)) ok123   ) ⟨kv_492, kv_493, kv_470, kv_494⟩ ⟨by decide, by decide, by decide⟩ ⟨Nat.le_of_ble_eq_true rfl, Nat.le_of_ble_eq_true rfl⟩ ⟨Nat.zero_le _, Nat.zero_le _⟩ rfl hl.1 rfl (Nat.le_of_ble_eq_true rfl) dX9_spilt_160 (fun w266 H locs hp267 h => ?_)
                            obtain ⟨ok269, kk270, hr268⟩ := hp267
                            have kx271 : KM w w266 := KM.tr kx124 kk270.1
                            obtain ⟨z272, e273, t274⟩ := x_add (x := L114) (y := 1) (a := L114.toInt) (b := 1) rfl rfl (by omega) (by omega)
                            refine lv_iinc (v := z272) (lv' := [(11, .int z272), (9, .long z242), (12, .int r160), (8, .int L52), (6, .long L53), (5, .int r43), (0, .ref (ad 64)), (1, .int j), (2, .int n), (3, .int x), (4, .int u)]) hx hb dX9_spilt_163 hl (k := 2) rfl e273 (by decide) rfl (fun ls hl => ?_)
                            refine lv_goto (tgt := 79) hx hb dX9_spilt_166 (by decide) ?_
                            exact ih119  z272 z242 w266 _ _ _ (by omega) (by omega) ok269 kx271 (by omega) h (lv_sub hl [0, 1, 3, 4, 5, 6, 7, 8, 9, 10] rfl)
                          · refine lv_if_ne (tgt := 156) hx hb dX9_spilt_141 (by decide) (fun hc => absurd (by decide) hc) (fun _ => ?_)
                            refine lv_aload_n hx hb dX9_spilt_144 rfl (lv_at hl 6 rfl) ?_
                            refine r_get kc9 X h 64 6 (by decide) rfl f174 (by decide) kv_495 rfl dX9_spilt_145 ?_
                            refine lv_iload hx hb dX9_spilt_148 (lv_at hl 1 rfl) ?_
                            refine lv_iload_n hx hb dX9_spilt_150 rfl (lv_at hl 7 rfl) ?_
                            refine n_Si (na := 3) (As := [.ref (ad 69), .int r160, .int j]) (rest := []) X hD hN h (c_M_goLadle l G cI cB cZ cO ad wL116 69 (Or.inr (Or.inl rfl)) ok123 r160 j (by omega) (by omega) (by omega) (by omega) ) ⟨kv_511, kv_512, kv_470, kv_513⟩ ⟨by decide, by decide, by decide⟩ ⟨Nat.le_of_ble_eq_true rfl, Nat.le_of_ble_eq_true rfl⟩ ⟨Nat.zero_le _, Nat.zero_le _⟩ rfl hl.1 rfl (Nat.le_of_ble_eq_true rfl) dX9_spilt_151 (fun r275 w276 H locs hp277 h => ?_)
                            obtain ⟨ok279, kk280, hr278⟩ := hp277
                            have kx281 : KM w w276 := KM.tr kx124 kk280.1
                            refine lv_istore (lv' := [(13, .int r275), (9, .long z242), (12, .int r160), (11, .int L114), (8, .int L52), (6, .long L53), (5, .int r43), (0, .ref (ad 64)), (1, .int j), (2, .int n), (3, .int x), (4, .int u)]) hx hb dX9_spilt_154 hl (by decide) rfl (fun ls hl => ?_)
                            refine lv_aload_n hx hb dX9_spilt_156 rfl (lv_at hl 7 rfl) ?_
                            have f282 : w276 64 = .inr (7, [.ref (ad 65), .ref (ad 66), .ref (ad 67), .ref (ad 68), .long x164, .long x165, .ref (ad 69), .int t166, .ref (ad 70), .ref (ad 71), .int t167, .int t168, .int t169, .int t170, .int t171, .ref (ad 72), .ref (ad 73)]) := (kk280.2 64 (by decide)).trans f174
                            refine r_get kc9 X h 64 6 (by decide) rfl f282 (by decide) kv_495 rfl dX9_spilt_157 ?_
                            refine n_Sv (na := 1) (As := [.ref (ad 69)]) (rest := []) X hD hN h (c_M_goHour l G cI cB cZ cO ad w276 69 (Or.inr (Or.inl rfl)) ok279   ) ⟨kv_492, kv_493, kv_470, kv_494⟩ ⟨by decide, by decide, by decide⟩ ⟨Nat.le_of_ble_eq_true rfl, Nat.le_of_ble_eq_true rfl⟩ ⟨Nat.zero_le _, Nat.zero_le _⟩ rfl hl.1 rfl (Nat.le_of_ble_eq_true rfl) dX9_spilt_160 (fun w284 H locs hp285 h => ?_)
                            obtain ⟨ok287, kk288, hr286⟩ := hp285
                            have kx289 : KM w w284 := KM.tr kx281 kk288.1
                            obtain ⟨z290, e291, t292⟩ := x_add (x := L114) (y := 1) (a := L114.toInt) (b := 1) rfl rfl (by omega) (by omega)
                            refine lv_iinc (v := z290) (lv' := [(11, .int z290), (13, .int r275), (9, .long z242), (12, .int r160), (8, .int L52), (6, .long L53), (5, .int r43), (0, .ref (ad 64)), (1, .int j), (2, .int n), (3, .int x), (4, .int u)]) hx hb dX9_spilt_163 hl (k := 3) rfl e291 (by decide) rfl (fun ls hl => ?_)
                            refine lv_goto (tgt := 79) hx hb dX9_spilt_166 (by decide) ?_
                            exact ih119  z290 z242 w284 _ _ _ (by omega) (by omega) ok287 kx289 (by omega) h (lv_sub hl [0, 2, 4, 5, 6, 7, 8, 9, 10, 11] rfl)
                exact hloop117 5 (0 : Int32) (1 : Int64) w96 _ _ _ (by have q0 : (0 : Int32).toInt = 0 := rfl; omega) (by have q0 : (0 : Int32).toInt = 0 := rfl; omega) ok111 kx113 (by have q0 : (0 : Int32).toInt = 0 := rfl; omega) h (lv_sub hl [0, 1, 2, 3, 4, 5, 6, 7, 8, 9] rfl)
          exact hloop55 129 (0 : Int32) (0 : Int64) w44 _ _ _ (by have q0 : (0 : Int32).toInt = 0 := rfl; omega) (by have q0 : (0 : Int32).toInt = 0 := rfl; omega) ok47 kx49 (by have q0 : (0 : Int32).toInt = 0 := rfl; omega) h (lv_sub hl [0, 1, 2, 3, 4, 5, 6, 7] rfl)
        · refine lv_if_ne (tgt := 47) hx hb dX9_spilt_37 (by decide) (fun hc => absurd (by decide) hc) (fun _ => ?_)
          refine lv_aload_n hx hb dX9_spilt_40 rfl (lv_at hl 0 rfl) ?_
          refine lv_bipush (v := (-2)) hx hb dX9_spilt_41 (by decide) ?_
          refine n_Vi (na := 1) (As := [.int (-2)]) (rest := []) X hD hN h rfl (c_M_bad l G cI cB cZ cO ad w  ok ((-2) : Int32)  ) ⟨kv_553, kv_554, kv_555, kv_470, kv_556⟩ rfl ⟨by decide, by decide, by decide⟩ ⟨Nat.le_of_ble_eq_true rfl, Nat.le_of_ble_eq_true rfl⟩ ⟨Nat.zero_le _, Nat.zero_le _⟩ (by decide) f15 rfl rfl hl.1 rfl (Nat.le_of_ble_eq_true rfl) dX9_spilt_43 (fun r293 w294 H locs hp295 h => ?_)
          obtain ⟨ok298, kk299, hr297⟩ := hp295
          have kx300 : KM w w294 := kk299
          subst hr297
          exact e_i X h hr hlk dX9_spilt_46 ⟨ok298, kx300, Or.inr ⟨by omega, rfl⟩⟩
      · refine lv_if_eq (tgt := 40) hx hb dX9_spilt_24 (by decide) (fun _ => ?_) (fun hc => absurd (by decide) hc)
        refine lv_aload_n hx hb dX9_spilt_40 rfl (lv_at hl 0 rfl) ?_
        refine lv_bipush (v := (-2)) hx hb dX9_spilt_41 (by decide) ?_
        refine n_Vi (na := 1) (As := [.int (-2)]) (rest := []) X hD hN h rfl (c_M_bad l G cI cB cZ cO ad w  ok ((-2) : Int32)  ) ⟨kv_553, kv_554, kv_555, kv_470, kv_556⟩ rfl ⟨by decide, by decide, by decide⟩ ⟨Nat.le_of_ble_eq_true rfl, Nat.le_of_ble_eq_true rfl⟩ ⟨Nat.zero_le _, Nat.zero_le _⟩ (by decide) f15 rfl rfl hl.1 rfl (Nat.le_of_ble_eq_true rfl) dX9_spilt_43 (fun r301 w302 H locs hp303 h => ?_)
        obtain ⟨ok306, kk307, hr305⟩ := hp303
        have kx308 : KM w w302 := kk307
        subst hr305
        exact e_i X h hr hlk dX9_spilt_46 ⟨ok306, kx308, Or.inr ⟨by omega, rfl⟩⟩
    · refine lv_if_eq (tgt := 40) hx hb dX9_spilt_17 (by decide) (fun _ => ?_) (fun hc => absurd (by decide) hc)
      refine lv_aload_n hx hb dX9_spilt_40 rfl (lv_at hl 0 rfl) ?_
      refine lv_bipush (v := (-2)) hx hb dX9_spilt_41 (by decide) ?_
      refine n_Vi (na := 1) (As := [.int (-2)]) (rest := []) X hD hN h rfl (c_M_bad l G cI cB cZ cO ad w  ok ((-2) : Int32)  ) ⟨kv_553, kv_554, kv_555, kv_470, kv_556⟩ rfl ⟨by decide, by decide, by decide⟩ ⟨Nat.le_of_ble_eq_true rfl, Nat.le_of_ble_eq_true rfl⟩ ⟨Nat.zero_le _, Nat.zero_le _⟩ (by decide) f15 rfl rfl hl.1 rfl (Nat.le_of_ble_eq_true rfl) dX9_spilt_43 (fun r309 w310 H locs hp311 h => ?_)
      obtain ⟨ok314, kk315, hr313⟩ := hp311
      have kx316 : KM w w310 := kk315
      subst hr313
      exact e_i X h hr hlk dX9_spilt_46 ⟨ok314, kx316, Or.inr ⟨by omega, rfl⟩⟩
  · refine lv_if_eq (tgt := 40) hx hb dX9_spilt_5 (by decide) (fun _ => ?_) (fun hc => absurd (by decide) hc)
    refine lv_aload_n hx hb dX9_spilt_40 rfl (lv_at hl 0 rfl) ?_
    refine lv_bipush (v := (-2)) hx hb dX9_spilt_41 (by decide) ?_
    refine n_Vi (na := 1) (As := [.int (-2)]) (rest := []) X hD hN h rfl (c_M_bad l G cI cB cZ cO ad w  ok ((-2) : Int32)  ) ⟨kv_553, kv_554, kv_555, kv_470, kv_556⟩ rfl ⟨by decide, by decide, by decide⟩ ⟨Nat.le_of_ble_eq_true rfl, Nat.le_of_ble_eq_true rfl⟩ ⟨Nat.zero_le _, Nat.zero_le _⟩ (by decide) f15 rfl rfl hl.1 rfl (Nat.le_of_ble_eq_true rfl) dX9_spilt_43 (fun r317 w318 H locs hp319 h => ?_)
    obtain ⟨ok322, kk323, hr321⟩ := hp319
    have kx324 : KM w w318 := kk323
    subst hr321
    exact e_i X h hr hlk dX9_spilt_46 ⟨ok322, kx324, Or.inr ⟨by omega, rfl⟩⟩
