set_option maxHeartbeats 4000000 in
set_option maxRecDepth 100000 in
theorem c_X_round (l : Launch) (G : va_G) (cI cB cZ cO : ClassId) (ad : Nat → Nat) (w : Nat → va_E)  (ok : OK cI cB cZ cO ad w) (j : Int32) (n : Int32) (k : Int32)   : NI l G (tyq cI cB cZ cO) yX8_round cX8_round 4 (some .int) 5 118 74 ad w [.ref (ad 0), .int j, .int n, .int k] (fun r w1 => OK cI cB cZ cO ad w1 ∧ KX w w1 ∧ True) := by
  refine nk_i (own := "NoonShade") rfl (by decide) (Nat.le_of_ble_eq_true rfl) ?_
  intro p e s m below meth c ls X hD hN hr hlk h hl
  have hx := X.1.1
  have hb := X.1.2.1
  have hown := X.1.2.2.2.1
  have hts := X.1.2.2.2.2
  have hl : lv_has ls 4 [(0, .ref (ad 0)), (1, .int j), (2, .int n), (3, .int k)] := hl
  refine lv_aload_n hx hb dX8_round_0 rfl (lv_at hl 0 rfl) ?_
  obtain ⟨x2, x3, q4, q5, q6, f1⟩ := (show sN ad (w 0) from ok 0 (by decide))
  have f7 : w 0 = .inr (6, [.ref (ad 1), .ref (ad 14), .ref (ad 27), .ref (ad 54), .ref (ad 55), .ref (ad 58), .ref (ad 62), .long x2, .long x3, .int q4, .int q5, .int q6]) := f1
  refine r_get kc8 X h 0 0 (by decide) rfl f7 (by decide) kv_172 rfl dX8_round_1 ?_
  refine lv_iload_n hx hb dX8_round_4 rfl (lv_at hl 1 rfl) ?_
  obtain ⟨q12, q13, q14, q15, q16, f11, h17, h18, h19, h20⟩ := (show sI ad 1 (w 1) from ok 1 (by decide))
  have f21 : w 1 = .inr (1, [.int q12, .int q13, .int q14, .int q15, .int q16, .ref (ad 2), .ref (ad 3), .ref (ad 4), .ref (ad 5), .ref (ad 6), .ref (ad 7), .ref (ad 8), .ref (ad 10), .ref (ad 12)]) := f11
  refine n_Vi (na := 1) (As := [.int j]) (rest := []) X hD hN h rfl (c_hasJar l G cI cB cZ cO ad w 1 (Or.inl rfl) ok j  ) ⟨kv_223, kv_224, kv_225, kv_37, kv_226⟩ rfl ⟨by decide, by decide, by decide⟩ ⟨Nat.le_of_ble_eq_true rfl, Nat.le_of_ble_eq_true rfl⟩ ⟨Nat.zero_le _, Nat.zero_le _⟩ (by decide) f21 rfl rfl hl.1 rfl (Nat.le_of_ble_eq_true rfl) dX8_round_5 (fun r8 w9 H locs hp10 h => ?_)
  obtain ⟨rfl, hr22⟩ := hp10
  rcases hr22 with ⟨hq23, hq24, rfl⟩ | rfl
  · refine lv_if_eq (tgt := 30) hx hb dX8_round_8 (by decide) (fun hc => absurd hc (by decide)) (fun _ => ?_)
    refine lv_iload_n hx hb dX8_round_11 rfl (lv_at hl 2 rfl) ?_
    refine lv_iconst (v := 1) hx hb dX8_round_12 (by decide) ?_
    refine lv_iconst (v := 4) hx hb dX8_round_13 (by decide) ?_
    refine n_Si (na := 3) (As := [.int n, .int 1, .int 4]) (rest := []) X hD hN h (c_within l G cI cB cZ cO ad w n (1 : Int32) (4 : Int32) ((n).toInt) 1 4 rfl rfl rfl) ⟨kv_247, kv_248, kv_212, kv_249⟩ ⟨by decide, by decide, by decide⟩ ⟨Nat.le_of_ble_eq_true rfl, Nat.le_of_ble_eq_true rfl⟩ ⟨Nat.zero_le _, Nat.zero_le _⟩ rfl hl.1 rfl (Nat.le_of_ble_eq_true rfl) dX8_round_14 (fun r25 w26 H locs hp27 h => ?_)
    obtain ⟨rfl, hq28⟩ := hp27
    rcases hq28 with ⟨hq29, hq30, rfl⟩ | ⟨hq28, rfl⟩
    · refine lv_if_eq (tgt := 30) hx hb dX8_round_17 (by decide) (fun hc => absurd hc (by decide)) (fun _ => ?_)
      refine lv_iload_n hx hb dX8_round_20 rfl (lv_at hl 3 rfl) ?_
      refine lv_if_ge (tgt := 40) hx hb dX8_round_21 (by decide) (fun hc31 => ?_) (fun hc31 => ?_)
      · have hc31 : 0 ≤ (k).toInt := i_le hc31 rfl rfl
        refine lv_iload_n hx hb dX8_round_40 rfl (lv_at hl 3 rfl) ?_
        refine lv_iload_n hx hb dX8_round_41 rfl (lv_at hl 2 rfl) ?_
        refine lv_icmp_lt (tgt := 48) hx hb dX8_round_42 (by decide) (fun hc32 => ?_) (fun hc32 => ?_)
        · have hc32 : (k).toInt < (n).toInt := i_lt hc32 rfl rfl
          refine lv_aload_n hx hb dX8_round_48 rfl (lv_at hl 0 rfl) ?_
          refine r_get kc8 X h 0 5 (by decide) rfl f7 (by decide) kv_265 rfl dX8_round_49 ?_
          refine lv_aload_n hx hb dX8_round_52 rfl (lv_at hl 0 rfl) ?_
          refine r_get kc8 X h 0 0 (by decide) rfl f7 (by decide) kv_172 rfl dX8_round_53 ?_
          refine lv_iload_n hx hb dX8_round_56 rfl (lv_at hl 1 rfl) ?_
          refine lv_iload_n hx hb dX8_round_57 rfl (lv_at hl 2 rfl) ?_
          obtain ⟨t37, t38, t39, f36, h40, h41, h42, h43⟩ := (show sL ad (w 58) from ok 58 (by decide))
          have f44 : w 58 = .inr (3, [.ref (ad 59), .ref (ad 60), .ref (ad 61), .int t37, .int t38, .int t39]) := f36
          refine n_Vv (na := 3) (As := [.ref (ad 1), .int j, .int n]) (rest := []) X hD hN h rfl (c_make l G cI cB cZ cO ad w  ok j n (by omega) (by omega) (by omega) (by omega) ) ⟨kv_266, kv_267, kv_268, kv_117, kv_269⟩ rfl ⟨by decide, by decide, by decide⟩ ⟨Nat.le_of_ble_eq_true rfl, Nat.le_of_ble_eq_true rfl⟩ ⟨Nat.zero_le _, Nat.zero_le _⟩ (by decide) f44 rfl rfl hl.1 rfl (Nat.le_of_ble_eq_true rfl) dX8_round_58 (fun w34 H locs hp35 h => ?_)
          obtain ⟨ok46, kk47, hr45⟩ := hp35
          have kx48 : KX w w34 := kk47
          refine lv_iload_n hx hb dX8_round_61 rfl (lv_at hl 3 rfl) ?_
          refine lv_bipush (v := (-2)) hx hb dX8_round_62 (by decide) ?_
          refine lv_icmp_ne (tgt := 77) hx hb dX8_round_64 (by decide) (fun hc49 => ?_) (fun hc49 => ?_)
          · have hc49 : ¬ (k).toInt = (-2) := i_ne hc49 rfl rfl
            refine lv_aload_n hx hb dX8_round_77 rfl (lv_at hl 0 rfl) ?_
            obtain ⟨x51, x52, q53, q54, q55, f50⟩ := (show sN ad (w34 0) from ok46 0 (by decide))
            have f56 : w34 0 = .inr (6, [.ref (ad 1), .ref (ad 14), .ref (ad 27), .ref (ad 54), .ref (ad 55), .ref (ad 58), .ref (ad 62), .long x51, .long x52, .int q53, .int q54, .int q55]) := f50
            refine r_get kc8 X h 0 5 (by decide) rfl f56 (by decide) kv_265 rfl dX8_round_78 ?_
            obtain ⟨t58, t59, t60, f57, h61, h62, h63, h64⟩ := (show sL ad (w34 58) from ok46 58 (by decide))
            have f65 : w34 58 = .inr (3, [.ref (ad 59), .ref (ad 60), .ref (ad 61), .int t58, .int t59, .int t60]) := f57
            refine r_get kc5 X h 58 2 (by decide) rfl f65 (by decide) kv_270 rfl dX8_round_81 ?_
            refine lv_iload_n hx hb dX8_round_84 rfl (lv_at hl 3 rfl) ?_
            obtain ⟨g67, f66, p68⟩ := (show sA cI 4 (rgA (-1) 6) (w34 61) from ok46 61 (by decide))
            have f69 : w34 61 = .inl (cI, 4, .inl g67) := f66
            obtain ⟨v70, e71⟩ : ∃ z : Int32, g67 (k).toNatClampNeg = z := ⟨_, rfl⟩
            have h72 := rgA_rd p68 e71
            refine o_iald (v := v70) X h 61 0 (by decide) rfl f69 rfl (in_of (by omega) (by omega)) e71 dX8_round_85 ?_
            exact e_i X h hr hlk dX8_round_86 ⟨ok46, kx48, trivial⟩
          · have hc49 : (k).toInt = (-2) := i_eq hc49 rfl rfl
            exfalso; omega
        · have hc32 : ¬ (k).toInt < (n).toInt := i_nlt hc32 rfl rfl
          refine lv_bipush (v := (-5)) hx hb dX8_round_45 (by decide) ?_
          exact e_i X h hr hlk dX8_round_47 ⟨ok, KX.rf, trivial⟩
      · have hc31 : ¬ 0 ≤ (k).toInt := i_nle hc31 rfl rfl
        refine lv_iload_n hx hb dX8_round_24 rfl (lv_at hl 3 rfl) ?_
        refine lv_bipush (v := (-2)) hx hb dX8_round_25 (by decide) ?_
        refine lv_icmp_eq (tgt := 40) hx hb dX8_round_27 (by decide) (fun hc73 => ?_) (fun hc73 => ?_)
        · have hc73 : (k).toInt = (-2) := i_eq hc73 rfl rfl
          refine lv_iload_n hx hb dX8_round_40 rfl (lv_at hl 3 rfl) ?_
          refine lv_iload_n hx hb dX8_round_41 rfl (lv_at hl 2 rfl) ?_
          refine lv_icmp_lt (tgt := 48) hx hb dX8_round_42 (by decide) (fun hc74 => ?_) (fun hc74 => ?_)
          · have hc74 : (k).toInt < (n).toInt := i_lt hc74 rfl rfl
            refine lv_aload_n hx hb dX8_round_48 rfl (lv_at hl 0 rfl) ?_
            refine r_get kc8 X h 0 5 (by decide) rfl f7 (by decide) kv_265 rfl dX8_round_49 ?_
            refine lv_aload_n hx hb dX8_round_52 rfl (lv_at hl 0 rfl) ?_
            refine r_get kc8 X h 0 0 (by decide) rfl f7 (by decide) kv_172 rfl dX8_round_53 ?_
            refine lv_iload_n hx hb dX8_round_56 rfl (lv_at hl 1 rfl) ?_
            refine lv_iload_n hx hb dX8_round_57 rfl (lv_at hl 2 rfl) ?_
            obtain ⟨t79, t80, t81, f78, h82, h83, h84, h85⟩ := (show sL ad (w 58) from ok 58 (by decide))
            have f86 : w 58 = .inr (3, [.ref (ad 59), .ref (ad 60), .ref (ad 61), .int t79, .int t80, .int t81]) := f78
            refine n_Vv (na := 3) (As := [.ref (ad 1), .int j, .int n]) (rest := []) X hD hN h rfl (c_make l G cI cB cZ cO ad w  ok j n (by omega) (by omega) (by omega) (by omega) ) ⟨kv_266, kv_267, kv_268, kv_117, kv_269⟩ rfl ⟨by decide, by decide, by decide⟩ ⟨Nat.le_of_ble_eq_true rfl, Nat.le_of_ble_eq_true rfl⟩ ⟨Nat.zero_le _, Nat.zero_le _⟩ (by decide) f86 rfl rfl hl.1 rfl (Nat.le_of_ble_eq_true rfl) dX8_round_58 (fun w76 H locs hp77 h => ?_)
            obtain ⟨ok88, kk89, hr87⟩ := hp77
            have kx90 : KX w w76 := kk89
            refine lv_iload_n hx hb dX8_round_61 rfl (lv_at hl 3 rfl) ?_
            refine lv_bipush (v := (-2)) hx hb dX8_round_62 (by decide) ?_
            refine lv_icmp_ne (tgt := 77) hx hb dX8_round_64 (by decide) (fun hc91 => ?_) (fun hc91 => ?_)
            · have hc91 : ¬ (k).toInt = (-2) := i_ne hc91 rfl rfl
              exfalso; omega
            · have hc91 : (k).toInt = (-2) := i_eq hc91 rfl rfl
              refine lv_aload_n hx hb dX8_round_67 rfl (lv_at hl 0 rfl) ?_
              obtain ⟨x93, x94, q95, q96, q97, f92⟩ := (show sN ad (w76 0) from ok88 0 (by decide))
              have f98 : w76 0 = .inr (6, [.ref (ad 1), .ref (ad 14), .ref (ad 27), .ref (ad 54), .ref (ad 55), .ref (ad 58), .ref (ad 62), .long x93, .long x94, .int q95, .int q96, .int q97]) := f92
              refine r_get kc8 X h 0 5 (by decide) rfl f98 (by decide) kv_265 rfl dX8_round_68 ?_
              obtain ⟨t100, t101, t102, f99, h103, h104, h105, h106⟩ := (show sL ad (w76 58) from ok88 58 (by decide))
              have f107 : w76 58 = .inr (3, [.ref (ad 59), .ref (ad 60), .ref (ad 61), .int t100, .int t101, .int t102]) := f99
              refine r_get kc5 X h 58 5 (by decide) rfl f107 (by decide) kv_271 rfl dX8_round_71 ?_
              refine lv_goto (tgt := 86) hx hb dX8_round_74 (by decide) ?_
              exact e_i X h hr hlk dX8_round_86 ⟨ok88, kx90, trivial⟩
          · have hc74 : ¬ (k).toInt < (n).toInt := i_nlt hc74 rfl rfl
            exfalso; omega
        · have hc73 : ¬ (k).toInt = (-2) := i_ne hc73 rfl rfl
          refine lv_aload_n hx hb dX8_round_30 rfl (lv_at hl 0 rfl) ?_
          refine lv_bipush (v := (-2)) hx hb dX8_round_31 (by decide) ?_
          refine n_Vi (na := 1) (As := [.int (-2)]) (rest := []) X hD hN h rfl (c_refused l G cI cB cZ cO ad w  ok ((-2) : Int32)  ) ⟨kv_227, kv_228, kv_229, kv_212, kv_230⟩ rfl ⟨by decide, by decide, by decide⟩ ⟨Nat.le_of_ble_eq_true rfl, Nat.le_of_ble_eq_true rfl⟩ ⟨Nat.zero_le _, Nat.zero_le _⟩ (by decide) f7 rfl rfl hl.1 rfl (Nat.le_of_ble_eq_true rfl) dX8_round_33 (fun r108 w109 H locs hp110 h => ?_)
          obtain ⟨ok112, kk113, hr111⟩ := hp110
          have kx114 : KX w w109 := kk113
          subst hr111
          refine lv_pop hx hb dX8_round_36 rfl ?_
          refine lv_bipush (v := (-10)) hx hb dX8_round_37 (by decide) ?_
          exact e_i X h hr hlk dX8_round_39 ⟨ok112, kx114, trivial⟩
    · refine lv_if_eq (tgt := 30) hx hb dX8_round_17 (by decide) (fun _ => ?_) (fun hc => absurd (by decide) hc)
      refine lv_aload_n hx hb dX8_round_30 rfl (lv_at hl 0 rfl) ?_
      refine lv_bipush (v := (-2)) hx hb dX8_round_31 (by decide) ?_
      refine n_Vi (na := 1) (As := [.int (-2)]) (rest := []) X hD hN h rfl (c_refused l G cI cB cZ cO ad w  ok ((-2) : Int32)  ) ⟨kv_227, kv_228, kv_229, kv_212, kv_230⟩ rfl ⟨by decide, by decide, by decide⟩ ⟨Nat.le_of_ble_eq_true rfl, Nat.le_of_ble_eq_true rfl⟩ ⟨Nat.zero_le _, Nat.zero_le _⟩ (by decide) f7 rfl rfl hl.1 rfl (Nat.le_of_ble_eq_true rfl) dX8_round_33 (fun r115 w116 H locs hp117 h => ?_)
      obtain ⟨ok119, kk120, hr118⟩ := hp117
      have kx121 : KX w w116 := kk120
      subst hr118
      refine lv_pop hx hb dX8_round_36 rfl ?_
      refine lv_bipush (v := (-10)) hx hb dX8_round_37 (by decide) ?_
      exact e_i X h hr hlk dX8_round_39 ⟨ok119, kx121, trivial⟩
  · refine lv_if_eq (tgt := 30) hx hb dX8_round_8 (by decide) (fun _ => ?_) (fun hc => absurd (by decide) hc)
    refine lv_aload_n hx hb dX8_round_30 rfl (lv_at hl 0 rfl) ?_
    refine lv_bipush (v := (-2)) hx hb dX8_round_31 (by decide) ?_
    refine n_Vi (na := 1) (As := [.int (-2)]) (rest := []) X hD hN h rfl (c_refused l G cI cB cZ cO ad w  ok ((-2) : Int32)  ) ⟨kv_227, kv_228, kv_229, kv_212, kv_230⟩ rfl ⟨by decide, by decide, by decide⟩ ⟨Nat.le_of_ble_eq_true rfl, Nat.le_of_ble_eq_true rfl⟩ ⟨Nat.zero_le _, Nat.zero_le _⟩ (by decide) f7 rfl rfl hl.1 rfl (Nat.le_of_ble_eq_true rfl) dX8_round_33 (fun r122 w123 H locs hp124 h => ?_)
    obtain ⟨ok126, kk127, hr125⟩ := hp124
    have kx128 : KX w w123 := kk127
    subst hr125
    refine lv_pop hx hb dX8_round_36 rfl ?_
    refine lv_bipush (v := (-10)) hx hb dX8_round_37 (by decide) ?_
    exact e_i X h hr hlk dX8_round_39 ⟨ok126, kx128, trivial⟩

set_option maxHeartbeats 4000000 in
set_option maxRecDepth 100000 in
theorem c_X_few (l : Launch) (G : va_G) (cI cB cZ cO : ClassId) (ad : Nat → Nat) (w : Nat → va_E)  (ok : OK cI cB cZ cO ad w) (j : Int32) (t : Int32) (x : Int32) (u : Int32)   : NI l G (tyq cI cB cZ cO) yX8_few cX8_few 6 (some .int) 5 116 74 ad w [.ref (ad 0), .int j, .int t, .int x, .int u] (fun r w1 => OK cI cB cZ cO ad w1 ∧ KX w w1 ∧ True) := by
  refine nk_i (own := "NoonShade") rfl (by decide) (Nat.le_of_ble_eq_true rfl) ?_
  intro p e s m below meth c ls X hD hN hr hlk h hl
  have hx := X.1.1
  have hb := X.1.2.1
  have hown := X.1.2.2.2.1
  have hts := X.1.2.2.2.2
  have hl : lv_has ls 6 [(0, .ref (ad 0)), (1, .int j), (2, .int t), (3, .int x), (4, .int u)] := hl
  refine lv_aload_n hx hb dX8_few_0 rfl (lv_at hl 0 rfl) ?_
  obtain ⟨x2, x3, q4, q5, q6, f1⟩ := (show sN ad (w 0) from ok 0 (by decide))
  have f7 : w 0 = .inr (6, [.ref (ad 1), .ref (ad 14), .ref (ad 27), .ref (ad 54), .ref (ad 55), .ref (ad 58), .ref (ad 62), .long x2, .long x3, .int q4, .int q5, .int q6]) := f1
  refine r_get kc8 X h 0 0 (by decide) rfl f7 (by decide) kv_172 rfl dX8_few_1 ?_
  refine lv_iload_n hx hb dX8_few_4 rfl (lv_at hl 1 rfl) ?_
  obtain ⟨q12, q13, q14, q15, q16, f11, h17, h18, h19, h20⟩ := (show sI ad 1 (w 1) from ok 1 (by decide))
  have f21 : w 1 = .inr (1, [.int q12, .int q13, .int q14, .int q15, .int q16, .ref (ad 2), .ref (ad 3), .ref (ad 4), .ref (ad 5), .ref (ad 6), .ref (ad 7), .ref (ad 8), .ref (ad 10), .ref (ad 12)]) := f11
  refine n_Vi (na := 1) (As := [.int j]) (rest := []) X hD hN h rfl (c_hasJar l G cI cB cZ cO ad w 1 (Or.inl rfl) ok j  ) ⟨kv_223, kv_224, kv_225, kv_37, kv_226⟩ rfl ⟨by decide, by decide, by decide⟩ ⟨Nat.le_of_ble_eq_true rfl, Nat.le_of_ble_eq_true rfl⟩ ⟨Nat.zero_le _, Nat.zero_le _⟩ (by decide) f21 rfl rfl hl.1 rfl (Nat.le_of_ble_eq_true rfl) dX8_few_5 (fun r8 w9 H locs hp10 h => ?_)
  obtain ⟨rfl, hr22⟩ := hp10
  rcases hr22 with ⟨hq23, hq24, rfl⟩ | rfl
  · refine lv_if_eq (tgt := 40) hx hb dX8_few_8 (by decide) (fun hc => absurd hc (by decide)) (fun _ => ?_)
    refine lv_iload_n hx hb dX8_few_11 rfl (lv_at hl 2 rfl) ?_
    refine lv_iconst (v := 0) hx hb dX8_few_12 (by decide) ?_
    refine lv_iconst (v := 3) hx hb dX8_few_13 (by decide) ?_
    refine n_Si (na := 3) (As := [.int t, .int 0, .int 3]) (rest := []) X hD hN h (c_within l G cI cB cZ cO ad w t (0 : Int32) (3 : Int32) ((t).toInt) 0 3 rfl rfl rfl) ⟨kv_247, kv_248, kv_212, kv_249⟩ ⟨by decide, by decide, by decide⟩ ⟨Nat.le_of_ble_eq_true rfl, Nat.le_of_ble_eq_true rfl⟩ ⟨Nat.zero_le _, Nat.zero_le _⟩ rfl hl.1 rfl (Nat.le_of_ble_eq_true rfl) dX8_few_14 (fun r25 w26 H locs hp27 h => ?_)
    obtain ⟨rfl, hq28⟩ := hp27
    rcases hq28 with ⟨hq29, hq30, rfl⟩ | ⟨hq28, rfl⟩
    · refine lv_if_eq (tgt := 40) hx hb dX8_few_17 (by decide) (fun hc => absurd hc (by decide)) (fun _ => ?_)
      refine lv_iload_n hx hb dX8_few_20 rfl (lv_at hl 3 rfl) ?_
      refine lv_iconst (v := 1) hx hb dX8_few_21 (by decide) ?_
      refine lv_bipush (v := 60) hx hb dX8_few_22 (by decide) ?_
      refine n_Si (na := 3) (As := [.int x, .int 1, .int 60]) (rest := []) X hD hN h (c_within l G cI cB cZ cO ad w x (1 : Int32) (60 : Int32) ((x).toInt) 1 60 rfl rfl rfl) ⟨kv_247, kv_248, kv_212, kv_249⟩ ⟨by decide, by decide, by decide⟩ ⟨Nat.le_of_ble_eq_true rfl, Nat.le_of_ble_eq_true rfl⟩ ⟨Nat.zero_le _, Nat.zero_le _⟩ rfl hl.1 rfl (Nat.le_of_ble_eq_true rfl) dX8_few_24 (fun r31 w32 H locs hp33 h => ?_)
      obtain ⟨rfl, hq34⟩ := hp33
      rcases hq34 with ⟨hq35, hq36, rfl⟩ | ⟨hq34, rfl⟩
      · refine lv_if_eq (tgt := 40) hx hb dX8_few_27 (by decide) (fun hc => absurd hc (by decide)) (fun _ => ?_)
        refine lv_iload hx hb dX8_few_30 (lv_at hl 4 rfl) ?_
        refine lv_iconst (v := 0) hx hb dX8_few_32 (by decide) ?_
        refine lv_iconst (v := 1) hx hb dX8_few_33 (by decide) ?_
        refine n_Si (na := 3) (As := [.int u, .int 0, .int 1]) (rest := []) X hD hN h (c_within l G cI cB cZ cO ad w u (0 : Int32) (1 : Int32) ((u).toInt) 0 1 rfl rfl rfl) ⟨kv_247, kv_248, kv_212, kv_249⟩ ⟨by decide, by decide, by decide⟩ ⟨Nat.le_of_ble_eq_true rfl, Nat.le_of_ble_eq_true rfl⟩ ⟨Nat.zero_le _, Nat.zero_le _⟩ rfl hl.1 rfl (Nat.le_of_ble_eq_true rfl) dX8_few_34 (fun r37 w38 H locs hp39 h => ?_)
        obtain ⟨rfl, hq40⟩ := hp39
        rcases hq40 with ⟨hq41, hq42, rfl⟩ | ⟨hq40, rfl⟩
        · refine lv_if_ne (tgt := 47) hx hb dX8_few_37 (by decide) (fun _ => ?_) (fun hc => absurd hc (by decide))
          refine lv_aload_n hx hb dX8_few_47 rfl (lv_at hl 0 rfl) ?_
          refine lv_iload_n hx hb dX8_few_48 rfl (lv_at hl 1 rfl) ?_
          refine lv_iload_n hx hb dX8_few_49 rfl (lv_at hl 2 rfl) ?_
          refine lv_iload_n hx hb dX8_few_50 rfl (lv_at hl 3 rfl) ?_
          refine n_Vi (na := 3) (As := [.int j, .int t, .int x]) (rest := []) X hD hN h rfl (c_fewestLadles l G cI cB cZ cO ad w  ok j t x (by omega) (by omega) ) ⟨kv_272, kv_273, kv_274, kv_212, kv_275⟩ rfl ⟨by decide, by decide, by decide⟩ ⟨Nat.le_of_ble_eq_true rfl, Nat.le_of_ble_eq_true rfl⟩ ⟨Nat.zero_le _, Nat.zero_le _⟩ (by decide) f7 rfl rfl hl.1 rfl (Nat.le_of_ble_eq_true rfl) dX8_few_51 (fun r43 w44 H locs hp45 h => ?_)
          obtain ⟨rfl, hr46⟩ := hp45
          refine lv_istore (lv' := [(5, .int r43), (0, .ref (ad 0)), (1, .int j), (2, .int t), (3, .int x), (4, .int u)]) hx hb dX8_few_54 hl (by decide) rfl (fun ls hl => ?_)
          refine lv_iload hx hb dX8_few_56 (lv_at hl 0 rfl) ?_
          refine lv_iconst (v := (-1)) hx hb dX8_few_58 (by decide) ?_
          refine lv_icmp_ne (tgt := 64) hx hb dX8_few_59 (by decide) (fun hc47 => ?_) (fun hc47 => ?_)
          · have hc47 : ¬ (r43).toInt = (-1) := i_ne hc47 rfl rfl
            refine lv_iload hx hb dX8_few_64 (lv_at hl 5 rfl) ?_
            refine lv_if_ne (tgt := 77) hx hb dX8_few_66 (by decide) (fun hc48 => ?_) (fun hc48 => ?_)
            · have hc48 : ¬ (u).toInt = 0 := i_ne hc48 rfl rfl
              refine lv_iload hx hb dX8_few_77 (lv_at hl 0 rfl) ?_
              exact e_i X h hr hlk dX8_few_79 ⟨ok, KX.rf, trivial⟩
            · have hc48 : (u).toInt = 0 := i_eq hc48 rfl rfl
              refine lv_iload hx hb dX8_few_69 (lv_at hl 0 rfl) ?_
              refine n_Si (na := 1) (As := [.int r43]) (rest := []) X hD hN h (c_bitCount l G cI cB cZ cO ad w   r43  ) ⟨kv_181, kv_182, kv_183, kv_184⟩ ⟨by decide, by decide, by decide⟩ ⟨Nat.le_of_ble_eq_true rfl, Nat.le_of_ble_eq_true rfl⟩ ⟨Nat.zero_le _, Nat.zero_le _⟩ rfl hl.1 rfl (Nat.le_of_ble_eq_true rfl) dX8_few_71 (fun r49 w50 H locs hp51 h => ?_)
              obtain ⟨rfl, hr52⟩ := hp51
              refine lv_goto (tgt := 79) hx hb dX8_few_74 (by decide) ?_
              exact e_i X h hr hlk dX8_few_79 ⟨ok, KX.rf, trivial⟩
          · have hc47 : (r43).toInt = (-1) := i_eq hc47 rfl rfl
            refine lv_iconst (v := (-1)) hx hb dX8_few_62 (by decide) ?_
            exact e_i X h hr hlk dX8_few_63 ⟨ok, KX.rf, trivial⟩
        · refine lv_if_ne (tgt := 47) hx hb dX8_few_37 (by decide) (fun hc => absurd (by decide) hc) (fun _ => ?_)
          refine lv_aload_n hx hb dX8_few_40 rfl (lv_at hl 0 rfl) ?_
          refine lv_bipush (v := (-2)) hx hb dX8_few_41 (by decide) ?_
          refine n_Vi (na := 1) (As := [.int (-2)]) (rest := []) X hD hN h rfl (c_refused l G cI cB cZ cO ad w  ok ((-2) : Int32)  ) ⟨kv_227, kv_228, kv_229, kv_212, kv_230⟩ rfl ⟨by decide, by decide, by decide⟩ ⟨Nat.le_of_ble_eq_true rfl, Nat.le_of_ble_eq_true rfl⟩ ⟨Nat.zero_le _, Nat.zero_le _⟩ (by decide) f7 rfl rfl hl.1 rfl (Nat.le_of_ble_eq_true rfl) dX8_few_43 (fun r53 w54 H locs hp55 h => ?_)
          obtain ⟨ok57, kk58, hr56⟩ := hp55
          have kx59 : KX w w54 := kk58
          subst hr56
          exact e_i X h hr hlk dX8_few_46 ⟨ok57, kx59, trivial⟩
      · refine lv_if_eq (tgt := 40) hx hb dX8_few_27 (by decide) (fun _ => ?_) (fun hc => absurd (by decide) hc)
        refine lv_aload_n hx hb dX8_few_40 rfl (lv_at hl 0 rfl) ?_
        refine lv_bipush (v := (-2)) hx hb dX8_few_41 (by decide) ?_
        refine n_Vi (na := 1) (As := [.int (-2)]) (rest := []) X hD hN h rfl (c_refused l G cI cB cZ cO ad w  ok ((-2) : Int32)  ) ⟨kv_227, kv_228, kv_229, kv_212, kv_230⟩ rfl ⟨by decide, by decide, by decide⟩ ⟨Nat.le_of_ble_eq_true rfl, Nat.le_of_ble_eq_true rfl⟩ ⟨Nat.zero_le _, Nat.zero_le _⟩ (by decide) f7 rfl rfl hl.1 rfl (Nat.le_of_ble_eq_true rfl) dX8_few_43 (fun r60 w61 H locs hp62 h => ?_)
        obtain ⟨ok64, kk65, hr63⟩ := hp62
        have kx66 : KX w w61 := kk65
        subst hr63
        exact e_i X h hr hlk dX8_few_46 ⟨ok64, kx66, trivial⟩
    · refine lv_if_eq (tgt := 40) hx hb dX8_few_17 (by decide) (fun _ => ?_) (fun hc => absurd (by decide) hc)
      refine lv_aload_n hx hb dX8_few_40 rfl (lv_at hl 0 rfl) ?_
      refine lv_bipush (v := (-2)) hx hb dX8_few_41 (by decide) ?_
      refine n_Vi (na := 1) (As := [.int (-2)]) (rest := []) X hD hN h rfl (c_refused l G cI cB cZ cO ad w  ok ((-2) : Int32)  ) ⟨kv_227, kv_228, kv_229, kv_212, kv_230⟩ rfl ⟨by decide, by decide, by decide⟩ ⟨Nat.le_of_ble_eq_true rfl, Nat.le_of_ble_eq_true rfl⟩ ⟨Nat.zero_le _, Nat.zero_le _⟩ (by decide) f7 rfl rfl hl.1 rfl (Nat.le_of_ble_eq_true rfl) dX8_few_43 (fun r67 w68 H locs hp69 h => ?_)
      obtain ⟨ok71, kk72, hr70⟩ := hp69
      have kx73 : KX w w68 := kk72
      subst hr70
      exact e_i X h hr hlk dX8_few_46 ⟨ok71, kx73, trivial⟩
  · refine lv_if_eq (tgt := 40) hx hb dX8_few_8 (by decide) (fun _ => ?_) (fun hc => absurd (by decide) hc)
    refine lv_aload_n hx hb dX8_few_40 rfl (lv_at hl 0 rfl) ?_
    refine lv_bipush (v := (-2)) hx hb dX8_few_41 (by decide) ?_
    refine n_Vi (na := 1) (As := [.int (-2)]) (rest := []) X hD hN h rfl (c_refused l G cI cB cZ cO ad w  ok ((-2) : Int32)  ) ⟨kv_227, kv_228, kv_229, kv_212, kv_230⟩ rfl ⟨by decide, by decide, by decide⟩ ⟨Nat.le_of_ble_eq_true rfl, Nat.le_of_ble_eq_true rfl⟩ ⟨Nat.zero_le _, Nat.zero_le _⟩ (by decide) f7 rfl rfl hl.1 rfl (Nat.le_of_ble_eq_true rfl) dX8_few_43 (fun r74 w75 H locs hp76 h => ?_)
    obtain ⟨ok78, kk79, hr77⟩ := hp76
    have kx80 : KX w w75 := kk79
    subst hr77
    exact e_i X h hr hlk dX8_few_46 ⟨ok78, kx80, trivial⟩

set_option maxHeartbeats 4000000 in
set_option maxRecDepth 100000 in
theorem c_X_into (l : Launch) (G : va_G) (cI cB cZ cO : ClassId) (ad : Nat → Nat) (w : Nat → va_E)  (ok : OK cI cB cZ cO ad w) (j : Int32) (n : Int32) (u : Int32)   : NI l G (tyq cI cB cZ cO) yX8_into cX8_into 8 (some .int) 4 96 74 ad w [.ref (ad 0), .int j, .int n, .int u] (fun r w1 => OK cI cB cZ cO ad w1 ∧ KX w w1 ∧ True) := by
  refine nk_i (own := "NoonShade") rfl (by decide) (Nat.le_of_ble_eq_true rfl) ?_
  intro p e s m below meth c ls X hD hN hr hlk h hl
  have hx := X.1.1
  have hb := X.1.2.1
  have hown := X.1.2.2.2.1
  have hts := X.1.2.2.2.2
  have hl : lv_has ls 8 [(0, .ref (ad 0)), (1, .int j), (2, .int n), (3, .int u)] := hl
  refine lv_aload_n hx hb dX8_into_0 rfl (lv_at hl 0 rfl) ?_
  obtain ⟨x2, x3, q4, q5, q6, f1⟩ := (show sN ad (w 0) from ok 0 (by decide))
  have f7 : w 0 = .inr (6, [.ref (ad 1), .ref (ad 14), .ref (ad 27), .ref (ad 54), .ref (ad 55), .ref (ad 58), .ref (ad 62), .long x2, .long x3, .int q4, .int q5, .int q6]) := f1
  refine r_get kc8 X h 0 0 (by decide) rfl f7 (by decide) kv_172 rfl dX8_into_1 ?_
  refine lv_iload_n hx hb dX8_into_4 rfl (lv_at hl 1 rfl) ?_
  obtain ⟨q12, q13, q14, q15, q16, f11, h17, h18, h19, h20⟩ := (show sI ad 1 (w 1) from ok 1 (by decide))
  have f21 : w 1 = .inr (1, [.int q12, .int q13, .int q14, .int q15, .int q16, .ref (ad 2), .ref (ad 3), .ref (ad 4), .ref (ad 5), .ref (ad 6), .ref (ad 7), .ref (ad 8), .ref (ad 10), .ref (ad 12)]) := f11
  refine n_Vi (na := 1) (As := [.int j]) (rest := []) X hD hN h rfl (c_hasJar l G cI cB cZ cO ad w 1 (Or.inl rfl) ok j  ) ⟨kv_223, kv_224, kv_225, kv_37, kv_226⟩ rfl ⟨by decide, by decide, by decide⟩ ⟨Nat.le_of_ble_eq_true rfl, Nat.le_of_ble_eq_true rfl⟩ ⟨Nat.zero_le _, Nat.zero_le _⟩ (by decide) f21 rfl rfl hl.1 rfl (Nat.le_of_ble_eq_true rfl) dX8_into_5 (fun r8 w9 H locs hp10 h => ?_)
  obtain ⟨rfl, hr22⟩ := hp10
  rcases hr22 with ⟨hq23, hq24, rfl⟩ | rfl
  · refine lv_if_eq (tgt := 30) hx hb dX8_into_8 (by decide) (fun hc => absurd hc (by decide)) (fun _ => ?_)
    refine lv_iload_n hx hb dX8_into_11 rfl (lv_at hl 2 rfl) ?_
    refine lv_iconst (v := 1) hx hb dX8_into_12 (by decide) ?_
    refine lv_bipush (v := 30) hx hb dX8_into_13 (by decide) ?_
    refine n_Si (na := 3) (As := [.int n, .int 1, .int 30]) (rest := []) X hD hN h (c_within l G cI cB cZ cO ad w n (1 : Int32) (30 : Int32) ((n).toInt) 1 30 rfl rfl rfl) ⟨kv_247, kv_248, kv_212, kv_249⟩ ⟨by decide, by decide, by decide⟩ ⟨Nat.le_of_ble_eq_true rfl, Nat.le_of_ble_eq_true rfl⟩ ⟨Nat.zero_le _, Nat.zero_le _⟩ rfl hl.1 rfl (Nat.le_of_ble_eq_true rfl) dX8_into_15 (fun r25 w26 H locs hp27 h => ?_)
    obtain ⟨rfl, hq28⟩ := hp27
    rcases hq28 with ⟨hq29, hq30, rfl⟩ | ⟨hq28, rfl⟩
    · refine lv_if_eq (tgt := 30) hx hb dX8_into_18 (by decide) (fun hc => absurd hc (by decide)) (fun _ => ?_)
      refine lv_iload_n hx hb dX8_into_21 rfl (lv_at hl 3 rfl) ?_
      refine lv_iconst (v := 0) hx hb dX8_into_22 (by decide) ?_
      refine lv_iconst (v := 1) hx hb dX8_into_23 (by decide) ?_
      refine n_Si (na := 3) (As := [.int u, .int 0, .int 1]) (rest := []) X hD hN h (c_within l G cI cB cZ cO ad w u (0 : Int32) (1 : Int32) ((u).toInt) 0 1 rfl rfl rfl) ⟨kv_247, kv_248, kv_212, kv_249⟩ ⟨by decide, by decide, by decide⟩ ⟨Nat.le_of_ble_eq_true rfl, Nat.le_of_ble_eq_true rfl⟩ ⟨Nat.zero_le _, Nat.zero_le _⟩ rfl hl.1 rfl (Nat.le_of_ble_eq_true rfl) dX8_into_24 (fun r31 w32 H locs hp33 h => ?_)
      obtain ⟨rfl, hq34⟩ := hp33
      rcases hq34 with ⟨hq35, hq36, rfl⟩ | ⟨hq34, rfl⟩
      · refine lv_if_ne (tgt := 37) hx hb dX8_into_27 (by decide) (fun _ => ?_) (fun hc => absurd hc (by decide))
        refine lv_aload_n hx hb dX8_into_37 rfl (lv_at hl 0 rfl) ?_
        refine r_get kc8 X h 0 0 (by decide) rfl f7 (by decide) kv_172 rfl dX8_into_38 ?_
        refine r_get kc2 X h 1 9 (by decide) rfl f21 (by decide) kv_193 rfl dX8_into_41 ?_
        refine lv_iload_n hx hb dX8_into_44 rfl (lv_at hl 1 rfl) ?_
        obtain ⟨g38, f37, p39⟩ := (show sA cI 4 (rgA 0 60) (w 6) from ok 6 (by decide))
        have f40 : w 6 = .inl (cI, 4, .inl g38) := f37
        obtain ⟨v41, e42⟩ : ∃ z : Int32, g38 (j).toNatClampNeg = z := ⟨_, rfl⟩
        have h43 := rgA_rd p39 e42
        refine o_iald (v := v41) X h 6 0 (by decide) rfl f40 rfl (in_of (by omega) (by omega)) e42 dX8_into_45 ?_
        refine lv_if_ne (tgt := 51) hx hb dX8_into_46 (by decide) (fun hc44 => ?_) (fun hc44 => ?_)
        · have hc44 : ¬ (v41).toInt = 0 := i_ne hc44 rfl rfl
          refine lv_iconst (v := (-1)) hx hb dX8_into_51 (by decide) ?_
          refine lv_istore (lv' := [(4, .int (-1)), (0, .ref (ad 0)), (1, .int j), (2, .int n), (3, .int u)]) hx hb dX8_into_52 hl (by decide) rfl (fun ls hl => ?_)
          refine lv_iconst (v := (-1)) hx hb dX8_into_54 (by decide) ?_
          refine lv_istore (lv' := [(5, .int (-1)), (4, .int (-1)), (0, .ref (ad 0)), (1, .int j), (2, .int n), (3, .int u)]) hx hb dX8_into_55 hl (by decide) rfl (fun ls hl => ?_)
          refine lv_iconst (v := 0) hx hb dX8_into_57 (by decide) ?_
          refine lv_istore (lv' := [(6, .int 0), (5, .int (-1)), (4, .int (-1)), (0, .ref (ad 0)), (1, .int j), (2, .int n), (3, .int u)]) hx hb dX8_into_58 hl (by decide) rfl (fun ls hl => ?_)
          have hloop49 : ∀ (d50 : Nat) (L45 : Int32) (L46 : Int32) (L47 : Int32) (wL48 : Nat → va_E) (H : Heap) (locs : List Loc) (ls : Array Slot), 0 ≤ L45.toInt → L45.toInt ≤ 4 → OK cI cB cZ cO ad wL48 → KX w wL48 → 4 - L45.toInt < (d50 : Int) → St G 74 ad (wA 74 ad s.heap.size) s.heap wL48 H locs → lv_has ls 8 [(6, .int L45), (5, .int L46), (4, .int L47), (0, .ref (ad 0)), (1, .int j), (2, .int n), (3, .int u)] → W p l e { frames := 4, cells := 0, slots := 0, locals := 96 } s m [.ref (ad 0), .int j, .int n, .int u].toArray below meth c H locs 0 0 (MQ below (va_Qi (fun r w1 => OK cI cB cZ cO ad w1 ∧ KX w w1 ∧ True) (Aft G 74 ad) (wA 74 ad s.heap.size)) [.ref (ad 0), .int j, .int n, .int u].toArray s 0 0 (wA 74 ad s.heap.size)) (F0 m 60 ls []) := by
            intro d50
            induction d50 with
            | zero => intro L45 L46 L47 wL48 H locs ls hi53 hi54 ok55 kx56 hm52 h hl; exfalso; omega
            | succ d50 ih51 =>
              intro L45 L46 L47 wL48 H locs ls hi53 hi54 ok55 kx56 hm52 h hl
              refine lv_iload hx hb dX8_into_60 (lv_at hl 0 rfl) ?_
              refine lv_aload_n hx hb dX8_into_62 rfl (lv_at hl 3 rfl) ?_
              obtain ⟨x59, x60, q61, q62, q63, f58⟩ := (show sN ad (wL48 0) from ok55 0 (by decide))
              have f64 : wL48 0 = .inr (6, [.ref (ad 1), .ref (ad 14), .ref (ad 27), .ref (ad 54), .ref (ad 55), .ref (ad 58), .ref (ad 62), .long x59, .long x60, .int q61, .int q62, .int q63]) := f58
              refine r_get kc8 X h 0 0 (by decide) rfl f64 (by decide) kv_172 rfl dX8_into_63 ?_
              obtain ⟨q66, q67, q68, q69, q70, f65, h71, h72, h73, h74⟩ := (show sI ad 1 (wL48 1) from ok55 1 (by decide))
              have f75 : wL48 1 = .inr (1, [.int q66, .int q67, .int q68, .int q69, .int q70, .ref (ad 2), .ref (ad 3), .ref (ad 4), .ref (ad 5), .ref (ad 6), .ref (ad 7), .ref (ad 8), .ref (ad 10), .ref (ad 12)]) := f65
              refine r_get kc2 X h 1 4 (by decide) rfl f75 (by decide) kv_174 rfl dX8_into_66 ?_
              refine lv_icmp_ge (tgt := 113) hx hb dX8_into_69 (by decide) (fun hc76 => ?_) (fun hc76 => ?_)
              · have hc76 : (q70).toInt ≤ (L45).toInt := i_le hc76 rfl rfl
                refine lv_iload_n hx hb dX8_into_113 rfl (lv_at hl 6 rfl) ?_
                refine lv_if_ne (tgt := 122) hx hb dX8_into_114 (by decide) (fun hc77 => ?_) (fun hc77 => ?_)
                · have hc77 : ¬ (u).toInt = 0 := i_ne hc77 rfl rfl
                  refine lv_iload hx hb dX8_into_122 (lv_at hl 1 rfl) ?_
                  exact e_i X h hr hlk dX8_into_124 ⟨ok55, kx56, trivial⟩
                · have hc77 : (u).toInt = 0 := i_eq hc77 rfl rfl
                  refine lv_iload hx hb dX8_into_117 (lv_at hl 2 rfl) ?_
                  refine lv_goto (tgt := 124) hx hb dX8_into_119 (by decide) ?_
                  exact e_i X h hr hlk dX8_into_124 ⟨ok55, kx56, trivial⟩
              · have hc76 : ¬ (q70).toInt ≤ (L45).toInt := i_nle hc76 rfl rfl
                refine lv_iload hx hb dX8_into_72 (lv_at hl 0 rfl) ?_
                refine lv_iload_n hx hb dX8_into_74 rfl (lv_at hl 4 rfl) ?_
                refine lv_icmp_ne (tgt := 82) hx hb dX8_into_75 (by decide) (fun hc78 => ?_) (fun hc78 => ?_)
                · have hc78 : ¬ (L45).toInt = (j).toInt := i_ne hc78 rfl rfl
                  refine lv_aload_n hx hb dX8_into_82 rfl (lv_at hl 3 rfl) ?_
                  refine lv_iload_n hx hb dX8_into_83 rfl (lv_at hl 4 rfl) ?_
                  refine lv_iload hx hb dX8_into_84 (lv_at hl 0 rfl) ?_
                  refine lv_iload_n hx hb dX8_into_86 rfl (lv_at hl 5 rfl) ?_
                  refine n_Vi (na := 3) (As := [.int j, .int L45, .int n]) (rest := []) X hD hN h rfl (c_pouredBehind l G cI cB cZ cO ad wL48  ok55 j L45 n (by omega) (by omega) (by omega) (by omega) (by omega) (by omega) ) ⟨kv_276, kv_277, kv_278, kv_212, kv_279⟩ rfl ⟨by decide, by decide, by decide⟩ ⟨Nat.le_of_ble_eq_true rfl, Nat.le_of_ble_eq_true rfl⟩ ⟨Nat.zero_le _, Nat.zero_le _⟩ (by decide) f64 rfl rfl hl.1 rfl (Nat.le_of_ble_eq_true rfl) dX8_into_87 (fun r79 w80 H locs hp81 h => ?_)
                  obtain ⟨rfl, hr82⟩ := hp81
                  refine lv_istore (lv' := [(7, .int r79), (6, .int L45), (5, .int L46), (4, .int L47), (0, .ref (ad 0)), (1, .int j), (2, .int n), (3, .int u)]) hx hb dX8_into_90 hl (by decide) rfl (fun ls hl => ?_)
                  refine lv_iload hx hb dX8_into_92 (lv_at hl 0 rfl) ?_
                  refine lv_iload hx hb dX8_into_94 (lv_at hl 2 rfl) ?_
                  refine lv_icmp_le (tgt := 107) hx hb dX8_into_96 (by decide) (fun hc83 => ?_) (fun hc83 => ?_)
                  · have hc83 : (r79).toInt ≤ (L46).toInt := i_le hc83 rfl rfl
                    obtain ⟨z84, e85, t86⟩ := x_add (x := L45) (y := 1) (a := L45.toInt) (b := 1) rfl rfl (by omega) (by omega)
                    refine lv_iinc (v := z84) (lv' := [(6, .int z84), (7, .int r79), (5, .int L46), (4, .int L47), (0, .ref (ad 0)), (1, .int j), (2, .int n), (3, .int u)]) hx hb dX8_into_107 hl (k := 1) rfl e85 (by decide) rfl (fun ls hl => ?_)
                    refine lv_goto (tgt := 60) hx hb dX8_into_110 (by decide) ?_
                    exact ih51  z84 L46 L47 wL48 _ _ _ (by omega) (by omega) ok55 kx56 (by omega) h (lv_sub hl [0, 2, 3, 4, 5, 6, 7] rfl)
                  · have hc83 : ¬ (r79).toInt ≤ (L46).toInt := i_nle hc83 rfl rfl
                    refine lv_iload hx hb dX8_into_99 (lv_at hl 1 rfl) ?_
                    refine lv_istore (lv' := [(4, .int L45), (7, .int r79), (6, .int L45), (5, .int L46), (0, .ref (ad 0)), (1, .int j), (2, .int n), (3, .int u)]) hx hb dX8_into_101 hl (by decide) rfl (fun ls hl => ?_)
                    refine lv_iload hx hb dX8_into_103 (lv_at hl 1 rfl) ?_
                    refine lv_istore (lv' := [(5, .int r79), (4, .int L45), (7, .int r79), (6, .int L45), (0, .ref (ad 0)), (1, .int j), (2, .int n), (3, .int u)]) hx hb dX8_into_105 hl (by decide) rfl (fun ls hl => ?_)
                    obtain ⟨z87, e88, t89⟩ := x_add (x := L45) (y := 1) (a := L45.toInt) (b := 1) rfl rfl (by omega) (by omega)
                    refine lv_iinc (v := z87) (lv' := [(6, .int z87), (5, .int r79), (4, .int L45), (7, .int r79), (0, .ref (ad 0)), (1, .int j), (2, .int n), (3, .int u)]) hx hb dX8_into_107 hl (k := 3) rfl e88 (by decide) rfl (fun ls hl => ?_)
                    refine lv_goto (tgt := 60) hx hb dX8_into_110 (by decide) ?_
                    exact ih51  z87 r79 L45 wL48 _ _ _ (by omega) (by omega) ok55 kx56 (by omega) h (lv_sub hl [0, 1, 2, 4, 5, 6, 7] rfl)
                · have hc78 : (L45).toInt = (j).toInt := i_eq hc78 rfl rfl
                  refine lv_iconst (v := (-1)) hx hb dX8_into_78 (by decide) ?_
                  refine lv_goto (tgt := 90) hx hb dX8_into_79 (by decide) ?_
                  refine lv_istore (lv' := [(7, .int (-1)), (6, .int L45), (5, .int L46), (4, .int L47), (0, .ref (ad 0)), (1, .int j), (2, .int n), (3, .int u)]) hx hb dX8_into_90 hl (by decide) rfl (fun ls hl => ?_)
                  refine lv_iload hx hb dX8_into_92 (lv_at hl 0 rfl) ?_
                  refine lv_iload hx hb dX8_into_94 (lv_at hl 2 rfl) ?_
                  refine lv_icmp_le (tgt := 107) hx hb dX8_into_96 (by decide) (fun hc90 => ?_) (fun hc90 => ?_)
                  · have hc90 : (-1) ≤ (L46).toInt := i_le hc90 rfl rfl
                    obtain ⟨z91, e92, t93⟩ := x_add (x := L45) (y := 1) (a := L45.toInt) (b := 1) rfl rfl (by omega) (by omega)
                    refine lv_iinc (v := z91) (lv' := [(6, .int z91), (7, .int (-1)), (5, .int L46), (4, .int L47), (0, .ref (ad 0)), (1, .int j), (2, .int n), (3, .int u)]) hx hb dX8_into_107 hl (k := 1) rfl e92 (by decide) rfl (fun ls hl => ?_)
                    refine lv_goto (tgt := 60) hx hb dX8_into_110 (by decide) ?_
                    exact ih51  z91 L46 L47 wL48 _ _ _ (by omega) (by omega) ok55 kx56 (by omega) h (lv_sub hl [0, 2, 3, 4, 5, 6, 7] rfl)
                  · have hc90 : ¬ (-1) ≤ (L46).toInt := i_nle hc90 rfl rfl
                    refine lv_iload hx hb dX8_into_99 (lv_at hl 1 rfl) ?_
                    refine lv_istore (lv' := [(4, .int L45), (7, .int (-1)), (6, .int L45), (5, .int L46), (0, .ref (ad 0)), (1, .int j), (2, .int n), (3, .int u)]) hx hb dX8_into_101 hl (by decide) rfl (fun ls hl => ?_)
                    refine lv_iload hx hb dX8_into_103 (lv_at hl 1 rfl) ?_
                    refine lv_istore (lv' := [(5, .int (-1)), (4, .int L45), (7, .int (-1)), (6, .int L45), (0, .ref (ad 0)), (1, .int j), (2, .int n), (3, .int u)]) hx hb dX8_into_105 hl (by decide) rfl (fun ls hl => ?_)
                    obtain ⟨z94, e95, t96⟩ := x_add (x := L45) (y := 1) (a := L45.toInt) (b := 1) rfl rfl (by omega) (by omega)
                    refine lv_iinc (v := z94) (lv' := [(6, .int z94), (5, .int (-1)), (4, .int L45), (7, .int (-1)), (0, .ref (ad 0)), (1, .int j), (2, .int n), (3, .int u)]) hx hb dX8_into_107 hl (k := 3) rfl e95 (by decide) rfl (fun ls hl => ?_)
                    refine lv_goto (tgt := 60) hx hb dX8_into_110 (by decide) ?_
                    exact ih51  z94 ((-1) : Int32) L45 wL48 _ _ _ (by have q0 : ((-1) : Int32).toInt = (-1) := rfl; omega) (by have q0 : ((-1) : Int32).toInt = (-1) := rfl; omega) ok55 kx56 (by have q0 : ((-1) : Int32).toInt = (-1) := rfl; omega) h (lv_sub hl [0, 1, 2, 4, 5, 6, 7] rfl)
          exact hloop49 5 (0 : Int32) ((-1) : Int32) ((-1) : Int32) w _ _ _ (by have q0 : (0 : Int32).toInt = 0 := rfl; have q1 : ((-1) : Int32).toInt = (-1) := rfl; omega) (by have q0 : (0 : Int32).toInt = 0 := rfl; have q1 : ((-1) : Int32).toInt = (-1) := rfl; omega) ok KX.rf (by have q0 : (0 : Int32).toInt = 0 := rfl; have q1 : ((-1) : Int32).toInt = (-1) := rfl; omega) h (lv_sub hl [0, 1, 2, 3, 4, 5, 6] rfl)
        · have hc44 : (v41).toInt = 0 := i_eq hc44 rfl rfl
          refine lv_iconst (v := (-1)) hx hb dX8_into_49 (by decide) ?_
          exact e_i X h hr hlk dX8_into_50 ⟨ok, KX.rf, trivial⟩
      · refine lv_if_ne (tgt := 37) hx hb dX8_into_27 (by decide) (fun hc => absurd (by decide) hc) (fun _ => ?_)
        refine lv_aload_n hx hb dX8_into_30 rfl (lv_at hl 0 rfl) ?_
        refine lv_bipush (v := (-2)) hx hb dX8_into_31 (by decide) ?_
        refine n_Vi (na := 1) (As := [.int (-2)]) (rest := []) X hD hN h rfl (c_refused l G cI cB cZ cO ad w  ok ((-2) : Int32)  ) ⟨kv_227, kv_228, kv_229, kv_212, kv_230⟩ rfl ⟨by decide, by decide, by decide⟩ ⟨Nat.le_of_ble_eq_true rfl, Nat.le_of_ble_eq_true rfl⟩ ⟨Nat.zero_le _, Nat.zero_le _⟩ (by decide) f7 rfl rfl hl.1 rfl (Nat.le_of_ble_eq_true rfl) dX8_into_33 (fun r97 w98 H locs hp99 h => ?_)
        obtain ⟨ok101, kk102, hr100⟩ := hp99
        have kx103 : KX w w98 := kk102
        subst hr100
        exact e_i X h hr hlk dX8_into_36 ⟨ok101, kx103, trivial⟩
    · refine lv_if_eq (tgt := 30) hx hb dX8_into_18 (by decide) (fun _ => ?_) (fun hc => absurd (by decide) hc)
      refine lv_aload_n hx hb dX8_into_30 rfl (lv_at hl 0 rfl) ?_
      refine lv_bipush (v := (-2)) hx hb dX8_into_31 (by decide) ?_
      refine n_Vi (na := 1) (As := [.int (-2)]) (rest := []) X hD hN h rfl (c_refused l G cI cB cZ cO ad w  ok ((-2) : Int32)  ) ⟨kv_227, kv_228, kv_229, kv_212, kv_230⟩ rfl ⟨by decide, by decide, by decide⟩ ⟨Nat.le_of_ble_eq_true rfl, Nat.le_of_ble_eq_true rfl⟩ ⟨Nat.zero_le _, Nat.zero_le _⟩ (by decide) f7 rfl rfl hl.1 rfl (Nat.le_of_ble_eq_true rfl) dX8_into_33 (fun r104 w105 H locs hp106 h => ?_)
      obtain ⟨ok108, kk109, hr107⟩ := hp106
      have kx110 : KX w w105 := kk109
      subst hr107
      exact e_i X h hr hlk dX8_into_36 ⟨ok108, kx110, trivial⟩
  · refine lv_if_eq (tgt := 30) hx hb dX8_into_8 (by decide) (fun _ => ?_) (fun hc => absurd (by decide) hc)
    refine lv_aload_n hx hb dX8_into_30 rfl (lv_at hl 0 rfl) ?_
    refine lv_bipush (v := (-2)) hx hb dX8_into_31 (by decide) ?_
    refine n_Vi (na := 1) (As := [.int (-2)]) (rest := []) X hD hN h rfl (c_refused l G cI cB cZ cO ad w  ok ((-2) : Int32)  ) ⟨kv_227, kv_228, kv_229, kv_212, kv_230⟩ rfl ⟨by decide, by decide, by decide⟩ ⟨Nat.le_of_ble_eq_true rfl, Nat.le_of_ble_eq_true rfl⟩ ⟨Nat.zero_le _, Nat.zero_le _⟩ (by decide) f7 rfl rfl hl.1 rfl (Nat.le_of_ble_eq_true rfl) dX8_into_33 (fun r111 w112 H locs hp113 h => ?_)
    obtain ⟨ok115, kk116, hr114⟩ := hp113
    have kx117 : KX w w112 := kk116
    subst hr114
    exact e_i X h hr hlk dX8_into_36 ⟨ok115, kx117, trivial⟩

set_option maxHeartbeats 4000000 in
set_option maxRecDepth 100000 in
theorem c_X_is (l : Launch) (G : va_G) (cI cB cZ cO : ClassId) (ad : Nat → Nat) (w : Nat → va_E)  (ok : OK cI cB cZ cO ad w) (i : Int32)   : NI l G (tyq cI cB cZ cO) yX8_is cX8_is 2 (some .int) 5 117 74 ad w [.ref (ad 0), .int i] (fun r w1 => OK cI cB cZ cO ad w1 ∧ KX w w1 ∧ True) := by
  refine nk_i (own := "NoonShade") rfl (by decide) (Nat.le_of_ble_eq_true rfl) ?_
  intro p e s m below meth c ls X hD hN hr hlk h hl
  have hx := X.1.1
  have hb := X.1.2.1
  have hown := X.1.2.2.2.1
  have hts := X.1.2.2.2.2
  have hl : lv_has ls 2 [(0, .ref (ad 0)), (1, .int i)] := hl
  refine lv_aload_n hx hb dX8_is_0 rfl (lv_at hl 0 rfl) ?_
  obtain ⟨x2, x3, q4, q5, q6, f1⟩ := (show sN ad (w 0) from ok 0 (by decide))
  have f7 : w 0 = .inr (6, [.ref (ad 1), .ref (ad 14), .ref (ad 27), .ref (ad 54), .ref (ad 55), .ref (ad 58), .ref (ad 62), .long x2, .long x3, .int q4, .int q5, .int q6]) := f1
  refine r_get kc8 X h 0 0 (by decide) rfl f7 (by decide) kv_172 rfl dX8_is_1 ?_
  refine lv_iload_n hx hb dX8_is_4 rfl (lv_at hl 1 rfl) ?_
  obtain ⟨q12, q13, q14, q15, q16, f11, h17, h18, h19, h20⟩ := (show sI ad 1 (w 1) from ok 1 (by decide))
  have f21 : w 1 = .inr (1, [.int q12, .int q13, .int q14, .int q15, .int q16, .ref (ad 2), .ref (ad 3), .ref (ad 4), .ref (ad 5), .ref (ad 6), .ref (ad 7), .ref (ad 8), .ref (ad 10), .ref (ad 12)]) := f11
  refine n_Vi (na := 1) (As := [.int i]) (rest := []) X hD hN h rfl (c_hasCaster l G cI cB cZ cO ad w 1 (Or.inl rfl) ok i  ) ⟨kv_219, kv_220, kv_221, kv_37, kv_222⟩ rfl ⟨by decide, by decide, by decide⟩ ⟨Nat.le_of_ble_eq_true rfl, Nat.le_of_ble_eq_true rfl⟩ ⟨Nat.zero_le _, Nat.zero_le _⟩ (by decide) f21 rfl rfl hl.1 rfl (Nat.le_of_ble_eq_true rfl) dX8_is_5 (fun r8 w9 H locs hp10 h => ?_)
  obtain ⟨rfl, hr22⟩ := hp10
  rcases hr22 with ⟨hq23, hq24, rfl⟩ | rfl
  · refine lv_if_ne (tgt := 18) hx hb dX8_is_8 (by decide) (fun _ => ?_) (fun hc => absurd hc (by decide))
    refine lv_aload_n hx hb dX8_is_18 rfl (lv_at hl 0 rfl) ?_
    refine r_get kc8 X h 0 6 (by decide) rfl f7 (by decide) kv_280 rfl dX8_is_19 ?_
    refine lv_iconst (v := 0) hx hb dX8_is_22 (by decide) ?_
    refine lv_aload_n hx hb dX8_is_23 rfl (lv_at hl 0 rfl) ?_
    refine r_get kc8 X h 0 0 (by decide) rfl f7 (by decide) kv_172 rfl dX8_is_24 ?_
    refine r_get kc2 X h 1 11 (by decide) rfl f21 (by decide) kv_186 rfl dX8_is_27 ?_
    refine lv_iload_n hx hb dX8_is_30 rfl (lv_at hl 1 rfl) ?_
    have f28 : w 62 = .inr (0, [.ref (ad 63)]) := ok 62 (by decide)
    have f29 : w 62 = .inr (0, [.ref (ad 63)]) := f28
    refine n_Vi (na := 3) (As := [.int 0, .ref (ad 8), .int i]) (rest := []) X hD hN h rfl (c_fitting l G cI cB cZ cO ad w 8 (Or.inl rfl) ok (0 : Int32) i  ) ⟨kv_281, kv_282, kv_283, kv_82, kv_284⟩ rfl ⟨by decide, by decide, by decide⟩ ⟨Nat.le_of_ble_eq_true rfl, Nat.le_of_ble_eq_true rfl⟩ ⟨Nat.zero_le _, Nat.zero_le _⟩ (by decide) f29 rfl rfl hl.1 rfl (Nat.le_of_ble_eq_true rfl) dX8_is_31 (fun r25 w26 H locs hp27 h => ?_)
    obtain ⟨rfl, hr30⟩ := hp27
    exact e_i X h hr hlk dX8_is_34 ⟨ok, KX.rf, trivial⟩
  · refine lv_if_ne (tgt := 18) hx hb dX8_is_8 (by decide) (fun hc => absurd (by decide) hc) (fun _ => ?_)
    refine lv_aload_n hx hb dX8_is_11 rfl (lv_at hl 0 rfl) ?_
    refine lv_bipush (v := (-2)) hx hb dX8_is_12 (by decide) ?_
    refine n_Vi (na := 1) (As := [.int (-2)]) (rest := []) X hD hN h rfl (c_refused l G cI cB cZ cO ad w  ok ((-2) : Int32)  ) ⟨kv_227, kv_228, kv_229, kv_212, kv_230⟩ rfl ⟨by decide, by decide, by decide⟩ ⟨Nat.le_of_ble_eq_true rfl, Nat.le_of_ble_eq_true rfl⟩ ⟨Nat.zero_le _, Nat.zero_le _⟩ (by decide) f7 rfl rfl hl.1 rfl (Nat.le_of_ble_eq_true rfl) dX8_is_14 (fun r31 w32 H locs hp33 h => ?_)
    obtain ⟨ok35, kk36, hr34⟩ := hp33
    have kx37 : KX w w32 := kk36
    subst hr34
    exact e_i X h hr hlk dX8_is_17 ⟨ok35, kx37, trivial⟩

set_option maxHeartbeats 4000000 in
set_option maxRecDepth 100000 in
theorem c_X_look (l : Launch) (G : va_G) (cI cB cZ cO : ClassId) (ad : Nat → Nat) (w : Nat → va_E)  (ok : OK cI cB cZ cO ad w) (i : Int32)   : NI l G (tyq cI cB cZ cO) yX8_look cX8_look 4 (some .int) 5 125 74 ad w [.ref (ad 0), .int i] (fun r w1 => OK cI cB cZ cO ad w1 ∧ KX w w1 ∧ True) := by
  refine nk_i (own := "NoonShade") rfl (by decide) (Nat.le_of_ble_eq_true rfl) ?_
  intro p e s m below meth c ls X hD hN hr hlk h hl
  have hx := X.1.1
  have hb := X.1.2.1
  have hown := X.1.2.2.2.1
  have hts := X.1.2.2.2.2
  have hl : lv_has ls 4 [(0, .ref (ad 0)), (1, .int i)] := hl
  refine lv_aload_n hx hb dX8_look_0 rfl (lv_at hl 0 rfl) ?_
  obtain ⟨x2, x3, q4, q5, q6, f1⟩ := (show sN ad (w 0) from ok 0 (by decide))
  have f7 : w 0 = .inr (6, [.ref (ad 1), .ref (ad 14), .ref (ad 27), .ref (ad 54), .ref (ad 55), .ref (ad 58), .ref (ad 62), .long x2, .long x3, .int q4, .int q5, .int q6]) := f1
  refine r_get kc8 X h 0 0 (by decide) rfl f7 (by decide) kv_172 rfl dX8_look_1 ?_
  refine lv_iload_n hx hb dX8_look_4 rfl (lv_at hl 1 rfl) ?_
  obtain ⟨q12, q13, q14, q15, q16, f11, h17, h18, h19, h20⟩ := (show sI ad 1 (w 1) from ok 1 (by decide))
  have f21 : w 1 = .inr (1, [.int q12, .int q13, .int q14, .int q15, .int q16, .ref (ad 2), .ref (ad 3), .ref (ad 4), .ref (ad 5), .ref (ad 6), .ref (ad 7), .ref (ad 8), .ref (ad 10), .ref (ad 12)]) := f11
  refine n_Vi (na := 1) (As := [.int i]) (rest := []) X hD hN h rfl (c_hasCaster l G cI cB cZ cO ad w 1 (Or.inl rfl) ok i  ) ⟨kv_219, kv_220, kv_221, kv_37, kv_222⟩ rfl ⟨by decide, by decide, by decide⟩ ⟨Nat.le_of_ble_eq_true rfl, Nat.le_of_ble_eq_true rfl⟩ ⟨Nat.zero_le _, Nat.zero_le _⟩ (by decide) f21 rfl rfl hl.1 rfl (Nat.le_of_ble_eq_true rfl) dX8_look_5 (fun r8 w9 H locs hp10 h => ?_)
  obtain ⟨rfl, hr22⟩ := hp10
  rcases hr22 with ⟨hq23, hq24, rfl⟩ | rfl
  · refine lv_if_ne (tgt := 18) hx hb dX8_look_8 (by decide) (fun _ => ?_) (fun hc => absurd hc (by decide))
    refine lv_aload_n hx hb dX8_look_18 rfl (lv_at hl 0 rfl) ?_
    refine r_get kc8 X h 0 6 (by decide) rfl f7 (by decide) kv_280 rfl dX8_look_19 ?_
    refine lv_iconst (v := 0) hx hb dX8_look_22 (by decide) ?_
    refine lv_aload_n hx hb dX8_look_23 rfl (lv_at hl 0 rfl) ?_
    refine r_get kc8 X h 0 0 (by decide) rfl f7 (by decide) kv_172 rfl dX8_look_24 ?_
    refine r_get kc2 X h 1 11 (by decide) rfl f21 (by decide) kv_186 rfl dX8_look_27 ?_
    refine lv_iload_n hx hb dX8_look_30 rfl (lv_at hl 1 rfl) ?_
    have f28 : w 62 = .inr (0, [.ref (ad 63)]) := ok 62 (by decide)
    have f29 : w 62 = .inr (0, [.ref (ad 63)]) := f28
    refine n_Vi (na := 3) (As := [.int 0, .ref (ad 8), .int i]) (rest := []) X hD hN h rfl (c_fitting l G cI cB cZ cO ad w 8 (Or.inl rfl) ok (0 : Int32) i  ) ⟨kv_281, kv_282, kv_283, kv_82, kv_284⟩ rfl ⟨by decide, by decide, by decide⟩ ⟨Nat.le_of_ble_eq_true rfl, Nat.le_of_ble_eq_true rfl⟩ ⟨Nat.zero_le _, Nat.zero_le _⟩ (by decide) f29 rfl rfl hl.1 rfl (Nat.le_of_ble_eq_true rfl) dX8_look_31 (fun r25 w26 H locs hp27 h => ?_)
    obtain ⟨rfl, hr30⟩ := hp27
    refine lv_istore_n (lv' := [(2, .int r25), (0, .ref (ad 0)), (1, .int i)]) hx hb dX8_look_34 rfl hl (by decide) rfl (fun ls hl => ?_)
    refine lv_aload_n hx hb dX8_look_35 rfl (lv_at hl 1 rfl) ?_
    refine r_get kc8 X h 0 6 (by decide) rfl f7 (by decide) kv_280 rfl dX8_look_36 ?_
    refine lv_iconst (v := 0) hx hb dX8_look_39 (by decide) ?_
    refine lv_iload_n hx hb dX8_look_40 rfl (lv_at hl 0 rfl) ?_
    refine lv_aload_n hx hb dX8_look_41 rfl (lv_at hl 1 rfl) ?_
    refine r_get kc8 X h 0 0 (by decide) rfl f7 (by decide) kv_172 rfl dX8_look_42 ?_
    refine r_get kc2 X h 1 6 (by decide) rfl f21 (by decide) kv_259 rfl dX8_look_45 ?_
    refine lv_iload_n hx hb dX8_look_48 rfl (lv_at hl 2 rfl) ?_
    obtain ⟨g32, f31, p33⟩ := (show sA cI 7 (rgA 0 9) (w 3) from ok 3 (by decide))
    have f34 : w 3 = .inl (cI, 7, .inl g32) := f31
    obtain ⟨v35, e36⟩ : ∃ z : Int32, g32 (i).toNatClampNeg = z := ⟨_, rfl⟩
    have h37 := rgA_rd p33 e36
    refine o_iald (v := v35) X h 3 0 (by decide) rfl f34 rfl (in_of (by omega) (by omega)) e36 dX8_look_49 ?_
    refine lv_aload_n hx hb dX8_look_50 rfl (lv_at hl 1 rfl) ?_
    refine r_get kc8 X h 0 0 (by decide) rfl f7 (by decide) kv_172 rfl dX8_look_51 ?_
    refine r_get kc2 X h 1 6 (by decide) rfl f21 (by decide) kv_259 rfl dX8_look_54 ?_
    refine lv_iload_n hx hb dX8_look_57 rfl (lv_at hl 2 rfl) ?_
    refine o_iald (v := v35) X h 3 0 (by decide) rfl f34 rfl (in_of (by omega) (by omega)) e36 dX8_look_58 ?_
    refine n_Vi (na := 4) (As := [.int 0, .int r25, .int v35, .int v35]) (rest := []) X hD hN h rfl (c_tellingMost l G cI cB cZ cO ad w  ok (0 : Int32) r25 v35 v35 (by omega) (by omega) (by omega) (by omega) ) ⟨kv_285, kv_286, kv_287, kv_82, kv_288⟩ rfl ⟨by decide, by decide, by decide⟩ ⟨Nat.le_of_ble_eq_true rfl, Nat.le_of_ble_eq_true rfl⟩ ⟨Nat.zero_le _, Nat.zero_le _⟩ (by decide) f29 rfl rfl hl.1 rfl (Nat.le_of_ble_eq_true rfl) dX8_look_59 (fun r38 w39 H locs hp40 h => ?_)
    obtain ⟨ok42, kk43, hr41⟩ := hp40
    have kx44 : KX w w39 := kk43
    refine lv_istore_n (lv' := [(3, .int r38), (2, .int r25), (0, .ref (ad 0)), (1, .int i)]) hx hb dX8_look_62 rfl hl (by decide) rfl (fun ls hl => ?_)
    refine lv_iload_n hx hb dX8_look_63 rfl (lv_at hl 0 rfl) ?_
    refine lv_iconst (v := (-1)) hx hb dX8_look_64 (by decide) ?_
    refine lv_icmp_ne (tgt := 72) hx hb dX8_look_65 (by decide) (fun hc45 => ?_) (fun hc45 => ?_)
    · have hc45 : ¬ (r38).toInt = (-1) := i_ne hc45 rfl rfl
      refine lv_iload_n hx hb dX8_look_72 rfl (lv_at hl 0 rfl) ?_
      refine lv_bipush (v := 100) hx hb dX8_look_73 (by decide) ?_
      obtain ⟨z48, e46⟩ : ∃ z : Int32, r38 - r38 / (100 : Int32) * (100 : Int32) = z := ⟨_, rfl⟩
      refine o_irem (z := z48) hx hb dX8_look_75 (by decide) e46 ?_
      exact e_i X h hr hlk dX8_look_76 ⟨ok42, kx44, trivial⟩
    · have hc45 : (r38).toInt = (-1) := i_eq hc45 rfl rfl
      refine lv_iconst (v := (-1)) hx hb dX8_look_68 (by decide) ?_
      refine lv_goto (tgt := 76) hx hb dX8_look_69 (by decide) ?_
      exact e_i X h hr hlk dX8_look_76 ⟨ok42, kx44, trivial⟩
  · refine lv_if_ne (tgt := 18) hx hb dX8_look_8 (by decide) (fun hc => absurd (by decide) hc) (fun _ => ?_)
    refine lv_aload_n hx hb dX8_look_11 rfl (lv_at hl 0 rfl) ?_
    refine lv_bipush (v := (-2)) hx hb dX8_look_12 (by decide) ?_
    refine n_Vi (na := 1) (As := [.int (-2)]) (rest := []) X hD hN h rfl (c_refused l G cI cB cZ cO ad w  ok ((-2) : Int32)  ) ⟨kv_227, kv_228, kv_229, kv_212, kv_230⟩ rfl ⟨by decide, by decide, by decide⟩ ⟨Nat.le_of_ble_eq_true rfl, Nat.le_of_ble_eq_true rfl⟩ ⟨Nat.zero_le _, Nat.zero_le _⟩ (by decide) f7 rfl rfl hl.1 rfl (Nat.le_of_ble_eq_true rfl) dX8_look_14 (fun r49 w50 H locs hp51 h => ?_)
    obtain ⟨ok53, kk54, hr52⟩ := hp51
    have kx55 : KX w w50 := kk54
    subst hr52
    exact e_i X h hr hlk dX8_look_17 ⟨ok53, kx55, trivial⟩

set_option maxHeartbeats 4000000 in
set_option maxRecDepth 100000 in
theorem c_X_kinds (l : Launch) (G : va_G) (cI cB cZ cO : ClassId) (ad : Nat → Nat) (w : Nat → va_E)  (ok : OK cI cB cZ cO ad w) (j : Int32)   : NI l G (tyq cI cB cZ cO) yX8_kinds cX8_kinds 2 (some .int) 5 117 74 ad w [.ref (ad 0), .int j] (fun r w1 => OK cI cB cZ cO ad w1 ∧ KX w w1 ∧ True) := by
  refine nk_i (own := "NoonShade") rfl (by decide) (Nat.le_of_ble_eq_true rfl) ?_
  intro p e s m below meth c ls X hD hN hr hlk h hl
  have hx := X.1.1
  have hb := X.1.2.1
  have hown := X.1.2.2.2.1
  have hts := X.1.2.2.2.2
  have hl : lv_has ls 2 [(0, .ref (ad 0)), (1, .int j)] := hl
  refine lv_aload_n hx hb dX8_kinds_0 rfl (lv_at hl 0 rfl) ?_
  obtain ⟨x2, x3, q4, q5, q6, f1⟩ := (show sN ad (w 0) from ok 0 (by decide))
  have f7 : w 0 = .inr (6, [.ref (ad 1), .ref (ad 14), .ref (ad 27), .ref (ad 54), .ref (ad 55), .ref (ad 58), .ref (ad 62), .long x2, .long x3, .int q4, .int q5, .int q6]) := f1
  refine r_get kc8 X h 0 0 (by decide) rfl f7 (by decide) kv_172 rfl dX8_kinds_1 ?_
  refine lv_iload_n hx hb dX8_kinds_4 rfl (lv_at hl 1 rfl) ?_
  obtain ⟨q12, q13, q14, q15, q16, f11, h17, h18, h19, h20⟩ := (show sI ad 1 (w 1) from ok 1 (by decide))
  have f21 : w 1 = .inr (1, [.int q12, .int q13, .int q14, .int q15, .int q16, .ref (ad 2), .ref (ad 3), .ref (ad 4), .ref (ad 5), .ref (ad 6), .ref (ad 7), .ref (ad 8), .ref (ad 10), .ref (ad 12)]) := f11
  refine n_Vi (na := 1) (As := [.int j]) (rest := []) X hD hN h rfl (c_hasJar l G cI cB cZ cO ad w 1 (Or.inl rfl) ok j  ) ⟨kv_223, kv_224, kv_225, kv_37, kv_226⟩ rfl ⟨by decide, by decide, by decide⟩ ⟨Nat.le_of_ble_eq_true rfl, Nat.le_of_ble_eq_true rfl⟩ ⟨Nat.zero_le _, Nat.zero_le _⟩ (by decide) f21 rfl rfl hl.1 rfl (Nat.le_of_ble_eq_true rfl) dX8_kinds_5 (fun r8 w9 H locs hp10 h => ?_)
  obtain ⟨rfl, hr22⟩ := hp10
  rcases hr22 with ⟨hq23, hq24, rfl⟩ | rfl
  · refine lv_if_ne (tgt := 18) hx hb dX8_kinds_8 (by decide) (fun _ => ?_) (fun hc => absurd hc (by decide))
    refine lv_aload_n hx hb dX8_kinds_18 rfl (lv_at hl 0 rfl) ?_
    refine r_get kc8 X h 0 6 (by decide) rfl f7 (by decide) kv_280 rfl dX8_kinds_19 ?_
    refine lv_iconst (v := 1) hx hb dX8_kinds_22 (by decide) ?_
    refine lv_aload_n hx hb dX8_kinds_23 rfl (lv_at hl 0 rfl) ?_
    refine r_get kc8 X h 0 0 (by decide) rfl f7 (by decide) kv_172 rfl dX8_kinds_24 ?_
    refine r_get kc2 X h 1 12 (by decide) rfl f21 (by decide) kv_188 rfl dX8_kinds_27 ?_
    refine lv_iload_n hx hb dX8_kinds_30 rfl (lv_at hl 1 rfl) ?_
    have f28 : w 62 = .inr (0, [.ref (ad 63)]) := ok 62 (by decide)
    have f29 : w 62 = .inr (0, [.ref (ad 63)]) := f28
    refine n_Vi (na := 3) (As := [.int 1, .ref (ad 10), .int j]) (rest := []) X hD hN h rfl (c_fitting l G cI cB cZ cO ad w 10 (Or.inr rfl) ok (1 : Int32) j  ) ⟨kv_281, kv_282, kv_283, kv_82, kv_284⟩ rfl ⟨by decide, by decide, by decide⟩ ⟨Nat.le_of_ble_eq_true rfl, Nat.le_of_ble_eq_true rfl⟩ ⟨Nat.zero_le _, Nat.zero_le _⟩ (by decide) f29 rfl rfl hl.1 rfl (Nat.le_of_ble_eq_true rfl) dX8_kinds_31 (fun r25 w26 H locs hp27 h => ?_)
    obtain ⟨rfl, hr30⟩ := hp27
    exact e_i X h hr hlk dX8_kinds_34 ⟨ok, KX.rf, trivial⟩
  · refine lv_if_ne (tgt := 18) hx hb dX8_kinds_8 (by decide) (fun hc => absurd (by decide) hc) (fun _ => ?_)
    refine lv_aload_n hx hb dX8_kinds_11 rfl (lv_at hl 0 rfl) ?_
    refine lv_bipush (v := (-2)) hx hb dX8_kinds_12 (by decide) ?_
    refine n_Vi (na := 1) (As := [.int (-2)]) (rest := []) X hD hN h rfl (c_refused l G cI cB cZ cO ad w  ok ((-2) : Int32)  ) ⟨kv_227, kv_228, kv_229, kv_212, kv_230⟩ rfl ⟨by decide, by decide, by decide⟩ ⟨Nat.le_of_ble_eq_true rfl, Nat.le_of_ble_eq_true rfl⟩ ⟨Nat.zero_le _, Nat.zero_le _⟩ (by decide) f7 rfl rfl hl.1 rfl (Nat.le_of_ble_eq_true rfl) dX8_kinds_14 (fun r31 w32 H locs hp33 h => ?_)
    obtain ⟨ok35, kk36, hr34⟩ := hp33
    have kx37 : KX w w32 := kk36
    subst hr34
    exact e_i X h hr hlk dX8_kinds_17 ⟨ok35, kx37, trivial⟩

set_option maxHeartbeats 4000000 in
set_option maxRecDepth 100000 in
theorem c_X_ask (l : Launch) (G : va_G) (cI cB cZ cO : ClassId) (ad : Nat → Nat) (w : Nat → va_E)  (ok : OK cI cB cZ cO ad w) (j : Int32)   : NI l G (tyq cI cB cZ cO) yX8_ask cX8_ask 3 (some .int) 5 125 74 ad w [.ref (ad 0), .int j] (fun r w1 => OK cI cB cZ cO ad w1 ∧ KX w w1 ∧ True) := by
  refine nk_i (own := "NoonShade") rfl (by decide) (Nat.le_of_ble_eq_true rfl) ?_
  intro p e s m below meth c ls X hD hN hr hlk h hl
  have hx := X.1.1
  have hb := X.1.2.1
  have hown := X.1.2.2.2.1
  have hts := X.1.2.2.2.2
  have hl : lv_has ls 3 [(0, .ref (ad 0)), (1, .int j)] := hl
  refine lv_aload_n hx hb dX8_ask_0 rfl (lv_at hl 0 rfl) ?_
  obtain ⟨x2, x3, q4, q5, q6, f1⟩ := (show sN ad (w 0) from ok 0 (by decide))
  have f7 : w 0 = .inr (6, [.ref (ad 1), .ref (ad 14), .ref (ad 27), .ref (ad 54), .ref (ad 55), .ref (ad 58), .ref (ad 62), .long x2, .long x3, .int q4, .int q5, .int q6]) := f1
  refine r_get kc8 X h 0 0 (by decide) rfl f7 (by decide) kv_172 rfl dX8_ask_1 ?_
  refine lv_iload_n hx hb dX8_ask_4 rfl (lv_at hl 1 rfl) ?_
  obtain ⟨q12, q13, q14, q15, q16, f11, h17, h18, h19, h20⟩ := (show sI ad 1 (w 1) from ok 1 (by decide))
  have f21 : w 1 = .inr (1, [.int q12, .int q13, .int q14, .int q15, .int q16, .ref (ad 2), .ref (ad 3), .ref (ad 4), .ref (ad 5), .ref (ad 6), .ref (ad 7), .ref (ad 8), .ref (ad 10), .ref (ad 12)]) := f11
  refine n_Vi (na := 1) (As := [.int j]) (rest := []) X hD hN h rfl (c_hasJar l G cI cB cZ cO ad w 1 (Or.inl rfl) ok j  ) ⟨kv_223, kv_224, kv_225, kv_37, kv_226⟩ rfl ⟨by decide, by decide, by decide⟩ ⟨Nat.le_of_ble_eq_true rfl, Nat.le_of_ble_eq_true rfl⟩ ⟨Nat.zero_le _, Nat.zero_le _⟩ (by decide) f21 rfl rfl hl.1 rfl (Nat.le_of_ble_eq_true rfl) dX8_ask_5 (fun r8 w9 H locs hp10 h => ?_)
  obtain ⟨rfl, hr22⟩ := hp10
  rcases hr22 with ⟨hq23, hq24, rfl⟩ | rfl
  · refine lv_if_ne (tgt := 18) hx hb dX8_ask_8 (by decide) (fun _ => ?_) (fun hc => absurd hc (by decide))
    refine lv_aload_n hx hb dX8_ask_18 rfl (lv_at hl 0 rfl) ?_
    refine r_get kc8 X h 0 6 (by decide) rfl f7 (by decide) kv_280 rfl dX8_ask_19 ?_
    refine lv_iconst (v := 1) hx hb dX8_ask_22 (by decide) ?_
    refine lv_aload_n hx hb dX8_ask_23 rfl (lv_at hl 0 rfl) ?_
    refine r_get kc8 X h 0 0 (by decide) rfl f7 (by decide) kv_172 rfl dX8_ask_24 ?_
    refine r_get kc2 X h 1 12 (by decide) rfl f21 (by decide) kv_188 rfl dX8_ask_27 ?_
    refine lv_iload_n hx hb dX8_ask_30 rfl (lv_at hl 1 rfl) ?_
    have f28 : w 62 = .inr (0, [.ref (ad 63)]) := ok 62 (by decide)
    have f29 : w 62 = .inr (0, [.ref (ad 63)]) := f28
    refine n_Vi (na := 3) (As := [.int 1, .ref (ad 10), .int j]) (rest := []) X hD hN h rfl (c_fitting l G cI cB cZ cO ad w 10 (Or.inr rfl) ok (1 : Int32) j  ) ⟨kv_281, kv_282, kv_283, kv_82, kv_284⟩ rfl ⟨by decide, by decide, by decide⟩ ⟨Nat.le_of_ble_eq_true rfl, Nat.le_of_ble_eq_true rfl⟩ ⟨Nat.zero_le _, Nat.zero_le _⟩ (by decide) f29 rfl rfl hl.1 rfl (Nat.le_of_ble_eq_true rfl) dX8_ask_31 (fun r25 w26 H locs hp27 h => ?_)
    obtain ⟨rfl, hr30⟩ := hp27
    refine lv_istore_n (lv' := [(2, .int r25), (0, .ref (ad 0)), (1, .int j)]) hx hb dX8_ask_34 rfl hl (by decide) rfl (fun ls hl => ?_)
    refine lv_aload_n hx hb dX8_ask_35 rfl (lv_at hl 1 rfl) ?_
    refine r_get kc8 X h 0 6 (by decide) rfl f7 (by decide) kv_280 rfl dX8_ask_36 ?_
    refine lv_iconst (v := 1) hx hb dX8_ask_39 (by decide) ?_
    refine lv_iload_n hx hb dX8_ask_40 rfl (lv_at hl 0 rfl) ?_
    refine lv_iconst (v := 0) hx hb dX8_ask_41 (by decide) ?_
    refine lv_bipush (v := 60) hx hb dX8_ask_42 (by decide) ?_
    refine n_Vi (na := 4) (As := [.int 1, .int r25, .int 0, .int 60]) (rest := []) X hD hN h rfl (c_tellingMost l G cI cB cZ cO ad w  ok (1 : Int32) r25 (0 : Int32) (60 : Int32) (by decide) (by decide) (by decide) (by decide) ) ⟨kv_285, kv_286, kv_287, kv_82, kv_288⟩ rfl ⟨by decide, by decide, by decide⟩ ⟨Nat.le_of_ble_eq_true rfl, Nat.le_of_ble_eq_true rfl⟩ ⟨Nat.zero_le _, Nat.zero_le _⟩ (by decide) f29 rfl rfl hl.1 rfl (Nat.le_of_ble_eq_true rfl) dX8_ask_44 (fun r31 w32 H locs hp33 h => ?_)
    obtain ⟨ok35, kk36, hr34⟩ := hp33
    have kx37 : KX w w32 := kk36
    exact e_i X h hr hlk dX8_ask_47 ⟨ok35, kx37, trivial⟩
  · refine lv_if_ne (tgt := 18) hx hb dX8_ask_8 (by decide) (fun hc => absurd (by decide) hc) (fun _ => ?_)
    refine lv_aload_n hx hb dX8_ask_11 rfl (lv_at hl 0 rfl) ?_
    refine lv_bipush (v := (-2)) hx hb dX8_ask_12 (by decide) ?_
    refine n_Vi (na := 1) (As := [.int (-2)]) (rest := []) X hD hN h rfl (c_refused l G cI cB cZ cO ad w  ok ((-2) : Int32)  ) ⟨kv_227, kv_228, kv_229, kv_212, kv_230⟩ rfl ⟨by decide, by decide, by decide⟩ ⟨Nat.le_of_ble_eq_true rfl, Nat.le_of_ble_eq_true rfl⟩ ⟨Nat.zero_le _, Nat.zero_le _⟩ (by decide) f7 rfl rfl hl.1 rfl (Nat.le_of_ble_eq_true rfl) dX8_ask_14 (fun r38 w39 H locs hp40 h => ?_)
    obtain ⟨ok42, kk43, hr41⟩ := hp40
    have kx44 : KX w w39 := kk43
    subst hr41
    exact e_i X h hr hlk dX8_ask_17 ⟨ok42, kx44, trivial⟩

set_option maxHeartbeats 4000000 in
set_option maxRecDepth 100000 in
theorem c_X_two (l : Launch) (G : va_G) (cI cB cZ cO : ClassId) (ad : Nat → Nat) (w : Nat → va_E)  (ok : OK cI cB cZ cO ad w) (k : Int32)   : NI l G (tyq cI cB cZ cO) yX8_two cX8_two 5 (some .int) 5 115 74 ad w [.ref (ad 0), .int k] (fun r w1 => OK cI cB cZ cO ad w1 ∧ KX w w1 ∧ True) := by
  refine nk_i (own := "NoonShade") rfl (by decide) (Nat.le_of_ble_eq_true rfl) ?_
  intro p e s m below meth c ls X hD hN hr hlk h hl
  have hx := X.1.1
  have hb := X.1.2.1
  have hown := X.1.2.2.2.1
  have hts := X.1.2.2.2.2
  have hl : lv_has ls 5 [(0, .ref (ad 0)), (1, .int k)] := hl
  refine lv_iload_n hx hb dX8_two_0 rfl (lv_at hl 1 rfl) ?_
  refine lv_iconst (v := (-1)) hx hb dX8_two_1 (by decide) ?_
  refine lv_icmp_ge (tgt := 15) hx hb dX8_two_2 (by decide) (fun hc1 => ?_) (fun hc1 => ?_)
  · have hc1 : (-1) ≤ (k).toInt := i_le hc1 rfl rfl
    refine lv_iconst (v := 0) hx hb dX8_two_15 (by decide) ?_
    refine lv_istore_n (lv' := [(2, .int 0), (0, .ref (ad 0)), (1, .int k)]) hx hb dX8_two_16 rfl hl (by decide) rfl (fun ls hl => ?_)
    refine lv_iconst (v := 0) hx hb dX8_two_17 (by decide) ?_
    refine lv_istore_n (lv' := [(3, .int 0), (2, .int 0), (0, .ref (ad 0)), (1, .int k)]) hx hb dX8_two_18 rfl hl (by decide) rfl (fun ls hl => ?_)
    have hloop5 : ∀ (d6 : Nat) (L2 : Int32) (L3 : Int32) (wL4 : Nat → va_E) (H : Heap) (locs : List Loc) (ls : Array Slot), 0 ≤ L2.toInt → L2.toInt ≤ 7 → OK cI cB cZ cO ad wL4 → KX w wL4 → 7 - L2.toInt < (d6 : Int) → St G 74 ad (wA 74 ad s.heap.size) s.heap wL4 H locs → lv_has ls 5 [(3, .int L2), (2, .int L3), (0, .ref (ad 0)), (1, .int k)] → W p l e { frames := 5, cells := 0, slots := 0, locals := 115 } s m [.ref (ad 0), .int k].toArray below meth c H locs 0 0 (MQ below (va_Qi (fun r w1 => OK cI cB cZ cO ad w1 ∧ KX w w1 ∧ True) (Aft G 74 ad) (wA 74 ad s.heap.size)) [.ref (ad 0), .int k].toArray s 0 0 (wA 74 ad s.heap.size)) (F0 m 19 ls []) := by
      intro d6
      induction d6 with
      | zero => intro L2 L3 wL4 H locs ls hi9 hi10 ok11 kx12 hm8 h hl; exfalso; omega
      | succ d6 ih7 =>
        intro L2 L3 wL4 H locs ls hi9 hi10 ok11 kx12 hm8 h hl
        refine lv_iload_n hx hb dX8_two_19 rfl (lv_at hl 0 rfl) ?_
        refine lv_aload_n hx hb dX8_two_20 rfl (lv_at hl 2 rfl) ?_
        obtain ⟨x15, x16, q17, q18, q19, f14⟩ := (show sN ad (wL4 0) from ok11 0 (by decide))
        have f20 : wL4 0 = .inr (6, [.ref (ad 1), .ref (ad 14), .ref (ad 27), .ref (ad 54), .ref (ad 55), .ref (ad 58), .ref (ad 62), .long x15, .long x16, .int q17, .int q18, .int q19]) := f14
        refine r_get kc8 X h 0 0 (by decide) rfl f20 (by decide) kv_172 rfl dX8_two_21 ?_
        obtain ⟨q22, q23, q24, q25, q26, f21, h27, h28, h29, h30⟩ := (show sI ad 1 (wL4 1) from ok11 1 (by decide))
        have f31 : wL4 1 = .inr (1, [.int q22, .int q23, .int q24, .int q25, .int q26, .ref (ad 2), .ref (ad 3), .ref (ad 4), .ref (ad 5), .ref (ad 6), .ref (ad 7), .ref (ad 8), .ref (ad 10), .ref (ad 12)]) := f21
        refine r_get kc2 X h 1 3 (by decide) rfl f31 (by decide) kv_173 rfl dX8_two_24 ?_
        refine lv_icmp_ge (tgt := 83) hx hb dX8_two_27 (by decide) (fun hc32 => ?_) (fun hc32 => ?_)
        · have hc32 : (q25).toInt ≤ (L2).toInt := i_le hc32 rfl rfl
          refine lv_iload_n hx hb dX8_two_83 rfl (lv_at hl 3 rfl) ?_
          refine lv_iconst (v := (-1)) hx hb dX8_two_84 (by decide) ?_
          refine lv_icmp_ne (tgt := 92) hx hb dX8_two_85 (by decide) (fun hc33 => ?_) (fun hc33 => ?_)
          · have hc33 : ¬ (k).toInt = (-1) := i_ne hc33 rfl rfl
            refine lv_bipush (v := (-5)) hx hb dX8_two_92 (by decide) ?_
            exact e_i X h hr hlk dX8_two_94 ⟨ok11, kx12, trivial⟩
          · have hc33 : (k).toInt = (-1) := i_eq hc33 rfl rfl
            refine lv_iload_n hx hb dX8_two_88 rfl (lv_at hl 1 rfl) ?_
            refine lv_goto (tgt := 94) hx hb dX8_two_89 (by decide) ?_
            exact e_i X h hr hlk dX8_two_94 ⟨ok11, kx12, trivial⟩
        · have hc32 : ¬ (q25).toInt ≤ (L2).toInt := i_nle hc32 rfl rfl
          refine lv_iconst (v := 0) hx hb dX8_two_30 (by decide) ?_
          refine lv_istore (lv' := [(4, .int 0), (3, .int L2), (2, .int L3), (0, .ref (ad 0)), (1, .int k)]) hx hb dX8_two_31 hl (by decide) rfl (fun ls hl => ?_)
          have hloop37 : ∀ (d38 : Nat) (L34 : Int32) (L35 : Int32) (wL36 : Nat → va_E) (H : Heap) (locs : List Loc) (ls : Array Slot), 0 ≤ L34.toInt → L34.toInt ≤ 7 → OK cI cB cZ cO ad wL36 → KX w wL36 → 7 - L34.toInt < (d38 : Int) → St G 74 ad (wA 74 ad s.heap.size) s.heap wL36 H locs → lv_has ls 5 [(4, .int L34), (3, .int L2), (2, .int L35), (0, .ref (ad 0)), (1, .int k)] → W p l e { frames := 5, cells := 0, slots := 0, locals := 115 } s m [.ref (ad 0), .int k].toArray below meth c H locs 0 0 (MQ below (va_Qi (fun r w1 => OK cI cB cZ cO ad w1 ∧ KX w w1 ∧ True) (Aft G 74 ad) (wA 74 ad s.heap.size)) [.ref (ad 0), .int k].toArray s 0 0 (wA 74 ad s.heap.size)) (F0 m 33 ls []) := by
            intro d38
            induction d38 with
            | zero => intro L34 L35 wL36 H locs ls hi41 hi42 ok43 kx44 hm40 h hl; exfalso; omega
            | succ d38 ih39 =>
              intro L34 L35 wL36 H locs ls hi41 hi42 ok43 kx44 hm40 h hl
              refine lv_iload hx hb dX8_two_33 (lv_at hl 0 rfl) ?_
              refine lv_aload_n hx hb dX8_two_35 rfl (lv_at hl 3 rfl) ?_
              obtain ⟨x47, x48, q49, q50, q51, f46⟩ := (show sN ad (wL36 0) from ok43 0 (by decide))
              have f52 : wL36 0 = .inr (6, [.ref (ad 1), .ref (ad 14), .ref (ad 27), .ref (ad 54), .ref (ad 55), .ref (ad 58), .ref (ad 62), .long x47, .long x48, .int q49, .int q50, .int q51]) := f46
              refine r_get kc8 X h 0 0 (by decide) rfl f52 (by decide) kv_172 rfl dX8_two_36 ?_
              obtain ⟨q54, q55, q56, q57, q58, f53, h59, h60, h61, h62⟩ := (show sI ad 1 (wL36 1) from ok43 1 (by decide))
              have f63 : wL36 1 = .inr (1, [.int q54, .int q55, .int q56, .int q57, .int q58, .ref (ad 2), .ref (ad 3), .ref (ad 4), .ref (ad 5), .ref (ad 6), .ref (ad 7), .ref (ad 8), .ref (ad 10), .ref (ad 12)]) := f53
              refine r_get kc2 X h 1 3 (by decide) rfl f63 (by decide) kv_173 rfl dX8_two_39 ?_
              refine lv_icmp_ge (tgt := 77) hx hb dX8_two_42 (by decide) (fun hc64 => ?_) (fun hc64 => ?_)
              · have hc64 : (q57).toInt ≤ (L34).toInt := i_le hc64 rfl rfl
                obtain ⟨z65, e66, t67⟩ := x_add (x := L2) (y := 1) (a := L2.toInt) (b := 1) rfl rfl (by omega) (by omega)
                refine lv_iinc (v := z65) (lv' := [(3, .int z65), (4, .int L34), (2, .int L35), (0, .ref (ad 0)), (1, .int k)]) hx hb dX8_two_77 hl (k := 1) rfl e66 (by decide) rfl (fun ls hl => ?_)
                refine lv_goto (tgt := 19) hx hb dX8_two_80 (by decide) ?_
                exact ih7  z65 L35 wL36 _ _ _ (by omega) (by omega) ok43 kx44 (by omega) h (lv_sub hl [0, 2, 3, 4] rfl)
              · have hc64 : ¬ (q57).toInt ≤ (L34).toInt := i_nle hc64 rfl rfl
                refine lv_aload_n hx hb dX8_two_45 rfl (lv_at hl 3 rfl) ?_
                refine lv_iload_n hx hb dX8_two_46 rfl (lv_at hl 1 rfl) ?_
                refine lv_iload hx hb dX8_two_47 (lv_at hl 0 rfl) ?_
                refine n_Vi (na := 2) (As := [.int L2, .int L34]) (rest := []) X hD hN h rfl (c_rests l G cI cB cZ cO ad wL36  ok43 L2 L34 (by omega) (by omega) (by omega) (by omega) ) ⟨kv_289, kv_290, kv_291, kv_212, kv_292⟩ rfl ⟨by decide, by decide, by decide⟩ ⟨Nat.le_of_ble_eq_true rfl, Nat.le_of_ble_eq_true rfl⟩ ⟨Nat.zero_le _, Nat.zero_le _⟩ (by decide) f52 rfl rfl hl.1 rfl (Nat.le_of_ble_eq_true rfl) dX8_two_49 (fun r68 w69 H locs hp70 h => ?_)
                obtain ⟨rfl, hr71⟩ := hp70
                rcases hr71 with rfl | rfl
                · refine lv_if_eq (tgt := 71) hx hb dX8_two_52 (by decide) (fun hc => absurd hc (by decide)) (fun _ => ?_)
                  refine lv_iload_n hx hb dX8_two_55 rfl (lv_at hl 2 rfl) ?_
                  refine lv_iload_n hx hb dX8_two_56 rfl (lv_at hl 4 rfl) ?_
                  refine lv_icmp_ne (tgt := 68) hx hb dX8_two_57 (by decide) (fun hc72 => ?_) (fun hc72 => ?_)
                  · have hc72 : ¬ (L35).toInt = (k).toInt := i_ne hc72 rfl rfl
                    obtain ⟨z73, e74⟩ : ∃ z : Int32, L35 + 1 = z := ⟨_, rfl⟩
                    refine lv_iinc (v := z73) (lv' := [(2, .int z73), (4, .int L34), (3, .int L2), (0, .ref (ad 0)), (1, .int k)]) hx hb dX8_two_68 hl (k := 2) rfl e74 (by decide) rfl (fun ls hl => ?_)
                    obtain ⟨z76, e77, t78⟩ := x_add (x := L34) (y := 1) (a := L34.toInt) (b := 1) rfl rfl (by omega) (by omega)
                    refine lv_iinc (v := z76) (lv' := [(4, .int z76), (2, .int z73), (3, .int L2), (0, .ref (ad 0)), (1, .int k)]) hx hb dX8_two_71 hl (k := 1) rfl e77 (by decide) rfl (fun ls hl => ?_)
                    refine lv_goto (tgt := 33) hx hb dX8_two_74 (by decide) ?_
                    exact ih39  z76 z73 wL36 _ _ _ (by omega) (by omega) ok43 kx44 (by omega) h (lv_sub hl [0, 2, 1, 3, 4] rfl)
                  · have hc72 : (L35).toInt = (k).toInt := i_eq hc72 rfl rfl
                    refine lv_bipush (v := 10) hx hb dX8_two_60 (by decide) ?_
                    refine lv_iload_n hx hb dX8_two_62 rfl (lv_at hl 1 rfl) ?_
                    obtain ⟨z81, e79, t80⟩ := x_mul (x := (10 : Int32)) (y := L2) (a := 10) (b := (L2).toInt) rfl rfl (by omega) (by omega)
                    refine o_imul (z := z81) hx hb dX8_two_63 e79 ?_
                    refine lv_iload hx hb dX8_two_64 (lv_at hl 0 rfl) ?_
                    obtain ⟨z84, e82, t83⟩ := x_add (x := z81) (y := L34) (a := (z81).toInt) (b := (L34).toInt) rfl rfl (by omega) (by omega)
                    refine o_iadd (z := z84) hx hb dX8_two_66 e82 ?_
                    exact e_i X h hr hlk dX8_two_67 ⟨ok43, kx44, trivial⟩
                · refine lv_if_eq (tgt := 71) hx hb dX8_two_52 (by decide) (fun _ => ?_) (fun hc => absurd (by decide) hc)
                  obtain ⟨z85, e86, t87⟩ := x_add (x := L34) (y := 1) (a := L34.toInt) (b := 1) rfl rfl (by omega) (by omega)
                  refine lv_iinc (v := z85) (lv' := [(4, .int z85), (3, .int L2), (2, .int L35), (0, .ref (ad 0)), (1, .int k)]) hx hb dX8_two_71 hl (k := 0) rfl e86 (by decide) rfl (fun ls hl => ?_)
                  refine lv_goto (tgt := 33) hx hb dX8_two_74 (by decide) ?_
                  exact ih39  z85 L35 wL36 _ _ _ (by omega) (by omega) ok43 kx44 (by omega) h (lv_sub hl [0, 1, 2, 3, 4] rfl)
          exact hloop37 8 (0 : Int32) L3 wL4 _ _ _ (by have q0 : (0 : Int32).toInt = 0 := rfl; omega) (by have q0 : (0 : Int32).toInt = 0 := rfl; omega) ok11 kx12 (by have q0 : (0 : Int32).toInt = 0 := rfl; omega) h (lv_sub hl [0, 1, 2, 3, 4] rfl)
    exact hloop5 8 (0 : Int32) (0 : Int32) w _ _ _ (by have q0 : (0 : Int32).toInt = 0 := rfl; omega) (by have q0 : (0 : Int32).toInt = 0 := rfl; omega) ok KX.rf (by have q0 : (0 : Int32).toInt = 0 := rfl; omega) h (lv_sub hl [0, 1, 2, 3] rfl)
  · have hc1 : ¬ (-1) ≤ (k).toInt := i_nle hc1 rfl rfl
    refine lv_aload_n hx hb dX8_two_5 rfl (lv_at hl 0 rfl) ?_
    refine lv_bipush (v := (-2)) hx hb dX8_two_6 (by decide) ?_
    obtain ⟨x92, x93, q94, q95, q96, f91⟩ := (show sN ad (w 0) from ok 0 (by decide))
    have f97 : w 0 = .inr (6, [.ref (ad 1), .ref (ad 14), .ref (ad 27), .ref (ad 54), .ref (ad 55), .ref (ad 58), .ref (ad 62), .long x92, .long x93, .int q94, .int q95, .int q96]) := f91
    refine n_Vi (na := 1) (As := [.int (-2)]) (rest := []) X hD hN h rfl (c_refused l G cI cB cZ cO ad w  ok ((-2) : Int32)  ) ⟨kv_227, kv_228, kv_229, kv_212, kv_230⟩ rfl ⟨by decide, by decide, by decide⟩ ⟨Nat.le_of_ble_eq_true rfl, Nat.le_of_ble_eq_true rfl⟩ ⟨Nat.zero_le _, Nat.zero_le _⟩ (by decide) f97 rfl rfl hl.1 rfl (Nat.le_of_ble_eq_true rfl) dX8_two_8 (fun r88 w89 H locs hp90 h => ?_)
    obtain ⟨ok99, kk100, hr98⟩ := hp90
    have kx101 : KX w w89 := kk100
    subst hr98
    refine lv_pop hx hb dX8_two_11 rfl ?_
    refine lv_bipush (v := (-10)) hx hb dX8_two_12 (by decide) ?_
    exact e_i X h hr hlk dX8_two_14 ⟨ok99, kx101, trivial⟩

set_option maxHeartbeats 4000000 in
set_option maxRecDepth 100000 in
theorem c_X_noons (l : Launch) (G : va_G) (cI cB cZ cO : ClassId) (ad : Nat → Nat) (w : Nat → va_E)  (ok : OK cI cB cZ cO ad w) (x : Int32) (n : Int32)   : NI l G (tyq cI cB cZ cO) yX8_noons cX8_noons 8 (some .int) 4 89 74 ad w [.ref (ad 0), .int x, .int n] (fun r w1 => OK cI cB cZ cO ad w1 ∧ KX w w1 ∧ True) := by
  refine nk_i (own := "NoonShade") rfl (by decide) (Nat.le_of_ble_eq_true rfl) ?_
  intro p e s m below meth c ls X hD hN hr hlk h hl
  have hx := X.1.1
  have hb := X.1.2.1
  have hown := X.1.2.2.2.1
  have hts := X.1.2.2.2.2
  have hl : lv_has ls 8 [(0, .ref (ad 0)), (1, .int x), (2, .int n)] := hl
  refine lv_iload_n hx hb dX8_noons_0 rfl (lv_at hl 1 rfl) ?_
  refine lv_iconst (v := 0) hx hb dX8_noons_1 (by decide) ?_
  refine lv_ldc (v := 999999) hx hb hown (hts _ kv_305) dX8_noons_2 ?_
  refine n_Si (na := 3) (As := [.int x, .int 0, .int 999999]) (rest := []) X hD hN h (c_within l G cI cB cZ cO ad w x (0 : Int32) (999999 : Int32) ((x).toInt) 0 999999 rfl rfl rfl) ⟨kv_247, kv_248, kv_212, kv_249⟩ ⟨by decide, by decide, by decide⟩ ⟨Nat.le_of_ble_eq_true rfl, Nat.le_of_ble_eq_true rfl⟩ ⟨Nat.zero_le _, Nat.zero_le _⟩ rfl hl.1 rfl (Nat.le_of_ble_eq_true rfl) dX8_noons_4 (fun r1 w2 H locs hp3 h => ?_)
  obtain ⟨rfl, hq4⟩ := hp3
  rcases hq4 with ⟨hq5, hq6, rfl⟩ | ⟨hq4, rfl⟩
  · refine lv_if_eq (tgt := 20) hx hb dX8_noons_7 (by decide) (fun hc => absurd hc (by decide)) (fun _ => ?_)
    refine lv_iload_n hx hb dX8_noons_10 rfl (lv_at hl 2 rfl) ?_
    refine lv_iconst (v := 0) hx hb dX8_noons_11 (by decide) ?_
    refine lv_bipush (v := 60) hx hb dX8_noons_12 (by decide) ?_
    refine n_Si (na := 3) (As := [.int n, .int 0, .int 60]) (rest := []) X hD hN h (c_within l G cI cB cZ cO ad w n (0 : Int32) (60 : Int32) ((n).toInt) 0 60 rfl rfl rfl) ⟨kv_247, kv_248, kv_212, kv_249⟩ ⟨by decide, by decide, by decide⟩ ⟨Nat.le_of_ble_eq_true rfl, Nat.le_of_ble_eq_true rfl⟩ ⟨Nat.zero_le _, Nat.zero_le _⟩ rfl hl.1 rfl (Nat.le_of_ble_eq_true rfl) dX8_noons_14 (fun r7 w8 H locs hp9 h => ?_)
    obtain ⟨rfl, hq10⟩ := hp9
    rcases hq10 with ⟨hq11, hq12, rfl⟩ | ⟨hq10, rfl⟩
    · refine lv_if_ne (tgt := 27) hx hb dX8_noons_17 (by decide) (fun _ => ?_) (fun hc => absurd hc (by decide))
      refine lv_aload_n hx hb dX8_noons_27 rfl (lv_at hl 0 rfl) ?_
      obtain ⟨x14, x15, q16, q17, q18, f13⟩ := (show sN ad (w 0) from ok 0 (by decide))
      have f19 : w 0 = .inr (6, [.ref (ad 1), .ref (ad 14), .ref (ad 27), .ref (ad 54), .ref (ad 55), .ref (ad 58), .ref (ad 62), .long x14, .long x15, .int q16, .int q17, .int q18]) := f13
      refine r_get kc8 X h 0 1 (by decide) rfl f19 (by decide) kv_306 rfl dX8_noons_28 ?_
      refine lv_aload_n hx hb dX8_noons_31 rfl (lv_at hl 0 rfl) ?_
      refine r_get kc8 X h 0 0 (by decide) rfl f19 (by decide) kv_172 rfl dX8_noons_32 ?_
      obtain ⟨q24, q25, q26, q27, q28, f23, h29, h30, h31, h32⟩ := (show sI ad 14 (w 14) from ok 14 (by decide))
      have f33 : w 14 = .inr (1, [.int q24, .int q25, .int q26, .int q27, .int q28, .ref (ad 15), .ref (ad 16), .ref (ad 17), .ref (ad 18), .ref (ad 19), .ref (ad 20), .ref (ad 21), .ref (ad 23), .ref (ad 25)]) := f23
      refine n_Vv (na := 1) (As := [.ref (ad 1)]) (rest := []) X hD hN h rfl (c_become l G cI cB cZ cO ad w 14 1 (Or.inr (Or.inl rfl)) (Or.inl rfl) (by omega) ok   ) ⟨kv_307, kv_308, kv_309, kv_37, kv_310⟩ rfl ⟨by decide, by decide, by decide⟩ ⟨Nat.le_of_ble_eq_true rfl, Nat.le_of_ble_eq_true rfl⟩ ⟨Nat.zero_le _, Nat.zero_le _⟩ (by decide) f33 rfl rfl hl.1 rfl (Nat.le_of_ble_eq_true rfl) dX8_noons_35 (fun w21 H locs hp22 h => ?_)
      obtain ⟨ok35, kk36, hr34⟩ := hp22
      have kx37 : KX w w21 := (FR.x kk36)
      refine lv_iload_n hx hb dX8_noons_38 rfl (lv_at hl 1 rfl) ?_
      obtain ⟨z38, e39⟩ : ∃ z : Int64, x.toInt64 = z := ⟨_, rfl⟩
      have tz38 : z38.toInt = (x).toInt := by rw [← e39]; exact Int32.toInt_toInt64 _
      refine lv_i2l (v := z38) hx hb dX8_noons_39 e39 ?_
      refine lv_lstore_n (lv' := [(3, .long z38), (0, .ref (ad 0)), (1, .int x), (2, .int n)]) hx hb dX8_noons_40 rfl hl (by decide) rfl (fun ls hl => ?_)
      refine lv_iconst (v := 0) hx hb dX8_noons_41 (by decide) ?_
      refine lv_istore (lv' := [(5, .int 0), (3, .long z38), (0, .ref (ad 0)), (1, .int x), (2, .int n)]) hx hb dX8_noons_42 hl (by decide) rfl (fun ls hl => ?_)
      have hloop43 : ∀ (d44 : Nat) (L40 : Int32) (L41 : Int64) (wL42 : Nat → va_E) (H : Heap) (locs : List Loc) (ls : Array Slot), 0 ≤ L40.toInt → L40.toInt ≤ 60 → OK cI cB cZ cO ad wL42 → KX w wL42 → 60 - L40.toInt < (d44 : Int) → St G 74 ad (wA 74 ad s.heap.size) s.heap wL42 H locs → lv_has ls 8 [(5, .int L40), (3, .long L41), (0, .ref (ad 0)), (1, .int x), (2, .int n)] → W p l e { frames := 4, cells := 0, slots := 0, locals := 89 } s m [.ref (ad 0), .int x, .int n].toArray below meth c H locs 0 0 (MQ below (va_Qi (fun r w1 => OK cI cB cZ cO ad w1 ∧ KX w w1 ∧ True) (Aft G 74 ad) (wA 74 ad s.heap.size)) [.ref (ad 0), .int x, .int n].toArray s 0 0 (wA 74 ad s.heap.size)) (F0 m 44 ls []) := by
        intro d44
        induction d44 with
        | zero => intro L40 L41 wL42 H locs ls hi47 hi48 ok49 kx50 hm46 h hl; exfalso; omega
        | succ d44 ih45 =>
          intro L40 L41 wL42 H locs ls hi47 hi48 ok49 kx50 hm46 h hl
          refine lv_iload hx hb dX8_noons_44 (lv_at hl 0 rfl) ?_
          refine lv_iload_n hx hb dX8_noons_46 rfl (lv_at hl 4 rfl) ?_
          refine lv_icmp_ge (tgt := 163) hx hb dX8_noons_47 (by decide) (fun hc52 => ?_) (fun hc52 => ?_)
          · have hc52 : (n).toInt ≤ (L40).toInt := i_le hc52 rfl rfl
            refine lv_aload_n hx hb dX8_noons_163 rfl (lv_at hl 2 rfl) ?_
            obtain ⟨x54, x55, q56, q57, q58, f53⟩ := (show sN ad (wL42 0) from ok49 0 (by decide))
            have f59 : wL42 0 = .inr (6, [.ref (ad 1), .ref (ad 14), .ref (ad 27), .ref (ad 54), .ref (ad 55), .ref (ad 58), .ref (ad 62), .long x54, .long x55, .int q56, .int q57, .int q58]) := f53
            refine r_get kc8 X h 0 1 (by decide) rfl f59 (by decide) kv_306 rfl dX8_noons_164 ?_
            obtain ⟨q64, q65, q66, q67, q68, f63, h69, h70, h71, h72⟩ := (show sI ad 14 (wL42 14) from ok49 14 (by decide))
            have f73 : wL42 14 = .inr (1, [.int q64, .int q65, .int q66, .int q67, .int q68, .ref (ad 15), .ref (ad 16), .ref (ad 17), .ref (ad 18), .ref (ad 19), .ref (ad 20), .ref (ad 21), .ref (ad 23), .ref (ad 25)]) := f63
            refine n_Vi (na := 0) (As := []) (rest := []) X hD hN h rfl (c_coolInAll l G cI cB cZ cO ad wL42 14 (Or.inr (Or.inl rfl)) ok49   ) ⟨kv_175, kv_176, kv_177, kv_37, kv_178⟩ rfl ⟨by decide, by decide, by decide⟩ ⟨Nat.le_of_ble_eq_true rfl, Nat.le_of_ble_eq_true rfl⟩ ⟨Nat.zero_le _, Nat.zero_le _⟩ (by decide) f73 rfl rfl hl.1 rfl (Nat.le_of_ble_eq_true rfl) dX8_noons_167 (fun r60 w61 H locs hp62 h => ?_)
            obtain ⟨rfl, hr74⟩ := hp62
            exact e_i X h hr hlk dX8_noons_170 ⟨ok49, kx50, trivial⟩
          · have hc52 : ¬ (n).toInt ≤ (L40).toInt := i_nle hc52 rfl rfl
            refine lv_lload_n hx hb dX8_noons_50 rfl (lv_at hl 1 rfl) ?_
            refine lv_ldc2 (v := 1103515245) hx hb hown (hts _ kv_311) dX8_noons_51 ?_
            obtain ⟨z76, e75⟩ : ∃ z : Int64, L41 * (1103515245 : Int64) = z := ⟨_, rfl⟩
            refine o_lmul (z := z76) hx hb dX8_noons_54 e75 ?_
            refine lv_ldc2 (v := 12345) hx hb hown (hts _ kv_312) dX8_noons_55 ?_
            obtain ⟨z78, e77⟩ : ∃ z : Int64, z76 + (12345 : Int64) = z := ⟨_, rfl⟩
            refine o_ladd (z := z78) hx hb dX8_noons_58 e77 ?_
            refine lv_ldc2 (v := 2147483648) hx hb hown (hts _ kv_313) dX8_noons_59 ?_
            obtain ⟨z80, e79⟩ : ∃ z : Int64, z78 - z78 / (2147483648 : Int64) * (2147483648 : Int64) = z := ⟨_, rfl⟩
            refine o_lrem (z := z80) hx hb dX8_noons_62 (by decide) e79 ?_
            refine lv_lstore_n (lv' := [(3, .long z80), (5, .int L40), (0, .ref (ad 0)), (1, .int x), (2, .int n)]) hx hb dX8_noons_63 rfl hl (by decide) rfl (fun ls hl => ?_)
            refine lv_lload_n hx hb dX8_noons_64 rfl (lv_at hl 0 rfl) ?_
            refine lv_ldc2 (v := 65536) hx hb hown (hts _ kv_314) dX8_noons_65 ?_
            obtain ⟨z82, e81⟩ : ∃ z : Int64, z80 / (65536 : Int64) = z := ⟨_, rfl⟩
            refine o_ldiv (z := z82) hx hb dX8_noons_68 (by decide) e81 ?_
            refine lv_ldc2 (v := 7) hx hb hown (hts _ kv_315) dX8_noons_69 ?_
            obtain ⟨z84, e83⟩ : ∃ z : Int64, z82 - z82 / (7 : Int64) * (7 : Int64) = z := ⟨_, rfl⟩
            refine o_lrem (z := z84) hx hb dX8_noons_72 (by decide) e83 ?_
            obtain ⟨z85, e86⟩ : ∃ z : Int32, z84.toInt32 = z := ⟨_, rfl⟩
            refine lv_l2i (v := z85) hx hb dX8_noons_73 e86 ?_
            refine lv_istore (lv' := [(6, .int z85), (3, .long z80), (5, .int L40), (0, .ref (ad 0)), (1, .int x), (2, .int n)]) hx hb dX8_noons_74 hl (by decide) rfl (fun ls hl => ?_)
            refine lv_lload_n hx hb dX8_noons_76 rfl (lv_at hl 1 rfl) ?_
            refine lv_ldc2 (v := 1048576) hx hb hown (hts _ kv_316) dX8_noons_77 ?_
            obtain ⟨z88, e87⟩ : ∃ z : Int64, z80 / (1048576 : Int64) = z := ⟨_, rfl⟩
            refine o_ldiv (z := z88) hx hb dX8_noons_80 (by decide) e87 ?_
            refine lv_ldc2 (v := 4) hx hb hown (hts _ kv_317) dX8_noons_81 ?_
            obtain ⟨z90, e89⟩ : ∃ z : Int64, z88 - z88 / (4 : Int64) * (4 : Int64) = z := ⟨_, rfl⟩
            refine o_lrem (z := z90) hx hb dX8_noons_84 (by decide) e89 ?_
            obtain ⟨z91, e92⟩ : ∃ z : Int32, z90.toInt32 = z := ⟨_, rfl⟩
            refine lv_l2i (v := z91) hx hb dX8_noons_85 e92 ?_
            refine lv_istore (lv' := [(7, .int z91), (6, .int z85), (3, .long z80), (5, .int L40), (0, .ref (ad 0)), (1, .int x), (2, .int n)]) hx hb dX8_noons_86 hl (by decide) rfl (fun ls hl => ?_)
            refine lv_aload_n hx hb dX8_noons_88 rfl (lv_at hl 4 rfl) ?_
            obtain ⟨x94, x95, q96, q97, q98, f93⟩ := (show sN ad (wL42 0) from ok49 0 (by decide))
            have f99 : wL42 0 = .inr (6, [.ref (ad 1), .ref (ad 14), .ref (ad 27), .ref (ad 54), .ref (ad 55), .ref (ad 58), .ref (ad 62), .long x94, .long x95, .int q96, .int q97, .int q98]) := f93
            refine r_get kc8 X h 0 1 (by decide) rfl f99 (by decide) kv_306 rfl dX8_noons_89 ?_
            refine lv_iload hx hb dX8_noons_92 (lv_at hl 1 rfl) ?_
            obtain ⟨q104, q105, q106, q107, q108, f103, h109, h110, h111, h112⟩ := (show sI ad 14 (wL42 14) from ok49 14 (by decide))
            have f113 : wL42 14 = .inr (1, [.int q104, .int q105, .int q106, .int q107, .int q108, .ref (ad 15), .ref (ad 16), .ref (ad 17), .ref (ad 18), .ref (ad 19), .ref (ad 20), .ref (ad 21), .ref (ad 23), .ref (ad 25)]) := f103
            refine n_Vi (na := 1) (As := [.int z85]) (rest := []) X hD hN h rfl (c_hasCaster l G cI cB cZ cO ad wL42 14 (Or.inr (Or.inl rfl)) ok49 z85  ) ⟨kv_219, kv_220, kv_221, kv_37, kv_222⟩ rfl ⟨by decide, by decide, by decide⟩ ⟨Nat.le_of_ble_eq_true rfl, Nat.le_of_ble_eq_true rfl⟩ ⟨Nat.zero_le _, Nat.zero_le _⟩ (by decide) f113 rfl rfl hl.1 rfl (Nat.le_of_ble_eq_true rfl) dX8_noons_94 (fun r100 w101 H locs hp102 h => ?_)
            obtain ⟨rfl, hr114⟩ := hp102
            rcases hr114 with ⟨hq115, hq116, rfl⟩ | rfl
            · refine lv_if_eq (tgt := 136) hx hb dX8_noons_97 (by decide) (fun hc => absurd hc (by decide)) (fun _ => ?_)
              refine lv_aload_n hx hb dX8_noons_100 rfl (lv_at hl 4 rfl) ?_
              refine r_get kc8 X h 0 1 (by decide) rfl f99 (by decide) kv_306 rfl dX8_noons_101 ?_
              refine lv_iload hx hb dX8_noons_104 (lv_at hl 0 rfl) ?_
              refine n_Vi (na := 1) (As := [.int z91]) (rest := []) X hD hN h rfl (c_hasJar l G cI cB cZ cO ad wL42 14 (Or.inr (Or.inl rfl)) ok49 z91  ) ⟨kv_223, kv_224, kv_225, kv_37, kv_226⟩ rfl ⟨by decide, by decide, by decide⟩ ⟨Nat.le_of_ble_eq_true rfl, Nat.le_of_ble_eq_true rfl⟩ ⟨Nat.zero_le _, Nat.zero_le _⟩ (by decide) f113 rfl rfl hl.1 rfl (Nat.le_of_ble_eq_true rfl) dX8_noons_106 (fun r117 w118 H locs hp119 h => ?_)
              obtain ⟨rfl, hr120⟩ := hp119
              rcases hr120 with ⟨hq121, hq122, rfl⟩ | rfl
              · refine lv_if_eq (tgt := 136) hx hb dX8_noons_109 (by decide) (fun hc => absurd hc (by decide)) (fun _ => ?_)
                refine lv_aload_n hx hb dX8_noons_112 rfl (lv_at hl 4 rfl) ?_
                refine r_get kc8 X h 0 1 (by decide) rfl f99 (by decide) kv_306 rfl dX8_noons_113 ?_
                refine lv_iload hx hb dX8_noons_116 (lv_at hl 1 rfl) ?_
                refine n_Vi (na := 1) (As := [.int z85]) (rest := []) X hD hN h rfl (c_isMilked l G cI cB cZ cO ad wL42 14 (Or.inr (Or.inl rfl)) ok49 z85  ) ⟨kv_208, kv_35, kv_36, kv_37, kv_38⟩ rfl ⟨by decide, by decide, by decide⟩ ⟨Nat.le_of_ble_eq_true rfl, Nat.le_of_ble_eq_true rfl⟩ ⟨Nat.zero_le _, Nat.zero_le _⟩ (by decide) f113 rfl rfl hl.1 rfl (Nat.le_of_ble_eq_true rfl) dX8_noons_118 (fun r123 w124 H locs hp125 h => ?_)
                obtain ⟨rfl, hr126⟩ := hp125
                rcases hr126 with rfl | rfl
                · refine lv_if_ne (tgt := 136) hx hb dX8_noons_121 (by decide) (fun _ => ?_) (fun hc => absurd hc (by decide))
                  refine lv_lload_n hx hb dX8_noons_136 rfl (lv_at hl 2 rfl) ?_
                  refine lv_ldc2 (v := 16384) hx hb hown (hts _ kv_318) dX8_noons_137 ?_
                  obtain ⟨z128, e127⟩ : ∃ z : Int64, z80 / (16384 : Int64) = z := ⟨_, rfl⟩
                  refine o_ldiv (z := z128) hx hb dX8_noons_140 (by decide) e127 ?_
                  refine lv_ldc2 (v := 2) hx hb hown (hts _ kv_319) dX8_noons_141 ?_
                  obtain ⟨z130, e129⟩ : ∃ z : Int64, z128 - z128 / (2 : Int64) * (2 : Int64) = z := ⟨_, rfl⟩
                  refine o_lrem (z := z130) hx hb dX8_noons_144 (by decide) e129 ?_
                  refine lv_lconst (v := 0) hx hb dX8_noons_145 (by decide) ?_
                  refine W.lcmp hx hb dX8_noons_146 ?_
                  refine lv_if_ne (tgt := 157) hx hb dX8_noons_147 (by decide) (fun hc131 => ?_) (fun hc131 => ?_)
                  · have hc131 : ¬ (z130).toInt = 0 := lcm_ne hc131 rfl rfl
                    obtain ⟨z132, e133, t134⟩ := x_add (x := L40) (y := 1) (a := L40.toInt) (b := 1) rfl rfl (by omega) (by omega)
                    refine lv_iinc (v := z132) (lv' := [(5, .int z132), (7, .int z91), (6, .int z85), (3, .long z80), (0, .ref (ad 0)), (1, .int x), (2, .int n)]) hx hb dX8_noons_157 hl (k := 3) rfl e133 (by decide) rfl (fun ls hl => ?_)
                    refine lv_goto (tgt := 44) hx hb dX8_noons_160 (by decide) ?_
                    exact ih45  z132 z80 wL42 _ _ _ (by omega) (by omega) ok49 kx50 (by omega) h (lv_sub hl [0, 3, 4, 5, 6] rfl)
                  · have hc131 : (z130).toInt = 0 := lcm_eq hc131 rfl rfl
                    refine lv_aload_n hx hb dX8_noons_150 rfl (lv_at hl 4 rfl) ?_
                    refine r_get kc8 X h 0 1 (by decide) rfl f99 (by decide) kv_306 rfl dX8_noons_151 ?_
                    refine n_Vv (na := 0) (As := []) (rest := []) X hD hN h rfl (c_passHour l G cI cB cZ cO ad wL42 14 (Or.inr rfl) ok49   ) ⟨kv_320, kv_55, kv_56, kv_37, kv_57⟩ rfl ⟨by decide, by decide, by decide⟩ ⟨Nat.le_of_ble_eq_true rfl, Nat.le_of_ble_eq_true rfl⟩ ⟨Nat.zero_le _, Nat.zero_le _⟩ (by decide) f113 rfl rfl hl.1 rfl (Nat.le_of_ble_eq_true rfl) dX8_noons_154 (fun w136 H locs hp137 h => ?_)
                    obtain ⟨ok139, kk140, hr138⟩ := hp137
                    have kx141 : KX w w136 := KX.tr kx50 kk140.1
                    obtain ⟨z142, e143, t144⟩ := x_add (x := L40) (y := 1) (a := L40.toInt) (b := 1) rfl rfl (by omega) (by omega)
                    refine lv_iinc (v := z142) (lv' := [(5, .int z142), (7, .int z91), (6, .int z85), (3, .long z80), (0, .ref (ad 0)), (1, .int x), (2, .int n)]) hx hb dX8_noons_157 hl (k := 3) rfl e143 (by decide) rfl (fun ls hl => ?_)
                    refine lv_goto (tgt := 44) hx hb dX8_noons_160 (by decide) ?_
                    exact ih45  z142 z80 w136 _ _ _ (by omega) (by omega) ok139 kx141 (by omega) h (lv_sub hl [0, 3, 4, 5, 6] rfl)
                · refine lv_if_ne (tgt := 136) hx hb dX8_noons_121 (by decide) (fun hc => absurd (by decide) hc) (fun _ => ?_)
                  refine lv_aload_n hx hb dX8_noons_124 rfl (lv_at hl 4 rfl) ?_
                  refine r_get kc8 X h 0 1 (by decide) rfl f99 (by decide) kv_306 rfl dX8_noons_125 ?_
                  refine lv_iload hx hb dX8_noons_128 (lv_at hl 1 rfl) ?_
                  refine lv_iload hx hb dX8_noons_130 (lv_at hl 0 rfl) ?_
                  refine n_Vi (na := 2) (As := [.int z85, .int z91]) (rest := []) X hD hN h rfl (c_draw l G cI cB cZ cO ad wL42 14 (Or.inr rfl) ok49 z85 z91 (by omega) (by omega) (by omega) (by omega) ) ⟨kv_235, kv_236, kv_237, kv_37, kv_238⟩ rfl ⟨by decide, by decide, by decide⟩ ⟨Nat.le_of_ble_eq_true rfl, Nat.le_of_ble_eq_true rfl⟩ ⟨Nat.zero_le _, Nat.zero_le _⟩ (by decide) f113 rfl rfl hl.1 rfl (Nat.le_of_ble_eq_true rfl) dX8_noons_132 (fun r145 w146 H locs hp147 h => ?_)
                  obtain ⟨ok149, kk150, hr148⟩ := hp147
                  have kx151 : KX w w146 := KX.tr kx50 kk150.1
                  refine lv_pop hx hb dX8_noons_135 rfl ?_
                  refine lv_lload_n hx hb dX8_noons_136 rfl (lv_at hl 2 rfl) ?_
                  refine lv_ldc2 (v := 16384) hx hb hown (hts _ kv_318) dX8_noons_137 ?_
                  obtain ⟨z153, e152⟩ : ∃ z : Int64, z80 / (16384 : Int64) = z := ⟨_, rfl⟩
                  refine o_ldiv (z := z153) hx hb dX8_noons_140 (by decide) e152 ?_
                  refine lv_ldc2 (v := 2) hx hb hown (hts _ kv_319) dX8_noons_141 ?_
                  obtain ⟨z155, e154⟩ : ∃ z : Int64, z153 - z153 / (2 : Int64) * (2 : Int64) = z := ⟨_, rfl⟩
                  refine o_lrem (z := z155) hx hb dX8_noons_144 (by decide) e154 ?_
                  refine lv_lconst (v := 0) hx hb dX8_noons_145 (by decide) ?_
                  refine W.lcmp hx hb dX8_noons_146 ?_
                  refine lv_if_ne (tgt := 157) hx hb dX8_noons_147 (by decide) (fun hc156 => ?_) (fun hc156 => ?_)
                  · have hc156 : ¬ (z155).toInt = 0 := lcm_ne hc156 rfl rfl
                    obtain ⟨z157, e158, t159⟩ := x_add (x := L40) (y := 1) (a := L40.toInt) (b := 1) rfl rfl (by omega) (by omega)
                    refine lv_iinc (v := z157) (lv' := [(5, .int z157), (7, .int z91), (6, .int z85), (3, .long z80), (0, .ref (ad 0)), (1, .int x), (2, .int n)]) hx hb dX8_noons_157 hl (k := 3) rfl e158 (by decide) rfl (fun ls hl => ?_)
                    refine lv_goto (tgt := 44) hx hb dX8_noons_160 (by decide) ?_
                    exact ih45  z157 z80 w146 _ _ _ (by omega) (by omega) ok149 kx151 (by omega) h (lv_sub hl [0, 3, 4, 5, 6] rfl)
                  · have hc156 : (z155).toInt = 0 := lcm_eq hc156 rfl rfl
                    refine lv_aload_n hx hb dX8_noons_150 rfl (lv_at hl 4 rfl) ?_
                    have f160 : w146 0 = .inr (6, [.ref (ad 1), .ref (ad 14), .ref (ad 27), .ref (ad 54), .ref (ad 55), .ref (ad 58), .ref (ad 62), .long x94, .long x95, .int q96, .int q97, .int q98]) := (kk150.2 0 (by decide)).trans f99
                    refine r_get kc8 X h 0 1 (by decide) rfl f160 (by decide) kv_306 rfl dX8_noons_151 ?_
                    obtain ⟨q166, q167, q168, q169, q170, f165, h171, h172, h173, h174⟩ := (show sI ad 14 (w146 14) from ok149 14 (by decide))
                    have f175 : w146 14 = .inr (1, [.int q166, .int q167, .int q168, .int q169, .int q170, .ref (ad 15), .ref (ad 16), .ref (ad 17), .ref (ad 18), .ref (ad 19), .ref (ad 20), .ref (ad 21), .ref (ad 23), .ref (ad 25)]) := f165
                    refine n_Vv (na := 0) (As := []) (rest := []) X hD hN h rfl (c_passHour l G cI cB cZ cO ad w146 14 (Or.inr rfl) ok149   ) ⟨kv_320, kv_55, kv_56, kv_37, kv_57⟩ rfl ⟨by decide, by decide, by decide⟩ ⟨Nat.le_of_ble_eq_true rfl, Nat.le_of_ble_eq_true rfl⟩ ⟨Nat.zero_le _, Nat.zero_le _⟩ (by decide) f175 rfl rfl hl.1 rfl (Nat.le_of_ble_eq_true rfl) dX8_noons_154 (fun w162 H locs hp163 h => ?_)
                    obtain ⟨ok177, kk178, hr176⟩ := hp163
                    have kx179 : KX w w162 := KX.tr kx151 kk178.1
                    obtain ⟨z180, e181, t182⟩ := x_add (x := L40) (y := 1) (a := L40.toInt) (b := 1) rfl rfl (by omega) (by omega)
                    refine lv_iinc (v := z180) (lv' := [(5, .int z180), (7, .int z91), (6, .int z85), (3, .long z80), (0, .ref (ad 0)), (1, .int x), (2, .int n)]) hx hb dX8_noons_157 hl (k := 3) rfl e181 (by decide) rfl (fun ls hl => ?_)
                    refine lv_goto (tgt := 44) hx hb dX8_noons_160 (by decide) ?_
                    exact ih45  z180 z80 w162 _ _ _ (by omega) (by omega) ok177 kx179 (by omega) h (lv_sub hl [0, 3, 4, 5, 6] rfl)
              · refine lv_if_eq (tgt := 136) hx hb dX8_noons_109 (by decide) (fun _ => ?_) (fun hc => absurd (by decide) hc)
                refine lv_lload_n hx hb dX8_noons_136 rfl (lv_at hl 2 rfl) ?_
                refine lv_ldc2 (v := 16384) hx hb hown (hts _ kv_318) dX8_noons_137 ?_
                obtain ⟨z184, e183⟩ : ∃ z : Int64, z80 / (16384 : Int64) = z := ⟨_, rfl⟩
                refine o_ldiv (z := z184) hx hb dX8_noons_140 (by decide) e183 ?_
                refine lv_ldc2 (v := 2) hx hb hown (hts _ kv_319) dX8_noons_141 ?_
                obtain ⟨z186, e185⟩ : ∃ z : Int64, z184 - z184 / (2 : Int64) * (2 : Int64) = z := ⟨_, rfl⟩
                refine o_lrem (z := z186) hx hb dX8_noons_144 (by decide) e185 ?_
                refine lv_lconst (v := 0) hx hb dX8_noons_145 (by decide) ?_
                refine W.lcmp hx hb dX8_noons_146 ?_
                refine lv_if_ne (tgt := 157) hx hb dX8_noons_147 (by decide) (fun hc187 => ?_) (fun hc187 => ?_)
                · have hc187 : ¬ (z186).toInt = 0 := lcm_ne hc187 rfl rfl
                  obtain ⟨z188, e189, t190⟩ := x_add (x := L40) (y := 1) (a := L40.toInt) (b := 1) rfl rfl (by omega) (by omega)
                  refine lv_iinc (v := z188) (lv' := [(5, .int z188), (7, .int z91), (6, .int z85), (3, .long z80), (0, .ref (ad 0)), (1, .int x), (2, .int n)]) hx hb dX8_noons_157 hl (k := 3) rfl e189 (by decide) rfl (fun ls hl => ?_)
                  refine lv_goto (tgt := 44) hx hb dX8_noons_160 (by decide) ?_
                  exact ih45  z188 z80 wL42 _ _ _ (by omega) (by omega) ok49 kx50 (by omega) h (lv_sub hl [0, 3, 4, 5, 6] rfl)
                · have hc187 : (z186).toInt = 0 := lcm_eq hc187 rfl rfl
                  refine lv_aload_n hx hb dX8_noons_150 rfl (lv_at hl 4 rfl) ?_
                  refine r_get kc8 X h 0 1 (by decide) rfl f99 (by decide) kv_306 rfl dX8_noons_151 ?_
                  refine n_Vv (na := 0) (As := []) (rest := []) X hD hN h rfl (c_passHour l G cI cB cZ cO ad wL42 14 (Or.inr rfl) ok49   ) ⟨kv_320, kv_55, kv_56, kv_37, kv_57⟩ rfl ⟨by decide, by decide, by decide⟩ ⟨Nat.le_of_ble_eq_true rfl, Nat.le_of_ble_eq_true rfl⟩ ⟨Nat.zero_le _, Nat.zero_le _⟩ (by decide) f113 rfl rfl hl.1 rfl (Nat.le_of_ble_eq_true rfl) dX8_noons_154 (fun w192 H locs hp193 h => ?_)
                  obtain ⟨ok195, kk196, hr194⟩ := hp193
                  have kx197 : KX w w192 := KX.tr kx50 kk196.1
                  obtain ⟨z198, e199, t200⟩ := x_add (x := L40) (y := 1) (a := L40.toInt) (b := 1) rfl rfl (by omega) (by omega)
                  refine lv_iinc (v := z198) (lv' := [(5, .int z198), (7, .int z91), (6, .int z85), (3, .long z80), (0, .ref (ad 0)), (1, .int x), (2, .int n)]) hx hb dX8_noons_157 hl (k := 3) rfl e199 (by decide) rfl (fun ls hl => ?_)
                  refine lv_goto (tgt := 44) hx hb dX8_noons_160 (by decide) ?_
                  exact ih45  z198 z80 w192 _ _ _ (by omega) (by omega) ok195 kx197 (by omega) h (lv_sub hl [0, 3, 4, 5, 6] rfl)
            · refine lv_if_eq (tgt := 136) hx hb dX8_noons_97 (by decide) (fun _ => ?_) (fun hc => absurd (by decide) hc)
              refine lv_lload_n hx hb dX8_noons_136 rfl (lv_at hl 2 rfl) ?_
              refine lv_ldc2 (v := 16384) hx hb hown (hts _ kv_318) dX8_noons_137 ?_
              obtain ⟨z202, e201⟩ : ∃ z : Int64, z80 / (16384 : Int64) = z := ⟨_, rfl⟩
              refine o_ldiv (z := z202) hx hb dX8_noons_140 (by decide) e201 ?_
              refine lv_ldc2 (v := 2) hx hb hown (hts _ kv_319) dX8_noons_141 ?_
              obtain ⟨z204, e203⟩ : ∃ z : Int64, z202 - z202 / (2 : Int64) * (2 : Int64) = z := ⟨_, rfl⟩
              refine o_lrem (z := z204) hx hb dX8_noons_144 (by decide) e203 ?_
              refine lv_lconst (v := 0) hx hb dX8_noons_145 (by decide) ?_
              refine W.lcmp hx hb dX8_noons_146 ?_
              refine lv_if_ne (tgt := 157) hx hb dX8_noons_147 (by decide) (fun hc205 => ?_) (fun hc205 => ?_)
              · have hc205 : ¬ (z204).toInt = 0 := lcm_ne hc205 rfl rfl
                obtain ⟨z206, e207, t208⟩ := x_add (x := L40) (y := 1) (a := L40.toInt) (b := 1) rfl rfl (by omega) (by omega)
                refine lv_iinc (v := z206) (lv' := [(5, .int z206), (7, .int z91), (6, .int z85), (3, .long z80), (0, .ref (ad 0)), (1, .int x), (2, .int n)]) hx hb dX8_noons_157 hl (k := 3) rfl e207 (by decide) rfl (fun ls hl => ?_)
                refine lv_goto (tgt := 44) hx hb dX8_noons_160 (by decide) ?_
                exact ih45  z206 z80 wL42 _ _ _ (by omega) (by omega) ok49 kx50 (by omega) h (lv_sub hl [0, 3, 4, 5, 6] rfl)
              · have hc205 : (z204).toInt = 0 := lcm_eq hc205 rfl rfl
                refine lv_aload_n hx hb dX8_noons_150 rfl (lv_at hl 4 rfl) ?_
                refine r_get kc8 X h 0 1 (by decide) rfl f99 (by decide) kv_306 rfl dX8_noons_151 ?_
                refine n_Vv (na := 0) (As := []) (rest := []) X hD hN h rfl (c_passHour l G cI cB cZ cO ad wL42 14 (Or.inr rfl) ok49   ) ⟨kv_320, kv_55, kv_56, kv_37, kv_57⟩ rfl ⟨by decide, by decide, by decide⟩ ⟨Nat.le_of_ble_eq_true rfl, Nat.le_of_ble_eq_true rfl⟩ ⟨Nat.zero_le _, Nat.zero_le _⟩ (by decide) f113 rfl rfl hl.1 rfl (Nat.le_of_ble_eq_true rfl) dX8_noons_154 (fun w210 H locs hp211 h => ?_)
                obtain ⟨ok213, kk214, hr212⟩ := hp211
                have kx215 : KX w w210 := KX.tr kx50 kk214.1
                obtain ⟨z216, e217, t218⟩ := x_add (x := L40) (y := 1) (a := L40.toInt) (b := 1) rfl rfl (by omega) (by omega)
                refine lv_iinc (v := z216) (lv' := [(5, .int z216), (7, .int z91), (6, .int z85), (3, .long z80), (0, .ref (ad 0)), (1, .int x), (2, .int n)]) hx hb dX8_noons_157 hl (k := 3) rfl e217 (by decide) rfl (fun ls hl => ?_)
                refine lv_goto (tgt := 44) hx hb dX8_noons_160 (by decide) ?_
                exact ih45  z216 z80 w210 _ _ _ (by omega) (by omega) ok213 kx215 (by omega) h (lv_sub hl [0, 3, 4, 5, 6] rfl)
      exact hloop43 61 (0 : Int32) z38 w21 _ _ _ (by have q0 : (0 : Int32).toInt = 0 := rfl; omega) (by have q0 : (0 : Int32).toInt = 0 := rfl; omega) ok35 kx37 (by have q0 : (0 : Int32).toInt = 0 := rfl; omega) h (lv_sub hl [0, 1, 2, 3, 4] rfl)
    · refine lv_if_ne (tgt := 27) hx hb dX8_noons_17 (by decide) (fun hc => absurd (by decide) hc) (fun _ => ?_)
      refine lv_aload_n hx hb dX8_noons_20 rfl (lv_at hl 0 rfl) ?_
      refine lv_bipush (v := (-2)) hx hb dX8_noons_21 (by decide) ?_
      obtain ⟨x223, x224, q225, q226, q227, f222⟩ := (show sN ad (w 0) from ok 0 (by decide))
      have f228 : w 0 = .inr (6, [.ref (ad 1), .ref (ad 14), .ref (ad 27), .ref (ad 54), .ref (ad 55), .ref (ad 58), .ref (ad 62), .long x223, .long x224, .int q225, .int q226, .int q227]) := f222
      refine n_Vi (na := 1) (As := [.int (-2)]) (rest := []) X hD hN h rfl (c_refused l G cI cB cZ cO ad w  ok ((-2) : Int32)  ) ⟨kv_227, kv_228, kv_229, kv_212, kv_230⟩ rfl ⟨by decide, by decide, by decide⟩ ⟨Nat.le_of_ble_eq_true rfl, Nat.le_of_ble_eq_true rfl⟩ ⟨Nat.zero_le _, Nat.zero_le _⟩ (by decide) f228 rfl rfl hl.1 rfl (Nat.le_of_ble_eq_true rfl) dX8_noons_23 (fun r219 w220 H locs hp221 h => ?_)
      obtain ⟨ok230, kk231, hr229⟩ := hp221
      have kx232 : KX w w220 := kk231
      subst hr229
      exact e_i X h hr hlk dX8_noons_26 ⟨ok230, kx232, trivial⟩
  · refine lv_if_eq (tgt := 20) hx hb dX8_noons_7 (by decide) (fun _ => ?_) (fun hc => absurd (by decide) hc)
    refine lv_aload_n hx hb dX8_noons_20 rfl (lv_at hl 0 rfl) ?_
    refine lv_bipush (v := (-2)) hx hb dX8_noons_21 (by decide) ?_
    obtain ⟨x237, x238, q239, q240, q241, f236⟩ := (show sN ad (w 0) from ok 0 (by decide))
    have f242 : w 0 = .inr (6, [.ref (ad 1), .ref (ad 14), .ref (ad 27), .ref (ad 54), .ref (ad 55), .ref (ad 58), .ref (ad 62), .long x237, .long x238, .int q239, .int q240, .int q241]) := f236
    refine n_Vi (na := 1) (As := [.int (-2)]) (rest := []) X hD hN h rfl (c_refused l G cI cB cZ cO ad w  ok ((-2) : Int32)  ) ⟨kv_227, kv_228, kv_229, kv_212, kv_230⟩ rfl ⟨by decide, by decide, by decide⟩ ⟨Nat.le_of_ble_eq_true rfl, Nat.le_of_ble_eq_true rfl⟩ ⟨Nat.zero_le _, Nat.zero_le _⟩ (by decide) f242 rfl rfl hl.1 rfl (Nat.le_of_ble_eq_true rfl) dX8_noons_23 (fun r233 w234 H locs hp235 h => ?_)
    obtain ⟨ok244, kk245, hr243⟩ := hp235
    have kx246 : KX w w234 := kk245
    subst hr243
    exact e_i X h hr hlk dX8_noons_26 ⟨ok244, kx246, trivial⟩

set_option maxHeartbeats 4000000 in
set_option maxRecDepth 100000 in
theorem c_X_part (l : Launch) (G : va_G) (cI cB cZ cO : ClassId) (ad : Nat → Nat) (w : Nat → va_E)  (ok : OK cI cB cZ cO ad w) (u : Int32)   : NL l G (tyq cI cB cZ cO) yX8_part cX8_part 2 (some .long) 1 21 74 ad w [.ref (ad 0), .int u] (fun r w1 => OK cI cB cZ cO ad w1 ∧ KX w w1 ∧ True) := by
  refine nk_l (own := "NoonShade") rfl (by decide) (Nat.le_of_ble_eq_true rfl) ?_
  intro p e s m below meth c ls X hD hN hr hlk h hl
  have hx := X.1.1
  have hb := X.1.2.1
  have hown := X.1.2.2.2.1
  have hts := X.1.2.2.2.2
  have hl : lv_has ls 2 [(0, .ref (ad 0)), (1, .int u)] := hl
  refine lv_iload_n hx hb dX8_part_0 rfl (lv_at hl 1 rfl) ?_
  by_cases hq1 : (u).toInt = 0
  · refine lv_lookup (tgt := 28) (off := 27) hx hb dX8_part_1 (by decide) (by rw [hq1]; rfl) (by decide) ?_
    refine lv_aload_n hx hb dX8_part_28 rfl (lv_at hl 0 rfl) ?_
    obtain ⟨x3, x4, q5, q6, q7, f2⟩ := (show sN ad (w 0) from ok 0 (by decide))
    have f8 : w 0 = .inr (6, [.ref (ad 1), .ref (ad 14), .ref (ad 27), .ref (ad 54), .ref (ad 55), .ref (ad 58), .ref (ad 62), .long x3, .long x4, .int q5, .int q6, .int q7]) := f2
    refine r_get kc8 X h 0 7 (by decide) rfl f8 (by decide) kv_217 rfl dX8_part_29 ?_
    exact e_l X h hr hlk dX8_part_32 ⟨ok, KX.rf, trivial⟩
  by_cases hq9 : (u).toInt = 1
  · refine lv_lookup (tgt := 33) (off := 32) hx hb dX8_part_1 (by decide) (by rw [hq9]; rfl) (by decide) ?_
    refine lv_aload_n hx hb dX8_part_33 rfl (lv_at hl 0 rfl) ?_
    obtain ⟨x11, x12, q13, q14, q15, f10⟩ := (show sN ad (w 0) from ok 0 (by decide))
    have f16 : w 0 = .inr (6, [.ref (ad 1), .ref (ad 14), .ref (ad 27), .ref (ad 54), .ref (ad 55), .ref (ad 58), .ref (ad 62), .long x11, .long x12, .int q13, .int q14, .int q15]) := f10
    refine r_get kc8 X h 0 8 (by decide) rfl f16 (by decide) kv_218 rfl dX8_part_34 ?_
    exact e_l X h hr hlk dX8_part_37 ⟨ok, KX.rf, trivial⟩
  refine lv_lookup (tgt := 38) (off := 37) hx hb dX8_part_1 (by decide) (by show (if (0 : Int) = _ then _ else if (1 : Int) = _ then _ else _) = _; rw [if_neg (by omega), if_neg (by omega)]; rfl) (by decide) ?_
  refine lv_aload_n hx hb dX8_part_38 rfl (lv_at hl 0 rfl) ?_
  refine lv_bipush (v := (-2)) hx hb dX8_part_39 (by decide) ?_
  obtain ⟨x21, x22, q23, q24, q25, f20⟩ := (show sN ad (w 0) from ok 0 (by decide))
  have f26 : w 0 = .inr (6, [.ref (ad 1), .ref (ad 14), .ref (ad 27), .ref (ad 54), .ref (ad 55), .ref (ad 58), .ref (ad 62), .long x21, .long x22, .int q23, .int q24, .int q25]) := f20
  refine n_Vi (na := 1) (As := [.int (-2)]) (rest := []) X hD hN h rfl (c_refused l G cI cB cZ cO ad w  ok ((-2) : Int32)  ) ⟨kv_227, kv_228, kv_229, kv_212, kv_230⟩ rfl ⟨by decide, by decide, by decide⟩ ⟨Nat.le_of_ble_eq_true rfl, Nat.le_of_ble_eq_true rfl⟩ ⟨Nat.zero_le _, Nat.zero_le _⟩ (by decide) f26 rfl rfl hl.1 rfl (Nat.le_of_ble_eq_true rfl) dX8_part_41 (fun r17 w18 H locs hp19 h => ?_)
  obtain ⟨ok28, kk29, hr27⟩ := hp19
  have kx30 : KX w w18 := kk29
  subst hr27
  refine lv_i2l (v := (-2)) hx hb dX8_part_44 rfl ?_
  exact e_l X h hr hlk dX8_part_45 ⟨ok28, kx30, trivial⟩

set_option maxHeartbeats 4000000 in
set_option maxRecDepth 100000 in
theorem c_X_status (l : Launch) (G : va_G) (cI cB cZ cO : ClassId) (ad : Nat → Nat) (w : Nat → va_E)  (ok : OK cI cB cZ cO ad w) (u : Int32)   : NI l G (tyq cI cB cZ cO) yX8_status cX8_status 2 (some .int) 1 21 74 ad w [.ref (ad 0), .int u] (fun r w1 => OK cI cB cZ cO ad w1 ∧ KX w w1 ∧ True) := by
  refine nk_i (own := "NoonShade") rfl (by decide) (Nat.le_of_ble_eq_true rfl) ?_
  intro p e s m below meth c ls X hD hN hr hlk h hl
  have hx := X.1.1
  have hb := X.1.2.1
  have hown := X.1.2.2.2.1
  have hts := X.1.2.2.2.2
  have hl : lv_has ls 2 [(0, .ref (ad 0)), (1, .int u)] := hl
  refine lv_iload_n hx hb dX8_status_0 rfl (lv_at hl 1 rfl) ?_
  by_cases hs1 : 0 ≤ (u).toInt ∧ (u).toInt ≤ 2
  · have ha2 : u = 0 ∨ u = 1 ∨ u = 2 := by simp only [fa_eq]; have := hs1; simp only [show ((0 : Int32).toInt = 0) from rfl, show ((1 : Int32).toInt = 1) from rfl, show ((2 : Int32).toInt = 2) from rfl]; omega
    rcases ha2 with hq | hq | hq
    · refine lv_tableIn (tgt := 28) (off := 27) hx hb dX8_status_1 (by rw [hq]; decide) (by rw [hq]; decide) (by rw [hq]; decide) (by decide) ?_
      refine lv_aload_n hx hb dX8_status_28 rfl (lv_at hl 0 rfl) ?_
      obtain ⟨x4, x5, q6, q7, q8, f3⟩ := (show sN ad (w 0) from ok 0 (by decide))
      have f9 : w 0 = .inr (6, [.ref (ad 1), .ref (ad 14), .ref (ad 27), .ref (ad 54), .ref (ad 55), .ref (ad 58), .ref (ad 62), .long x4, .long x5, .int q6, .int q7, .int q8]) := f3
      refine r_get kc8 X h 0 9 (by decide) rfl f9 (by decide) kv_171 rfl dX8_status_29 ?_
      exact e_i X h hr hlk dX8_status_32 ⟨ok, KX.rf, trivial⟩
    · refine lv_tableIn (tgt := 33) (off := 32) hx hb dX8_status_1 (by rw [hq]; decide) (by rw [hq]; decide) (by rw [hq]; decide) (by decide) ?_
      refine lv_aload_n hx hb dX8_status_33 rfl (lv_at hl 0 rfl) ?_
      obtain ⟨x11, x12, q13, q14, q15, f10⟩ := (show sN ad (w 0) from ok 0 (by decide))
      have f16 : w 0 = .inr (6, [.ref (ad 1), .ref (ad 14), .ref (ad 27), .ref (ad 54), .ref (ad 55), .ref (ad 58), .ref (ad 62), .long x11, .long x12, .int q13, .int q14, .int q15]) := f10
      refine r_get kc8 X h 0 10 (by decide) rfl f16 (by decide) kv_170 rfl dX8_status_34 ?_
      exact e_i X h hr hlk dX8_status_37 ⟨ok, KX.rf, trivial⟩
    · refine lv_tableIn (tgt := 38) (off := 37) hx hb dX8_status_1 (by rw [hq]; decide) (by rw [hq]; decide) (by rw [hq]; decide) (by decide) ?_
      refine lv_aload_n hx hb dX8_status_38 rfl (lv_at hl 0 rfl) ?_
      obtain ⟨x18, x19, q20, q21, q22, f17⟩ := (show sN ad (w 0) from ok 0 (by decide))
      have f23 : w 0 = .inr (6, [.ref (ad 1), .ref (ad 14), .ref (ad 27), .ref (ad 54), .ref (ad 55), .ref (ad 58), .ref (ad 62), .long x18, .long x19, .int q20, .int q21, .int q22]) := f17
      refine r_get kc8 X h 0 11 (by decide) rfl f23 (by decide) kv_169 rfl dX8_status_39 ?_
      exact e_i X h hr hlk dX8_status_42 ⟨ok, KX.rf, trivial⟩
  · refine lv_tableOut (tgt := 43) hx hb dX8_status_1 (by omega) (by decide) ?_
    refine lv_aload_n hx hb dX8_status_43 rfl (lv_at hl 0 rfl) ?_
    refine lv_bipush (v := (-2)) hx hb dX8_status_44 (by decide) ?_
    obtain ⟨x28, x29, q30, q31, q32, f27⟩ := (show sN ad (w 0) from ok 0 (by decide))
    have f33 : w 0 = .inr (6, [.ref (ad 1), .ref (ad 14), .ref (ad 27), .ref (ad 54), .ref (ad 55), .ref (ad 58), .ref (ad 62), .long x28, .long x29, .int q30, .int q31, .int q32]) := f27
    refine n_Vi (na := 1) (As := [.int (-2)]) (rest := []) X hD hN h rfl (c_refused l G cI cB cZ cO ad w  ok ((-2) : Int32)  ) ⟨kv_227, kv_228, kv_229, kv_212, kv_230⟩ rfl ⟨by decide, by decide, by decide⟩ ⟨Nat.le_of_ble_eq_true rfl, Nat.le_of_ble_eq_true rfl⟩ ⟨Nat.zero_le _, Nat.zero_le _⟩ (by decide) f33 rfl rfl hl.1 rfl (Nat.le_of_ble_eq_true rfl) dX8_status_46 (fun r24 w25 H locs hp26 h => ?_)
    obtain ⟨ok35, kk36, hr34⟩ := hp26
    have kx37 : KX w w25 := kk36
    subst hr34
    refine lv_pop hx hb dX8_status_49 rfl ?_
    refine lv_iconst (v := (-1)) hx hb dX8_status_50 (by decide) ?_
    exact e_i X h hr hlk dX8_status_51 ⟨ok35, kx37, trivial⟩

set_option maxHeartbeats 4000000 in
set_option maxRecDepth 100000 in
theorem c_X_count (l : Launch) (G : va_G) (cI cB cZ cO : ClassId) (ad : Nat → Nat) (w : Nat → va_E)  (ok : OK cI cB cZ cO ad w) (u : Int32)   : NI l G (tyq cI cB cZ cO) yX8_count cX8_count 2 (some .int) 2 43 74 ad w [.ref (ad 0), .int u] (fun r w1 => OK cI cB cZ cO ad w1 ∧ KX w w1 ∧ True) := by
  refine nk_i (own := "NoonShade") rfl (by decide) (Nat.le_of_ble_eq_true rfl) ?_
  intro p e s m below meth c ls X hD hN hr hlk h hl
  have hx := X.1.1
  have hb := X.1.2.1
  have hown := X.1.2.2.2.1
  have hts := X.1.2.2.2.2
  have hl : lv_has ls 2 [(0, .ref (ad 0)), (1, .int u)] := hl
  refine lv_iload_n hx hb dX8_count_0 rfl (lv_at hl 1 rfl) ?_
  refine lv_iconst (v := 0) hx hb dX8_count_1 (by decide) ?_
  refine lv_bipush (v := 9) hx hb dX8_count_2 (by decide) ?_
  refine n_Si (na := 3) (As := [.int u, .int 0, .int 9]) (rest := []) X hD hN h (c_within l G cI cB cZ cO ad w u (0 : Int32) (9 : Int32) ((u).toInt) 0 9 rfl rfl rfl) ⟨kv_247, kv_248, kv_212, kv_249⟩ ⟨by decide, by decide, by decide⟩ ⟨Nat.le_of_ble_eq_true rfl, Nat.le_of_ble_eq_true rfl⟩ ⟨Nat.zero_le _, Nat.zero_le _⟩ rfl hl.1 rfl (Nat.le_of_ble_eq_true rfl) dX8_count_4 (fun r1 w2 H locs hp3 h => ?_)
  obtain ⟨rfl, hq4⟩ := hp3
  rcases hq4 with ⟨hq5, hq6, rfl⟩ | ⟨hq4, rfl⟩
  · refine lv_if_ne (tgt := 17) hx hb dX8_count_7 (by decide) (fun _ => ?_) (fun hc => absurd hc (by decide))
    refine lv_aload_n hx hb dX8_count_17 rfl (lv_at hl 0 rfl) ?_
    refine lv_iload_n hx hb dX8_count_18 rfl (lv_at hl 1 rfl) ?_
    obtain ⟨x11, x12, q13, q14, q15, f10⟩ := (show sN ad (w 0) from ok 0 (by decide))
    have f16 : w 0 = .inr (6, [.ref (ad 1), .ref (ad 14), .ref (ad 27), .ref (ad 54), .ref (ad 55), .ref (ad 58), .ref (ad 62), .long x11, .long x12, .int q13, .int q14, .int q15]) := f10
    refine n_Vi (na := 1) (As := [.int u]) (rest := []) X hD hN h rfl (c_counted l G cI cB cZ cO ad w  ok u  ) ⟨kv_321, kv_322, kv_323, kv_212, kv_324⟩ rfl ⟨by decide, by decide, by decide⟩ ⟨Nat.le_of_ble_eq_true rfl, Nat.le_of_ble_eq_true rfl⟩ ⟨Nat.zero_le _, Nat.zero_le _⟩ (by decide) f16 rfl rfl hl.1 rfl (Nat.le_of_ble_eq_true rfl) dX8_count_19 (fun r7 w8 H locs hp9 h => ?_)
    obtain ⟨rfl, hr17⟩ := hp9
    exact e_i X h hr hlk dX8_count_22 ⟨ok, KX.rf, trivial⟩
  · refine lv_if_ne (tgt := 17) hx hb dX8_count_7 (by decide) (fun hc => absurd (by decide) hc) (fun _ => ?_)
    refine lv_aload_n hx hb dX8_count_10 rfl (lv_at hl 0 rfl) ?_
    refine lv_bipush (v := (-2)) hx hb dX8_count_11 (by decide) ?_
    obtain ⟨x22, x23, q24, q25, q26, f21⟩ := (show sN ad (w 0) from ok 0 (by decide))
    have f27 : w 0 = .inr (6, [.ref (ad 1), .ref (ad 14), .ref (ad 27), .ref (ad 54), .ref (ad 55), .ref (ad 58), .ref (ad 62), .long x22, .long x23, .int q24, .int q25, .int q26]) := f21
    refine n_Vi (na := 1) (As := [.int (-2)]) (rest := []) X hD hN h rfl (c_refused l G cI cB cZ cO ad w  ok ((-2) : Int32)  ) ⟨kv_227, kv_228, kv_229, kv_212, kv_230⟩ rfl ⟨by decide, by decide, by decide⟩ ⟨Nat.le_of_ble_eq_true rfl, Nat.le_of_ble_eq_true rfl⟩ ⟨Nat.zero_le _, Nat.zero_le _⟩ (by decide) f27 rfl rfl hl.1 rfl (Nat.le_of_ble_eq_true rfl) dX8_count_13 (fun r18 w19 H locs hp20 h => ?_)
    obtain ⟨ok29, kk30, hr28⟩ := hp20
    have kx31 : KX w w19 := kk30
    subst hr28
    exact e_i X h hr hlk dX8_count_16 ⟨ok29, kx31, trivial⟩

set_option maxHeartbeats 4000000 in
set_option maxRecDepth 100000 in
theorem c_X_digest (l : Launch) (G : va_G) (cI cB cZ cO : ClassId) (ad : Nat → Nat) (w : Nat → va_E)  (ok : OK cI cB cZ cO ad w)    : NL l G (tyq cI cB cZ cO) yX8_digest cX8_digest 4 (some .long) 2 50 74 ad w [.ref (ad 0)] (fun r w1 => OK cI cB cZ cO ad w1 ∧ KX w w1 ∧ True) := by
  refine nk_l (own := "NoonShade") rfl (by decide) (Nat.le_of_ble_eq_true rfl) ?_
  intro p e s m below meth c ls X hD hN hr hlk h hl
  have hx := X.1.1
  have hb := X.1.2.1
  have hown := X.1.2.2.2.1
  have hts := X.1.2.2.2.2
  have hl : lv_has ls 4 [(0, .ref (ad 0))] := hl
  refine lv_ldc2 (v := 1879) hx hb hown (hts _ kv_325) dX8_digest_0 ?_
  refine lv_lstore_n (lv' := [(1, .long 1879), (0, .ref (ad 0))]) hx hb dX8_digest_3 rfl hl (by decide) rfl (fun ls hl => ?_)
  refine lv_iconst (v := 0) hx hb dX8_digest_4 (by decide) ?_
  refine lv_istore_n (lv' := [(3, .int 0), (1, .long 1879), (0, .ref (ad 0))]) hx hb dX8_digest_5 rfl hl (by decide) rfl (fun ls hl => ?_)
  have hloop4 : ∀ (d5 : Nat) (L1 : Int32) (L2 : Int64) (wL3 : Nat → va_E) (H : Heap) (locs : List Loc) (ls : Array Slot), 0 ≤ L1.toInt → L1.toInt ≤ 10 → OK cI cB cZ cO ad wL3 → KX w wL3 → 10 - L1.toInt < (d5 : Int) → St G 74 ad (wA 74 ad s.heap.size) s.heap wL3 H locs → lv_has ls 4 [(3, .int L1), (1, .long L2), (0, .ref (ad 0))] → W p l e { frames := 2, cells := 0, slots := 0, locals := 50 } s m [.ref (ad 0)].toArray below meth c H locs 0 0 (MQ below (va_Ql (fun r w1 => OK cI cB cZ cO ad w1 ∧ KX w w1 ∧ True) (Aft G 74 ad) (wA 74 ad s.heap.size)) [.ref (ad 0)].toArray s 0 0 (wA 74 ad s.heap.size)) (F0 m 6 ls []) := by
    intro d5
    induction d5 with
    | zero => intro L1 L2 wL3 H locs ls hi8 hi9 ok10 kx11 hm7 h hl; exfalso; omega
    | succ d5 ih6 =>
      intro L1 L2 wL3 H locs ls hi8 hi9 ok10 kx11 hm7 h hl
      refine lv_iload_n hx hb dX8_digest_6 rfl (lv_at hl 0 rfl) ?_
      refine lv_bipush (v := 9) hx hb dX8_digest_7 (by decide) ?_
      refine lv_icmp_gt (tgt := 31) hx hb dX8_digest_9 (by decide) (fun hc13 => ?_) (fun hc13 => ?_)
      · have hc13 : 9 < (L1).toInt := i_lt hc13 rfl rfl
        refine lv_aload_n hx hb dX8_digest_31 rfl (lv_at hl 2 rfl) ?_
        obtain ⟨x15, x16, q17, q18, q19, f14⟩ := (show sN ad (wL3 0) from ok10 0 (by decide))
        have f20 : wL3 0 = .inr (6, [.ref (ad 1), .ref (ad 14), .ref (ad 27), .ref (ad 54), .ref (ad 55), .ref (ad 58), .ref (ad 62), .long x15, .long x16, .int q17, .int q18, .int q19]) := f14
        refine r_get kc8 X h 0 0 (by decide) rfl f20 (by decide) kv_172 rfl dX8_digest_32 ?_
        refine lv_lload_n hx hb dX8_digest_35 rfl (lv_at hl 1 rfl) ?_
        obtain ⟨q25, q26, q27, q28, q29, f24, h30, h31, h32, h33⟩ := (show sI ad 1 (wL3 1) from ok10 1 (by decide))
        have f34 : wL3 1 = .inr (1, [.int q25, .int q26, .int q27, .int q28, .int q29, .ref (ad 2), .ref (ad 3), .ref (ad 4), .ref (ad 5), .ref (ad 6), .ref (ad 7), .ref (ad 8), .ref (ad 10), .ref (ad 12)]) := f24
        refine n_Vl (na := 1) (As := [.long L2]) (rest := []) X hD hN h rfl (c_I_mixed l G cI cB cZ cO ad wL3  ok10 L2  ) ⟨kv_326, kv_327, kv_328, kv_37, kv_329⟩ rfl ⟨by decide, by decide, by decide⟩ ⟨Nat.le_of_ble_eq_true rfl, Nat.le_of_ble_eq_true rfl⟩ ⟨Nat.zero_le _, Nat.zero_le _⟩ (by decide) f34 rfl rfl hl.1 rfl (Nat.le_of_ble_eq_true rfl) dX8_digest_36 (fun r21 w22 H locs hp23 h => ?_)
        obtain ⟨rfl, hr35⟩ := hp23
        refine lv_lstore_n (lv' := [(1, .long r21), (3, .int L1), (0, .ref (ad 0))]) hx hb dX8_digest_39 rfl hl (by decide) rfl (fun ls hl => ?_)
        refine lv_ldc2 (v := 31) hx hb hown (hts _ kv_330) dX8_digest_40 ?_
        refine lv_lload_n hx hb dX8_digest_43 rfl (lv_at hl 0 rfl) ?_
        obtain ⟨z37, e36⟩ : ∃ z : Int64, (31 : Int64) * r21 = z := ⟨_, rfl⟩
        refine o_lmul (z := z37) hx hb dX8_digest_44 e36 ?_
        refine lv_aload_n hx hb dX8_digest_45 rfl (lv_at hl 2 rfl) ?_
        refine r_get kc8 X h 0 7 (by decide) rfl f20 (by decide) kv_217 rfl dX8_digest_46 ?_
        obtain ⟨z39, e38⟩ : ∃ z : Int64, z37 + x15 = z := ⟨_, rfl⟩
        refine o_ladd (z := z39) hx hb dX8_digest_49 e38 ?_
        refine lv_lstore_n (lv' := [(1, .long z39), (3, .int L1), (0, .ref (ad 0))]) hx hb dX8_digest_50 rfl hl (by decide) rfl (fun ls hl => ?_)
        refine lv_ldc2 (v := 31) hx hb hown (hts _ kv_330) dX8_digest_51 ?_
        refine lv_lload_n hx hb dX8_digest_54 rfl (lv_at hl 0 rfl) ?_
        obtain ⟨z41, e40⟩ : ∃ z : Int64, (31 : Int64) * z39 = z := ⟨_, rfl⟩
        refine o_lmul (z := z41) hx hb dX8_digest_55 e40 ?_
        refine lv_aload_n hx hb dX8_digest_56 rfl (lv_at hl 2 rfl) ?_
        refine r_get kc8 X h 0 8 (by decide) rfl f20 (by decide) kv_218 rfl dX8_digest_57 ?_
        obtain ⟨z43, e42⟩ : ∃ z : Int64, z41 + x16 = z := ⟨_, rfl⟩
        refine o_ladd (z := z43) hx hb dX8_digest_60 e42 ?_
        exact e_l X h hr hlk dX8_digest_61 ⟨ok10, kx11, trivial⟩
      · have hc13 : ¬ 9 < (L1).toInt := i_nlt hc13 rfl rfl
        refine lv_ldc2 (v := 31) hx hb hown (hts _ kv_330) dX8_digest_12 ?_
        refine lv_lload_n hx hb dX8_digest_15 rfl (lv_at hl 1 rfl) ?_
        obtain ⟨z45, e44⟩ : ∃ z : Int64, (31 : Int64) * L2 = z := ⟨_, rfl⟩
        refine o_lmul (z := z45) hx hb dX8_digest_16 e44 ?_
        refine lv_aload_n hx hb dX8_digest_17 rfl (lv_at hl 2 rfl) ?_
        refine lv_iload_n hx hb dX8_digest_18 rfl (lv_at hl 0 rfl) ?_
        obtain ⟨x50, x51, q52, q53, q54, f49⟩ := (show sN ad (wL3 0) from ok10 0 (by decide))
        have f55 : wL3 0 = .inr (6, [.ref (ad 1), .ref (ad 14), .ref (ad 27), .ref (ad 54), .ref (ad 55), .ref (ad 58), .ref (ad 62), .long x50, .long x51, .int q52, .int q53, .int q54]) := f49
        refine n_Vi (na := 1) (As := [.int L1]) (rest := [.long z45]) X hD hN h rfl (c_counted l G cI cB cZ cO ad wL3  ok10 L1  ) ⟨kv_321, kv_322, kv_323, kv_212, kv_324⟩ rfl ⟨by decide, by decide, by decide⟩ ⟨Nat.le_of_ble_eq_true rfl, Nat.le_of_ble_eq_true rfl⟩ ⟨Nat.zero_le _, Nat.zero_le _⟩ (by decide) f55 rfl rfl hl.1 rfl (Nat.le_of_ble_eq_true rfl) dX8_digest_19 (fun r46 w47 H locs hp48 h => ?_)
        obtain ⟨rfl, hr56⟩ := hp48
        obtain ⟨z57, e58⟩ : ∃ z : Int64, r46.toInt64 = z := ⟨_, rfl⟩
        have tz57 : z57.toInt = (r46).toInt := by rw [← e58]; exact Int32.toInt_toInt64 _
        refine lv_i2l (v := z57) hx hb dX8_digest_22 e58 ?_
        obtain ⟨z60, e59⟩ : ∃ z : Int64, z45 + z57 = z := ⟨_, rfl⟩
        refine o_ladd (z := z60) hx hb dX8_digest_23 e59 ?_
        refine lv_lstore_n (lv' := [(1, .long z60), (3, .int L1), (0, .ref (ad 0))]) hx hb dX8_digest_24 rfl hl (by decide) rfl (fun ls hl => ?_)
        obtain ⟨z61, e62, t63⟩ := x_add (x := L1) (y := 1) (a := L1.toInt) (b := 1) rfl rfl (by omega) (by omega)
        refine lv_iinc (v := z61) (lv' := [(3, .int z61), (1, .long z60), (0, .ref (ad 0))]) hx hb dX8_digest_25 hl (k := 1) rfl e62 (by decide) rfl (fun ls hl => ?_)
        refine lv_goto (tgt := 6) hx hb dX8_digest_28 (by decide) ?_
        exact ih6  z61 z60 wL3 _ _ _ (by omega) (by omega) ok10 kx11 (by omega) h (lv_sub hl [0, 1, 2] rfl)
  exact hloop4 11 (0 : Int32) (1879 : Int64) w _ _ _ (by have q0 : (0 : Int32).toInt = 0 := rfl; omega) (by have q0 : (0 : Int32).toInt = 0 := rfl; omega) ok KX.rf (by have q0 : (0 : Int32).toInt = 0 := rfl; omega) h (lv_sub hl [0, 1, 2] rfl)

