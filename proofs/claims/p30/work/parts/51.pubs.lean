set_option maxHeartbeats 4000000 in
set_option maxRecDepth 100000 in
theorem c_X_ladle (l : Launch) (G : va_G) (cI cB cZ cO : ClassId) (ad : Nat → Nat) (w : Nat → va_E)  (ok : OK cI cB cZ cO ad w) (i : Int32) (j : Int32)   : NI l G (tyq cI cB cZ cO) yX8_ladle cX8_ladle 3 (some .int) 4 89 74 ad w [.ref (ad 0), .int i, .int j] (fun r w1 => OK cI cB cZ cO ad w1 ∧ KX w w1 ∧ True) := by
  refine nk_i (own := "NoonShade") rfl (by decide) (Nat.le_of_ble_eq_true rfl) ?_
  intro p e s m below meth c ls X hD hN hr hlk h hl
  have hx := X.1.1
  have hb := X.1.2.1
  have hown := X.1.2.2.2.1
  have hts := X.1.2.2.2.2
  have hl : lv_has ls 3 [(0, .ref (ad 0)), (1, .int i), (2, .int j)] := hl
  refine lv_aload_n hx hb dX8_ladle_0 rfl (lv_at hl 0 rfl) ?_
  obtain ⟨x2, x3, q4, q5, q6, f1⟩ := (show sN ad (w 0) from ok 0 (by decide))
  have f7 : w 0 = .inr (6, [.ref (ad 1), .ref (ad 14), .ref (ad 27), .ref (ad 54), .ref (ad 55), .ref (ad 58), .ref (ad 62), .long x2, .long x3, .int q4, .int q5, .int q6]) := f1
  refine r_get kc8 X h 0 0 (by decide) rfl f7 (by decide) kv_172 rfl dX8_ladle_1 ?_
  refine lv_iload_n hx hb dX8_ladle_4 rfl (lv_at hl 1 rfl) ?_
  obtain ⟨q12, q13, q14, q15, q16, f11, h17, h18, h19, h20⟩ := (show sI ad 1 (w 1) from ok 1 (by decide))
  have f21 : w 1 = .inr (1, [.int q12, .int q13, .int q14, .int q15, .int q16, .ref (ad 2), .ref (ad 3), .ref (ad 4), .ref (ad 5), .ref (ad 6), .ref (ad 7), .ref (ad 8), .ref (ad 10), .ref (ad 12)]) := f11
  refine n_Vi (na := 1) (As := [.int i]) (rest := []) X hD hN h rfl (c_hasCaster l G cI cB cZ cO ad w 1 (Or.inl rfl) ok i  ) ⟨kv_219, kv_220, kv_221, kv_37, kv_222⟩ rfl ⟨by decide, by decide, by decide⟩ ⟨Nat.le_of_ble_eq_true rfl, Nat.le_of_ble_eq_true rfl⟩ ⟨Nat.zero_le _, Nat.zero_le _⟩ (by decide) f21 rfl rfl hl.1 rfl (Nat.le_of_ble_eq_true rfl) dX8_ladle_5 (fun r8 w9 H locs hp10 h => ?_)
  obtain ⟨rfl, hr22⟩ := hp10
  rcases hr22 with ⟨hq23, hq24, rfl⟩ | rfl
  · refine lv_if_eq (tgt := 22) hx hb dX8_ladle_8 (by decide) (fun hc => absurd hc (by decide)) (fun _ => ?_)
    refine lv_aload_n hx hb dX8_ladle_11 rfl (lv_at hl 0 rfl) ?_
    refine r_get kc8 X h 0 0 (by decide) rfl f7 (by decide) kv_172 rfl dX8_ladle_12 ?_
    refine lv_iload_n hx hb dX8_ladle_15 rfl (lv_at hl 2 rfl) ?_
    refine n_Vi (na := 1) (As := [.int j]) (rest := []) X hD hN h rfl (c_hasJar l G cI cB cZ cO ad w 1 (Or.inl rfl) ok j  ) ⟨kv_223, kv_224, kv_225, kv_37, kv_226⟩ rfl ⟨by decide, by decide, by decide⟩ ⟨Nat.le_of_ble_eq_true rfl, Nat.le_of_ble_eq_true rfl⟩ ⟨Nat.zero_le _, Nat.zero_le _⟩ (by decide) f21 rfl rfl hl.1 rfl (Nat.le_of_ble_eq_true rfl) dX8_ladle_16 (fun r25 w26 H locs hp27 h => ?_)
    obtain ⟨rfl, hr28⟩ := hp27
    rcases hr28 with ⟨hq29, hq30, rfl⟩ | rfl
    · refine lv_if_ne (tgt := 29) hx hb dX8_ladle_19 (by decide) (fun _ => ?_) (fun hc => absurd hc (by decide))
      refine lv_aload_n hx hb dX8_ladle_29 rfl (lv_at hl 0 rfl) ?_
      refine r_get kc8 X h 0 0 (by decide) rfl f7 (by decide) kv_172 rfl dX8_ladle_30 ?_
      refine lv_iload_n hx hb dX8_ladle_33 rfl (lv_at hl 1 rfl) ?_
      refine n_Vi (na := 1) (As := [.int i]) (rest := []) X hD hN h rfl (c_isMilked l G cI cB cZ cO ad w 1 (Or.inl rfl) ok i  ) ⟨kv_208, kv_35, kv_36, kv_37, kv_38⟩ rfl ⟨by decide, by decide, by decide⟩ ⟨Nat.le_of_ble_eq_true rfl, Nat.le_of_ble_eq_true rfl⟩ ⟨Nat.zero_le _, Nat.zero_le _⟩ (by decide) f21 rfl rfl hl.1 rfl (Nat.le_of_ble_eq_true rfl) dX8_ladle_34 (fun r31 w32 H locs hp33 h => ?_)
      obtain ⟨rfl, hr34⟩ := hp33
      rcases hr34 with rfl | rfl
      · refine lv_if_eq (tgt := 47) hx hb dX8_ladle_37 (by decide) (fun hc => absurd hc (by decide)) (fun _ => ?_)
        refine lv_aload_n hx hb dX8_ladle_40 rfl (lv_at hl 0 rfl) ?_
        refine lv_bipush (v := (-3)) hx hb dX8_ladle_41 (by decide) ?_
        refine n_Vi (na := 1) (As := [.int (-3)]) (rest := []) X hD hN h rfl (c_refused l G cI cB cZ cO ad w  ok ((-3) : Int32)  ) ⟨kv_227, kv_228, kv_229, kv_212, kv_230⟩ rfl ⟨by decide, by decide, by decide⟩ ⟨Nat.le_of_ble_eq_true rfl, Nat.le_of_ble_eq_true rfl⟩ ⟨Nat.zero_le _, Nat.zero_le _⟩ (by decide) f7 rfl rfl hl.1 rfl (Nat.le_of_ble_eq_true rfl) dX8_ladle_43 (fun r35 w36 H locs hp37 h => ?_)
        obtain ⟨ok39, kk40, hr38⟩ := hp37
        have kx41 : KX w w36 := kk40
        subst hr38
        exact e_i X h hr hlk dX8_ladle_46 ⟨ok39, kx41, trivial⟩
      · refine lv_if_eq (tgt := 47) hx hb dX8_ladle_37 (by decide) (fun _ => ?_) (fun hc => absurd (by decide) hc)
        refine lv_aload_n hx hb dX8_ladle_47 rfl (lv_at hl 0 rfl) ?_
        refine r_get kc8 X h 0 0 (by decide) rfl f7 (by decide) kv_172 rfl dX8_ladle_48 ?_
        refine r_get kc2 X h 1 13 (by decide) rfl f21 (by decide) kv_189 rfl dX8_ladle_51 ?_
        refine lv_aload_n hx hb dX8_ladle_54 rfl (lv_at hl 0 rfl) ?_
        refine r_get kc8 X h 0 0 (by decide) rfl f7 (by decide) kv_172 rfl dX8_ladle_55 ?_
        obtain ⟨z46, f45, h47, h48⟩ := (show sR ad 2 13 8 (w 12) from ok 12 (by decide))
        have f49 : w 12 = .inr (2, [.ref (ad 13), .int z46]) := f45
        refine n_Vv (na := 1) (As := [.ref (ad 1)]) (rest := []) X hD hN h rfl (c_remember l G cI cB cZ cO ad w  ok   ) ⟨kv_231, kv_232, kv_233, kv_71, kv_234⟩ rfl ⟨by decide, by decide, by decide⟩ ⟨Nat.le_of_ble_eq_true rfl, Nat.le_of_ble_eq_true rfl⟩ ⟨Nat.zero_le _, Nat.zero_le _⟩ (by decide) f49 rfl rfl hl.1 rfl (Nat.le_of_ble_eq_true rfl) dX8_ladle_58 (fun w43 H locs hp44 h => ?_)
        obtain ⟨ok51, kk52, hr50⟩ := hp44
        have kx53 : KX w w43 := kk52
        refine lv_aload_n hx hb dX8_ladle_61 rfl (lv_at hl 0 rfl) ?_
        obtain ⟨x55, x56, q57, q58, q59, f54⟩ := (show sN ad (w43 0) from ok51 0 (by decide))
        have f60 : w43 0 = .inr (6, [.ref (ad 1), .ref (ad 14), .ref (ad 27), .ref (ad 54), .ref (ad 55), .ref (ad 58), .ref (ad 62), .long x55, .long x56, .int q57, .int q58, .int q59]) := f54
        refine r_get kc8 X h 0 0 (by decide) rfl f60 (by decide) kv_172 rfl dX8_ladle_62 ?_
        refine lv_iload_n hx hb dX8_ladle_65 rfl (lv_at hl 1 rfl) ?_
        refine lv_iload_n hx hb dX8_ladle_66 rfl (lv_at hl 2 rfl) ?_
        obtain ⟨q65, q66, q67, q68, q69, f64, h70, h71, h72, h73⟩ := (show sI ad 1 (w43 1) from ok51 1 (by decide))
        have f74 : w43 1 = .inr (1, [.int q65, .int q66, .int q67, .int q68, .int q69, .ref (ad 2), .ref (ad 3), .ref (ad 4), .ref (ad 5), .ref (ad 6), .ref (ad 7), .ref (ad 8), .ref (ad 10), .ref (ad 12)]) := f64
        refine n_Vi (na := 2) (As := [.int i, .int j]) (rest := []) X hD hN h rfl (c_draw l G cI cB cZ cO ad w43 1 (Or.inl rfl) ok51 i j (by omega) (by omega) (by omega) (by omega) ) ⟨kv_235, kv_236, kv_237, kv_37, kv_238⟩ rfl ⟨by decide, by decide, by decide⟩ ⟨Nat.le_of_ble_eq_true rfl, Nat.le_of_ble_eq_true rfl⟩ ⟨Nat.zero_le _, Nat.zero_le _⟩ (by decide) f74 rfl rfl hl.1 rfl (Nat.le_of_ble_eq_true rfl) dX8_ladle_67 (fun r61 w62 H locs hp63 h => ?_)
        obtain ⟨ok76, kk77, hr75⟩ := hp63
        have kx78 : KX w w62 := KX.tr kx53 kk77.1
        exact e_i X h hr hlk dX8_ladle_70 ⟨ok76, kx78, trivial⟩
    · refine lv_if_ne (tgt := 29) hx hb dX8_ladle_19 (by decide) (fun hc => absurd (by decide) hc) (fun _ => ?_)
      refine lv_aload_n hx hb dX8_ladle_22 rfl (lv_at hl 0 rfl) ?_
      refine lv_bipush (v := (-2)) hx hb dX8_ladle_23 (by decide) ?_
      refine n_Vi (na := 1) (As := [.int (-2)]) (rest := []) X hD hN h rfl (c_refused l G cI cB cZ cO ad w  ok ((-2) : Int32)  ) ⟨kv_227, kv_228, kv_229, kv_212, kv_230⟩ rfl ⟨by decide, by decide, by decide⟩ ⟨Nat.le_of_ble_eq_true rfl, Nat.le_of_ble_eq_true rfl⟩ ⟨Nat.zero_le _, Nat.zero_le _⟩ (by decide) f7 rfl rfl hl.1 rfl (Nat.le_of_ble_eq_true rfl) dX8_ladle_25 (fun r79 w80 H locs hp81 h => ?_)
      obtain ⟨ok83, kk84, hr82⟩ := hp81
      have kx85 : KX w w80 := kk84
      subst hr82
      exact e_i X h hr hlk dX8_ladle_28 ⟨ok83, kx85, trivial⟩
  · refine lv_if_eq (tgt := 22) hx hb dX8_ladle_8 (by decide) (fun _ => ?_) (fun hc => absurd (by decide) hc)
    refine lv_aload_n hx hb dX8_ladle_22 rfl (lv_at hl 0 rfl) ?_
    refine lv_bipush (v := (-2)) hx hb dX8_ladle_23 (by decide) ?_
    refine n_Vi (na := 1) (As := [.int (-2)]) (rest := []) X hD hN h rfl (c_refused l G cI cB cZ cO ad w  ok ((-2) : Int32)  ) ⟨kv_227, kv_228, kv_229, kv_212, kv_230⟩ rfl ⟨by decide, by decide, by decide⟩ ⟨Nat.le_of_ble_eq_true rfl, Nat.le_of_ble_eq_true rfl⟩ ⟨Nat.zero_le _, Nat.zero_le _⟩ (by decide) f7 rfl rfl hl.1 rfl (Nat.le_of_ble_eq_true rfl) dX8_ladle_25 (fun r86 w87 H locs hp88 h => ?_)
    obtain ⟨ok90, kk91, hr89⟩ := hp88
    have kx92 : KX w w87 := kk91
    subst hr89
    exact e_i X h hr hlk dX8_ladle_28 ⟨ok90, kx92, trivial⟩

set_option maxHeartbeats 4000000 in
set_option maxRecDepth 100000 in
theorem c_X_pours (l : Launch) (G : va_G) (cI cB cZ cO : ClassId) (ad : Nat → Nat) (w : Nat → va_E)  (ok : OK cI cB cZ cO ad w) (j : Int32) (k : Int32)   : NI l G (tyq cI cB cZ cO) yX8_pours cX8_pours 3 (some .int) 3 68 74 ad w [.ref (ad 0), .int j, .int k] (fun r w1 => OK cI cB cZ cO ad w1 ∧ KX w w1 ∧ True) := by
  refine nk_i (own := "NoonShade") rfl (by decide) (Nat.le_of_ble_eq_true rfl) ?_
  intro p e s m below meth c ls X hD hN hr hlk h hl
  have hx := X.1.1
  have hb := X.1.2.1
  have hown := X.1.2.2.2.1
  have hts := X.1.2.2.2.2
  have hl : lv_has ls 3 [(0, .ref (ad 0)), (1, .int j), (2, .int k)] := hl
  refine lv_aload_n hx hb dX8_pours_0 rfl (lv_at hl 0 rfl) ?_
  obtain ⟨x2, x3, q4, q5, q6, f1⟩ := (show sN ad (w 0) from ok 0 (by decide))
  have f7 : w 0 = .inr (6, [.ref (ad 1), .ref (ad 14), .ref (ad 27), .ref (ad 54), .ref (ad 55), .ref (ad 58), .ref (ad 62), .long x2, .long x3, .int q4, .int q5, .int q6]) := f1
  refine r_get kc8 X h 0 0 (by decide) rfl f7 (by decide) kv_172 rfl dX8_pours_1 ?_
  refine lv_iload_n hx hb dX8_pours_4 rfl (lv_at hl 1 rfl) ?_
  obtain ⟨q12, q13, q14, q15, q16, f11, h17, h18, h19, h20⟩ := (show sI ad 1 (w 1) from ok 1 (by decide))
  have f21 : w 1 = .inr (1, [.int q12, .int q13, .int q14, .int q15, .int q16, .ref (ad 2), .ref (ad 3), .ref (ad 4), .ref (ad 5), .ref (ad 6), .ref (ad 7), .ref (ad 8), .ref (ad 10), .ref (ad 12)]) := f11
  refine n_Vi (na := 1) (As := [.int j]) (rest := []) X hD hN h rfl (c_hasJar l G cI cB cZ cO ad w 1 (Or.inl rfl) ok j  ) ⟨kv_223, kv_224, kv_225, kv_37, kv_226⟩ rfl ⟨by decide, by decide, by decide⟩ ⟨Nat.le_of_ble_eq_true rfl, Nat.le_of_ble_eq_true rfl⟩ ⟨Nat.zero_le _, Nat.zero_le _⟩ (by decide) f21 rfl rfl hl.1 rfl (Nat.le_of_ble_eq_true rfl) dX8_pours_5 (fun r8 w9 H locs hp10 h => ?_)
  obtain ⟨rfl, hr22⟩ := hp10
  rcases hr22 with ⟨hq23, hq24, rfl⟩ | rfl
  · refine lv_if_eq (tgt := 27) hx hb dX8_pours_8 (by decide) (fun hc => absurd hc (by decide)) (fun _ => ?_)
    refine lv_aload_n hx hb dX8_pours_11 rfl (lv_at hl 0 rfl) ?_
    refine r_get kc8 X h 0 0 (by decide) rfl f7 (by decide) kv_172 rfl dX8_pours_12 ?_
    refine lv_iload_n hx hb dX8_pours_15 rfl (lv_at hl 2 rfl) ?_
    refine n_Vi (na := 1) (As := [.int k]) (rest := []) X hD hN h rfl (c_hasJar l G cI cB cZ cO ad w 1 (Or.inl rfl) ok k  ) ⟨kv_223, kv_224, kv_225, kv_37, kv_226⟩ rfl ⟨by decide, by decide, by decide⟩ ⟨Nat.le_of_ble_eq_true rfl, Nat.le_of_ble_eq_true rfl⟩ ⟨Nat.zero_le _, Nat.zero_le _⟩ (by decide) f21 rfl rfl hl.1 rfl (Nat.le_of_ble_eq_true rfl) dX8_pours_16 (fun r25 w26 H locs hp27 h => ?_)
    obtain ⟨rfl, hr28⟩ := hp27
    rcases hr28 with ⟨hq29, hq30, rfl⟩ | rfl
    · refine lv_if_eq (tgt := 27) hx hb dX8_pours_19 (by decide) (fun hc => absurd hc (by decide)) (fun _ => ?_)
      refine lv_iload_n hx hb dX8_pours_22 rfl (lv_at hl 1 rfl) ?_
      refine lv_iload_n hx hb dX8_pours_23 rfl (lv_at hl 2 rfl) ?_
      refine lv_icmp_ne (tgt := 34) hx hb dX8_pours_24 (by decide) (fun hc31 => ?_) (fun hc31 => ?_)
      · have hc31 : ¬ (j).toInt = (k).toInt := i_ne hc31 rfl rfl
        refine lv_aload_n hx hb dX8_pours_34 rfl (lv_at hl 0 rfl) ?_
        refine r_get kc8 X h 0 0 (by decide) rfl f7 (by decide) kv_172 rfl dX8_pours_35 ?_
        refine r_get kc2 X h 1 9 (by decide) rfl f21 (by decide) kv_193 rfl dX8_pours_38 ?_
        refine lv_iload_n hx hb dX8_pours_41 rfl (lv_at hl 1 rfl) ?_
        obtain ⟨g33, f32, p34⟩ := (show sA cI 4 (rgA 0 60) (w 6) from ok 6 (by decide))
        have f35 : w 6 = .inl (cI, 4, .inl g33) := f32
        obtain ⟨v36, e37⟩ : ∃ z : Int32, g33 (j).toNatClampNeg = z := ⟨_, rfl⟩
        have h38 := rgA_rd p34 e37
        refine o_iald (v := v36) X h 6 0 (by decide) rfl f35 rfl (in_of (by omega) (by omega)) e37 dX8_pours_42 ?_
        refine lv_if_ne (tgt := 53) hx hb dX8_pours_43 (by decide) (fun hc39 => ?_) (fun hc39 => ?_)
        · have hc39 : ¬ (v36).toInt = 0 := i_ne hc39 rfl rfl
          refine lv_aload_n hx hb dX8_pours_53 rfl (lv_at hl 0 rfl) ?_
          refine r_get kc8 X h 0 0 (by decide) rfl f7 (by decide) kv_172 rfl dX8_pours_54 ?_
          refine r_get kc2 X h 1 13 (by decide) rfl f21 (by decide) kv_189 rfl dX8_pours_57 ?_
          refine lv_aload_n hx hb dX8_pours_60 rfl (lv_at hl 0 rfl) ?_
          refine r_get kc8 X h 0 0 (by decide) rfl f7 (by decide) kv_172 rfl dX8_pours_61 ?_
          obtain ⟨z44, f43, h45, h46⟩ := (show sR ad 2 13 8 (w 12) from ok 12 (by decide))
          have f47 : w 12 = .inr (2, [.ref (ad 13), .int z44]) := f43
          refine n_Vv (na := 1) (As := [.ref (ad 1)]) (rest := []) X hD hN h rfl (c_remember l G cI cB cZ cO ad w  ok   ) ⟨kv_231, kv_232, kv_233, kv_71, kv_234⟩ rfl ⟨by decide, by decide, by decide⟩ ⟨Nat.le_of_ble_eq_true rfl, Nat.le_of_ble_eq_true rfl⟩ ⟨Nat.zero_le _, Nat.zero_le _⟩ (by decide) f47 rfl rfl hl.1 rfl (Nat.le_of_ble_eq_true rfl) dX8_pours_64 (fun w41 H locs hp42 h => ?_)
          obtain ⟨ok49, kk50, hr48⟩ := hp42
          have kx51 : KX w w41 := kk50
          refine lv_aload_n hx hb dX8_pours_67 rfl (lv_at hl 0 rfl) ?_
          obtain ⟨x53, x54, q55, q56, q57, f52⟩ := (show sN ad (w41 0) from ok49 0 (by decide))
          have f58 : w41 0 = .inr (6, [.ref (ad 1), .ref (ad 14), .ref (ad 27), .ref (ad 54), .ref (ad 55), .ref (ad 58), .ref (ad 62), .long x53, .long x54, .int q55, .int q56, .int q57]) := f52
          refine r_get kc8 X h 0 0 (by decide) rfl f58 (by decide) kv_172 rfl dX8_pours_68 ?_
          refine lv_iload_n hx hb dX8_pours_71 rfl (lv_at hl 1 rfl) ?_
          refine lv_iload_n hx hb dX8_pours_72 rfl (lv_at hl 2 rfl) ?_
          obtain ⟨q63, q64, q65, q66, q67, f62, h68, h69, h70, h71⟩ := (show sI ad 1 (w41 1) from ok49 1 (by decide))
          have f72 : w41 1 = .inr (1, [.int q63, .int q64, .int q65, .int q66, .int q67, .ref (ad 2), .ref (ad 3), .ref (ad 4), .ref (ad 5), .ref (ad 6), .ref (ad 7), .ref (ad 8), .ref (ad 10), .ref (ad 12)]) := f62
          refine n_Vi (na := 2) (As := [.int j, .int k]) (rest := []) X hD hN h rfl (c_pour l G cI cB cZ cO ad w41 1 (Or.inl rfl) ok49 j k (by omega) (by omega) (by omega) (by omega) ) ⟨kv_239, kv_240, kv_241, kv_37, kv_242⟩ rfl ⟨by decide, by decide, by decide⟩ ⟨Nat.le_of_ble_eq_true rfl, Nat.le_of_ble_eq_true rfl⟩ ⟨Nat.zero_le _, Nat.zero_le _⟩ (by decide) f72 rfl rfl hl.1 rfl (Nat.le_of_ble_eq_true rfl) dX8_pours_73 (fun r59 w60 H locs hp61 h => ?_)
          obtain ⟨ok74, kk75, hr73⟩ := hp61
          have kx76 : KX w w60 := KX.tr kx51 kk75.1
          exact e_i X h hr hlk dX8_pours_76 ⟨ok74, kx76, trivial⟩
        · have hc39 : (v36).toInt = 0 := i_eq hc39 rfl rfl
          refine lv_aload_n hx hb dX8_pours_46 rfl (lv_at hl 0 rfl) ?_
          refine lv_bipush (v := (-3)) hx hb dX8_pours_47 (by decide) ?_
          refine n_Vi (na := 1) (As := [.int (-3)]) (rest := []) X hD hN h rfl (c_refused l G cI cB cZ cO ad w  ok ((-3) : Int32)  ) ⟨kv_227, kv_228, kv_229, kv_212, kv_230⟩ rfl ⟨by decide, by decide, by decide⟩ ⟨Nat.le_of_ble_eq_true rfl, Nat.le_of_ble_eq_true rfl⟩ ⟨Nat.zero_le _, Nat.zero_le _⟩ (by decide) f7 rfl rfl hl.1 rfl (Nat.le_of_ble_eq_true rfl) dX8_pours_49 (fun r77 w78 H locs hp79 h => ?_)
          obtain ⟨ok81, kk82, hr80⟩ := hp79
          have kx83 : KX w w78 := kk82
          subst hr80
          exact e_i X h hr hlk dX8_pours_52 ⟨ok81, kx83, trivial⟩
      · have hc31 : (j).toInt = (k).toInt := i_eq hc31 rfl rfl
        refine lv_aload_n hx hb dX8_pours_27 rfl (lv_at hl 0 rfl) ?_
        refine lv_bipush (v := (-2)) hx hb dX8_pours_28 (by decide) ?_
        refine n_Vi (na := 1) (As := [.int (-2)]) (rest := []) X hD hN h rfl (c_refused l G cI cB cZ cO ad w  ok ((-2) : Int32)  ) ⟨kv_227, kv_228, kv_229, kv_212, kv_230⟩ rfl ⟨by decide, by decide, by decide⟩ ⟨Nat.le_of_ble_eq_true rfl, Nat.le_of_ble_eq_true rfl⟩ ⟨Nat.zero_le _, Nat.zero_le _⟩ (by decide) f7 rfl rfl hl.1 rfl (Nat.le_of_ble_eq_true rfl) dX8_pours_30 (fun r84 w85 H locs hp86 h => ?_)
        obtain ⟨ok88, kk89, hr87⟩ := hp86
        have kx90 : KX w w85 := kk89
        subst hr87
        exact e_i X h hr hlk dX8_pours_33 ⟨ok88, kx90, trivial⟩
    · refine lv_if_eq (tgt := 27) hx hb dX8_pours_19 (by decide) (fun _ => ?_) (fun hc => absurd (by decide) hc)
      refine lv_aload_n hx hb dX8_pours_27 rfl (lv_at hl 0 rfl) ?_
      refine lv_bipush (v := (-2)) hx hb dX8_pours_28 (by decide) ?_
      refine n_Vi (na := 1) (As := [.int (-2)]) (rest := []) X hD hN h rfl (c_refused l G cI cB cZ cO ad w  ok ((-2) : Int32)  ) ⟨kv_227, kv_228, kv_229, kv_212, kv_230⟩ rfl ⟨by decide, by decide, by decide⟩ ⟨Nat.le_of_ble_eq_true rfl, Nat.le_of_ble_eq_true rfl⟩ ⟨Nat.zero_le _, Nat.zero_le _⟩ (by decide) f7 rfl rfl hl.1 rfl (Nat.le_of_ble_eq_true rfl) dX8_pours_30 (fun r91 w92 H locs hp93 h => ?_)
      obtain ⟨ok95, kk96, hr94⟩ := hp93
      have kx97 : KX w w92 := kk96
      subst hr94
      exact e_i X h hr hlk dX8_pours_33 ⟨ok95, kx97, trivial⟩
  · refine lv_if_eq (tgt := 27) hx hb dX8_pours_8 (by decide) (fun _ => ?_) (fun hc => absurd (by decide) hc)
    refine lv_aload_n hx hb dX8_pours_27 rfl (lv_at hl 0 rfl) ?_
    refine lv_bipush (v := (-2)) hx hb dX8_pours_28 (by decide) ?_
    refine n_Vi (na := 1) (As := [.int (-2)]) (rest := []) X hD hN h rfl (c_refused l G cI cB cZ cO ad w  ok ((-2) : Int32)  ) ⟨kv_227, kv_228, kv_229, kv_212, kv_230⟩ rfl ⟨by decide, by decide, by decide⟩ ⟨Nat.le_of_ble_eq_true rfl, Nat.le_of_ble_eq_true rfl⟩ ⟨Nat.zero_le _, Nat.zero_le _⟩ (by decide) f7 rfl rfl hl.1 rfl (Nat.le_of_ble_eq_true rfl) dX8_pours_30 (fun r98 w99 H locs hp100 h => ?_)
    obtain ⟨ok102, kk103, hr101⟩ := hp100
    have kx104 : KX w w99 := kk103
    subst hr101
    exact e_i X h hr hlk dX8_pours_33 ⟨ok102, kx104, trivial⟩

set_option maxHeartbeats 4000000 in
set_option maxRecDepth 100000 in
theorem c_X_sells (l : Launch) (G : va_G) (cI cB cZ cO : ClassId) (ad : Nat → Nat) (w : Nat → va_E)  (ok : OK cI cB cZ cO ad w) (j : Int32)   : NI l G (tyq cI cB cZ cO) yX8_sells cX8_sells 2 (some .int) 2 62 74 ad w [.ref (ad 0), .int j] (fun r w1 => OK cI cB cZ cO ad w1 ∧ KX w w1 ∧ True) := by
  refine nk_i (own := "NoonShade") rfl (by decide) (Nat.le_of_ble_eq_true rfl) ?_
  intro p e s m below meth c ls X hD hN hr hlk h hl
  have hx := X.1.1
  have hb := X.1.2.1
  have hown := X.1.2.2.2.1
  have hts := X.1.2.2.2.2
  have hl : lv_has ls 2 [(0, .ref (ad 0)), (1, .int j)] := hl
  refine lv_aload_n hx hb dX8_sells_0 rfl (lv_at hl 0 rfl) ?_
  obtain ⟨x2, x3, q4, q5, q6, f1⟩ := (show sN ad (w 0) from ok 0 (by decide))
  have f7 : w 0 = .inr (6, [.ref (ad 1), .ref (ad 14), .ref (ad 27), .ref (ad 54), .ref (ad 55), .ref (ad 58), .ref (ad 62), .long x2, .long x3, .int q4, .int q5, .int q6]) := f1
  refine r_get kc8 X h 0 0 (by decide) rfl f7 (by decide) kv_172 rfl dX8_sells_1 ?_
  refine lv_iload_n hx hb dX8_sells_4 rfl (lv_at hl 1 rfl) ?_
  obtain ⟨q12, q13, q14, q15, q16, f11, h17, h18, h19, h20⟩ := (show sI ad 1 (w 1) from ok 1 (by decide))
  have f21 : w 1 = .inr (1, [.int q12, .int q13, .int q14, .int q15, .int q16, .ref (ad 2), .ref (ad 3), .ref (ad 4), .ref (ad 5), .ref (ad 6), .ref (ad 7), .ref (ad 8), .ref (ad 10), .ref (ad 12)]) := f11
  refine n_Vi (na := 1) (As := [.int j]) (rest := []) X hD hN h rfl (c_hasJar l G cI cB cZ cO ad w 1 (Or.inl rfl) ok j  ) ⟨kv_223, kv_224, kv_225, kv_37, kv_226⟩ rfl ⟨by decide, by decide, by decide⟩ ⟨Nat.le_of_ble_eq_true rfl, Nat.le_of_ble_eq_true rfl⟩ ⟨Nat.zero_le _, Nat.zero_le _⟩ (by decide) f21 rfl rfl hl.1 rfl (Nat.le_of_ble_eq_true rfl) dX8_sells_5 (fun r8 w9 H locs hp10 h => ?_)
  obtain ⟨rfl, hr22⟩ := hp10
  rcases hr22 with ⟨hq23, hq24, rfl⟩ | rfl
  · refine lv_if_ne (tgt := 18) hx hb dX8_sells_8 (by decide) (fun _ => ?_) (fun hc => absurd hc (by decide))
    refine lv_aload_n hx hb dX8_sells_18 rfl (lv_at hl 0 rfl) ?_
    refine r_get kc8 X h 0 0 (by decide) rfl f7 (by decide) kv_172 rfl dX8_sells_19 ?_
    refine r_get kc2 X h 1 9 (by decide) rfl f21 (by decide) kv_193 rfl dX8_sells_22 ?_
    refine lv_iload_n hx hb dX8_sells_25 rfl (lv_at hl 1 rfl) ?_
    obtain ⟨g26, f25, p27⟩ := (show sA cI 4 (rgA 0 60) (w 6) from ok 6 (by decide))
    have f28 : w 6 = .inl (cI, 4, .inl g26) := f25
    obtain ⟨v29, e30⟩ : ∃ z : Int32, g26 (j).toNatClampNeg = z := ⟨_, rfl⟩
    have h31 := rgA_rd p27 e30
    refine o_iald (v := v29) X h 6 0 (by decide) rfl f28 rfl (in_of (by omega) (by omega)) e30 dX8_sells_26 ?_
    refine lv_if_ne (tgt := 37) hx hb dX8_sells_27 (by decide) (fun hc32 => ?_) (fun hc32 => ?_)
    · have hc32 : ¬ (v29).toInt = 0 := i_ne hc32 rfl rfl
      refine lv_aload_n hx hb dX8_sells_37 rfl (lv_at hl 0 rfl) ?_
      refine r_get kc8 X h 0 0 (by decide) rfl f7 (by decide) kv_172 rfl dX8_sells_38 ?_
      refine r_get kc2 X h 1 13 (by decide) rfl f21 (by decide) kv_189 rfl dX8_sells_41 ?_
      refine lv_aload_n hx hb dX8_sells_44 rfl (lv_at hl 0 rfl) ?_
      refine r_get kc8 X h 0 0 (by decide) rfl f7 (by decide) kv_172 rfl dX8_sells_45 ?_
      obtain ⟨z37, f36, h38, h39⟩ := (show sR ad 2 13 8 (w 12) from ok 12 (by decide))
      have f40 : w 12 = .inr (2, [.ref (ad 13), .int z37]) := f36
      refine n_Vv (na := 1) (As := [.ref (ad 1)]) (rest := []) X hD hN h rfl (c_remember l G cI cB cZ cO ad w  ok   ) ⟨kv_231, kv_232, kv_233, kv_71, kv_234⟩ rfl ⟨by decide, by decide, by decide⟩ ⟨Nat.le_of_ble_eq_true rfl, Nat.le_of_ble_eq_true rfl⟩ ⟨Nat.zero_le _, Nat.zero_le _⟩ (by decide) f40 rfl rfl hl.1 rfl (Nat.le_of_ble_eq_true rfl) dX8_sells_48 (fun w34 H locs hp35 h => ?_)
      obtain ⟨ok42, kk43, hr41⟩ := hp35
      have kx44 : KX w w34 := kk43
      refine lv_aload_n hx hb dX8_sells_51 rfl (lv_at hl 0 rfl) ?_
      obtain ⟨x46, x47, q48, q49, q50, f45⟩ := (show sN ad (w34 0) from ok42 0 (by decide))
      have f51 : w34 0 = .inr (6, [.ref (ad 1), .ref (ad 14), .ref (ad 27), .ref (ad 54), .ref (ad 55), .ref (ad 58), .ref (ad 62), .long x46, .long x47, .int q48, .int q49, .int q50]) := f45
      refine r_get kc8 X h 0 0 (by decide) rfl f51 (by decide) kv_172 rfl dX8_sells_52 ?_
      refine lv_iload_n hx hb dX8_sells_55 rfl (lv_at hl 1 rfl) ?_
      obtain ⟨q56, q57, q58, q59, q60, f55, h61, h62, h63, h64⟩ := (show sI ad 1 (w34 1) from ok42 1 (by decide))
      have f65 : w34 1 = .inr (1, [.int q56, .int q57, .int q58, .int q59, .int q60, .ref (ad 2), .ref (ad 3), .ref (ad 4), .ref (ad 5), .ref (ad 6), .ref (ad 7), .ref (ad 8), .ref (ad 10), .ref (ad 12)]) := f55
      refine n_Vi (na := 1) (As := [.int j]) (rest := []) X hD hN h rfl (c_sell l G cI cB cZ cO ad w34 1 (Or.inl rfl) ok42 j (by omega) (by omega) ) ⟨kv_243, kv_244, kv_245, kv_37, kv_246⟩ rfl ⟨by decide, by decide, by decide⟩ ⟨Nat.le_of_ble_eq_true rfl, Nat.le_of_ble_eq_true rfl⟩ ⟨Nat.zero_le _, Nat.zero_le _⟩ (by decide) f65 rfl rfl hl.1 rfl (Nat.le_of_ble_eq_true rfl) dX8_sells_56 (fun r52 w53 H locs hp54 h => ?_)
      obtain ⟨ok67, kk68, hr66⟩ := hp54
      have kx69 : KX w w53 := KX.tr kx44 kk68.1
      exact e_i X h hr hlk dX8_sells_59 ⟨ok67, kx69, trivial⟩
    · have hc32 : (v29).toInt = 0 := i_eq hc32 rfl rfl
      refine lv_aload_n hx hb dX8_sells_30 rfl (lv_at hl 0 rfl) ?_
      refine lv_bipush (v := (-3)) hx hb dX8_sells_31 (by decide) ?_
      refine n_Vi (na := 1) (As := [.int (-3)]) (rest := []) X hD hN h rfl (c_refused l G cI cB cZ cO ad w  ok ((-3) : Int32)  ) ⟨kv_227, kv_228, kv_229, kv_212, kv_230⟩ rfl ⟨by decide, by decide, by decide⟩ ⟨Nat.le_of_ble_eq_true rfl, Nat.le_of_ble_eq_true rfl⟩ ⟨Nat.zero_le _, Nat.zero_le _⟩ (by decide) f7 rfl rfl hl.1 rfl (Nat.le_of_ble_eq_true rfl) dX8_sells_33 (fun r70 w71 H locs hp72 h => ?_)
      obtain ⟨ok74, kk75, hr73⟩ := hp72
      have kx76 : KX w w71 := kk75
      subst hr73
      exact e_i X h hr hlk dX8_sells_36 ⟨ok74, kx76, trivial⟩
  · refine lv_if_ne (tgt := 18) hx hb dX8_sells_8 (by decide) (fun hc => absurd (by decide) hc) (fun _ => ?_)
    refine lv_aload_n hx hb dX8_sells_11 rfl (lv_at hl 0 rfl) ?_
    refine lv_bipush (v := (-2)) hx hb dX8_sells_12 (by decide) ?_
    refine n_Vi (na := 1) (As := [.int (-2)]) (rest := []) X hD hN h rfl (c_refused l G cI cB cZ cO ad w  ok ((-2) : Int32)  ) ⟨kv_227, kv_228, kv_229, kv_212, kv_230⟩ rfl ⟨by decide, by decide, by decide⟩ ⟨Nat.le_of_ble_eq_true rfl, Nat.le_of_ble_eq_true rfl⟩ ⟨Nat.zero_le _, Nat.zero_le _⟩ (by decide) f7 rfl rfl hl.1 rfl (Nat.le_of_ble_eq_true rfl) dX8_sells_14 (fun r77 w78 H locs hp79 h => ?_)
    obtain ⟨ok81, kk82, hr80⟩ := hp79
    have kx83 : KX w w78 := kk82
    subst hr80
    exact e_i X h hr hlk dX8_sells_17 ⟨ok81, kx83, trivial⟩

set_option maxHeartbeats 4000000 in
set_option maxRecDepth 100000 in
theorem c_X_hours (l : Launch) (G : va_G) (cI cB cZ cO : ClassId) (ad : Nat → Nat) (w : Nat → va_E)  (ok : OK cI cB cZ cO ad w) (n : Int32)   : NI l G (tyq cI cB cZ cO) yX8_hours cX8_hours 2 (some .int) 4 90 74 ad w [.ref (ad 0), .int n] (fun r w1 => OK cI cB cZ cO ad w1 ∧ KX w w1 ∧ True) := by
  refine nk_i (own := "NoonShade") rfl (by decide) (Nat.le_of_ble_eq_true rfl) ?_
  intro p e s m below meth c ls X hD hN hr hlk h hl
  have hx := X.1.1
  have hb := X.1.2.1
  have hown := X.1.2.2.2.1
  have hts := X.1.2.2.2.2
  have hl : lv_has ls 2 [(0, .ref (ad 0)), (1, .int n)] := hl
  refine lv_iload_n hx hb dX8_hours_0 rfl (lv_at hl 1 rfl) ?_
  refine lv_iconst (v := 1) hx hb dX8_hours_1 (by decide) ?_
  refine lv_bipush (v := 60) hx hb dX8_hours_2 (by decide) ?_
  refine n_Si (na := 3) (As := [.int n, .int 1, .int 60]) (rest := []) X hD hN h (c_within l G cI cB cZ cO ad w n (1 : Int32) (60 : Int32) ((n).toInt) 1 60 rfl rfl rfl) ⟨kv_247, kv_248, kv_212, kv_249⟩ ⟨by decide, by decide, by decide⟩ ⟨Nat.le_of_ble_eq_true rfl, Nat.le_of_ble_eq_true rfl⟩ ⟨Nat.zero_le _, Nat.zero_le _⟩ rfl hl.1 rfl (Nat.le_of_ble_eq_true rfl) dX8_hours_4 (fun r1 w2 H locs hp3 h => ?_)
  obtain ⟨rfl, hq4⟩ := hp3
  rcases hq4 with ⟨hq5, hq6, rfl⟩ | ⟨hq4, rfl⟩
  · refine lv_if_ne (tgt := 17) hx hb dX8_hours_7 (by decide) (fun _ => ?_) (fun hc => absurd hc (by decide))
    refine lv_aload_n hx hb dX8_hours_17 rfl (lv_at hl 0 rfl) ?_
    obtain ⟨x8, x9, q10, q11, q12, f7⟩ := (show sN ad (w 0) from ok 0 (by decide))
    have f13 : w 0 = .inr (6, [.ref (ad 1), .ref (ad 14), .ref (ad 27), .ref (ad 54), .ref (ad 55), .ref (ad 58), .ref (ad 62), .long x8, .long x9, .int q10, .int q11, .int q12]) := f7
    refine r_get kc8 X h 0 0 (by decide) rfl f13 (by decide) kv_172 rfl dX8_hours_18 ?_
    obtain ⟨q15, q16, q17, q18, q19, f14, h20, h21, h22, h23⟩ := (show sI ad 1 (w 1) from ok 1 (by decide))
    have f24 : w 1 = .inr (1, [.int q15, .int q16, .int q17, .int q18, .int q19, .ref (ad 2), .ref (ad 3), .ref (ad 4), .ref (ad 5), .ref (ad 6), .ref (ad 7), .ref (ad 8), .ref (ad 10), .ref (ad 12)]) := f14
    refine r_get kc2 X h 1 0 (by decide) rfl f24 (by decide) kv_179 rfl dX8_hours_21 ?_
    refine lv_sipush (v := 9999) hx hb dX8_hours_24 (by decide) ?_
    refine lv_icmp_ge (tgt := 52) hx hb dX8_hours_27 (by decide) (fun hc25 => ?_) (fun hc25 => ?_)
    · have hc25 : 9999 ≤ (q15).toInt := i_le hc25 rfl rfl
      refine lv_aload_n hx hb dX8_hours_52 rfl (lv_at hl 0 rfl) ?_
      refine r_get kc8 X h 0 0 (by decide) rfl f13 (by decide) kv_172 rfl dX8_hours_53 ?_
      refine r_get kc2 X h 1 0 (by decide) rfl f24 (by decide) kv_179 rfl dX8_hours_56 ?_
      exact e_i X h hr hlk dX8_hours_59 ⟨ok, KX.rf, trivial⟩
    · have hc25 : ¬ 9999 ≤ (q15).toInt := i_nle hc25 rfl rfl
      refine lv_aload_n hx hb dX8_hours_30 rfl (lv_at hl 0 rfl) ?_
      refine r_get kc8 X h 0 0 (by decide) rfl f13 (by decide) kv_172 rfl dX8_hours_31 ?_
      refine r_get kc2 X h 1 13 (by decide) rfl f24 (by decide) kv_189 rfl dX8_hours_34 ?_
      refine lv_aload_n hx hb dX8_hours_37 rfl (lv_at hl 0 rfl) ?_
      refine r_get kc8 X h 0 0 (by decide) rfl f13 (by decide) kv_172 rfl dX8_hours_38 ?_
      obtain ⟨z30, f29, h31, h32⟩ := (show sR ad 2 13 8 (w 12) from ok 12 (by decide))
      have f33 : w 12 = .inr (2, [.ref (ad 13), .int z30]) := f29
      refine n_Vv (na := 1) (As := [.ref (ad 1)]) (rest := []) X hD hN h rfl (c_remember l G cI cB cZ cO ad w  ok   ) ⟨kv_231, kv_232, kv_233, kv_71, kv_234⟩ rfl ⟨by decide, by decide, by decide⟩ ⟨Nat.le_of_ble_eq_true rfl, Nat.le_of_ble_eq_true rfl⟩ ⟨Nat.zero_le _, Nat.zero_le _⟩ (by decide) f33 rfl rfl hl.1 rfl (Nat.le_of_ble_eq_true rfl) dX8_hours_41 (fun w27 H locs hp28 h => ?_)
      obtain ⟨ok35, kk36, hr34⟩ := hp28
      have kx37 : KX w w27 := kk36
      refine lv_aload_n hx hb dX8_hours_44 rfl (lv_at hl 0 rfl) ?_
      obtain ⟨x39, x40, q41, q42, q43, f38⟩ := (show sN ad (w27 0) from ok35 0 (by decide))
      have f44 : w27 0 = .inr (6, [.ref (ad 1), .ref (ad 14), .ref (ad 27), .ref (ad 54), .ref (ad 55), .ref (ad 58), .ref (ad 62), .long x39, .long x40, .int q41, .int q42, .int q43]) := f38
      refine r_get kc8 X h 0 0 (by decide) rfl f44 (by decide) kv_172 rfl dX8_hours_45 ?_
      refine lv_iload_n hx hb dX8_hours_48 rfl (lv_at hl 1 rfl) ?_
      obtain ⟨q49, q50, q51, q52, q53, f48, h54, h55, h56, h57⟩ := (show sI ad 1 (w27 1) from ok35 1 (by decide))
      have f58 : w27 1 = .inr (1, [.int q49, .int q50, .int q51, .int q52, .int q53, .ref (ad 2), .ref (ad 3), .ref (ad 4), .ref (ad 5), .ref (ad 6), .ref (ad 7), .ref (ad 8), .ref (ad 10), .ref (ad 12)]) := f48
      refine n_Vv (na := 1) (As := [.int n]) (rest := []) X hD hN h rfl (c_passHours l G cI cB cZ cO ad w27 1 (Or.inl rfl) ok35 n (by omega) (by omega) ) ⟨kv_250, kv_251, kv_252, kv_37, kv_253⟩ rfl ⟨by decide, by decide, by decide⟩ ⟨Nat.le_of_ble_eq_true rfl, Nat.le_of_ble_eq_true rfl⟩ ⟨Nat.zero_le _, Nat.zero_le _⟩ (by decide) f58 rfl rfl hl.1 rfl (Nat.le_of_ble_eq_true rfl) dX8_hours_49 (fun w46 H locs hp47 h => ?_)
      obtain ⟨ok60, kk61, hr59⟩ := hp47
      have kx62 : KX w w46 := KX.tr kx37 kk61.1
      refine lv_aload_n hx hb dX8_hours_52 rfl (lv_at hl 0 rfl) ?_
      have f63 : w46 0 = .inr (6, [.ref (ad 1), .ref (ad 14), .ref (ad 27), .ref (ad 54), .ref (ad 55), .ref (ad 58), .ref (ad 62), .long x39, .long x40, .int q41, .int q42, .int q43]) := (kk61.2 0 (by decide)).trans f44
      refine r_get kc8 X h 0 0 (by decide) rfl f63 (by decide) kv_172 rfl dX8_hours_53 ?_
      obtain ⟨q66, q67, q68, q69, q70, f65, h71, h72, h73, h74⟩ := (show sI ad 1 (w46 1) from ok60 1 (by decide))
      have f75 : w46 1 = .inr (1, [.int q66, .int q67, .int q68, .int q69, .int q70, .ref (ad 2), .ref (ad 3), .ref (ad 4), .ref (ad 5), .ref (ad 6), .ref (ad 7), .ref (ad 8), .ref (ad 10), .ref (ad 12)]) := f65
      refine r_get kc2 X h 1 0 (by decide) rfl f75 (by decide) kv_179 rfl dX8_hours_56 ?_
      exact e_i X h hr hlk dX8_hours_59 ⟨ok60, kx62, trivial⟩
  · refine lv_if_ne (tgt := 17) hx hb dX8_hours_7 (by decide) (fun hc => absurd (by decide) hc) (fun _ => ?_)
    refine lv_aload_n hx hb dX8_hours_10 rfl (lv_at hl 0 rfl) ?_
    refine lv_bipush (v := (-2)) hx hb dX8_hours_11 (by decide) ?_
    obtain ⟨x80, x81, q82, q83, q84, f79⟩ := (show sN ad (w 0) from ok 0 (by decide))
    have f85 : w 0 = .inr (6, [.ref (ad 1), .ref (ad 14), .ref (ad 27), .ref (ad 54), .ref (ad 55), .ref (ad 58), .ref (ad 62), .long x80, .long x81, .int q82, .int q83, .int q84]) := f79
    refine n_Vi (na := 1) (As := [.int (-2)]) (rest := []) X hD hN h rfl (c_refused l G cI cB cZ cO ad w  ok ((-2) : Int32)  ) ⟨kv_227, kv_228, kv_229, kv_212, kv_230⟩ rfl ⟨by decide, by decide, by decide⟩ ⟨Nat.le_of_ble_eq_true rfl, Nat.le_of_ble_eq_true rfl⟩ ⟨Nat.zero_le _, Nat.zero_le _⟩ (by decide) f85 rfl rfl hl.1 rfl (Nat.le_of_ble_eq_true rfl) dX8_hours_13 (fun r76 w77 H locs hp78 h => ?_)
    obtain ⟨ok87, kk88, hr86⟩ := hp78
    have kx89 : KX w w77 := kk88
    subst hr86
    exact e_i X h hr hlk dX8_hours_16 ⟨ok87, kx89, trivial⟩

set_option maxHeartbeats 4000000 in
set_option maxRecDepth 100000 in
theorem c_X_undo (l : Launch) (G : va_G) (cI cB cZ cO : ClassId) (ad : Nat → Nat) (w : Nat → va_E)  (ok : OK cI cB cZ cO ad w)    : NI l G (tyq cI cB cZ cO) yX8_undo cX8_undo 1 (some .int) 2 62 74 ad w [.ref (ad 0)] (fun r w1 => OK cI cB cZ cO ad w1 ∧ KX w w1 ∧ True) := by
  refine nk_i (own := "NoonShade") rfl (by decide) (Nat.le_of_ble_eq_true rfl) ?_
  intro p e s m below meth c ls X hD hN hr hlk h hl
  have hx := X.1.1
  have hb := X.1.2.1
  have hown := X.1.2.2.2.1
  have hts := X.1.2.2.2.2
  have hl : lv_has ls 1 [(0, .ref (ad 0))] := hl
  refine lv_aload_n hx hb dX8_undo_0 rfl (lv_at hl 0 rfl) ?_
  obtain ⟨x2, x3, q4, q5, q6, f1⟩ := (show sN ad (w 0) from ok 0 (by decide))
  have f7 : w 0 = .inr (6, [.ref (ad 1), .ref (ad 14), .ref (ad 27), .ref (ad 54), .ref (ad 55), .ref (ad 58), .ref (ad 62), .long x2, .long x3, .int q4, .int q5, .int q6]) := f1
  refine r_get kc8 X h 0 0 (by decide) rfl f7 (by decide) kv_172 rfl dX8_undo_1 ?_
  obtain ⟨q9, q10, q11, q12, q13, f8, h14, h15, h16, h17⟩ := (show sI ad 1 (w 1) from ok 1 (by decide))
  have f18 : w 1 = .inr (1, [.int q9, .int q10, .int q11, .int q12, .int q13, .ref (ad 2), .ref (ad 3), .ref (ad 4), .ref (ad 5), .ref (ad 6), .ref (ad 7), .ref (ad 8), .ref (ad 10), .ref (ad 12)]) := f8
  refine r_get kc2 X h 1 13 (by decide) rfl f18 (by decide) kv_189 rfl dX8_undo_4 ?_
  refine lv_aload_n hx hb dX8_undo_7 rfl (lv_at hl 0 rfl) ?_
  refine r_get kc8 X h 0 0 (by decide) rfl f7 (by decide) kv_172 rfl dX8_undo_8 ?_
  obtain ⟨z23, f22, h24, h25⟩ := (show sR ad 2 13 8 (w 12) from ok 12 (by decide))
  have f26 : w 12 = .inr (2, [.ref (ad 13), .int z23]) := f22
  refine n_Vi (na := 1) (As := [.ref (ad 1)]) (rest := []) X hD hN h rfl (c_bringBack l G cI cB cZ cO ad w  ok   ) ⟨kv_254, kv_255, kv_256, kv_71, kv_257⟩ rfl ⟨by decide, by decide, by decide⟩ ⟨Nat.le_of_ble_eq_true rfl, Nat.le_of_ble_eq_true rfl⟩ ⟨Nat.zero_le _, Nat.zero_le _⟩ (by decide) f26 rfl rfl hl.1 rfl (Nat.le_of_ble_eq_true rfl) dX8_undo_11 (fun r19 w20 H locs hp21 h => ?_)
  obtain ⟨ok28, kk29, hr27⟩ := hp21
  have kx30 : KX w w20 := kk29
  rcases hr27 with rfl | rfl
  · refine lv_if_ne (tgt := 24) hx hb dX8_undo_14 (by decide) (fun _ => ?_) (fun hc => absurd hc (by decide))
    refine lv_aload_n hx hb dX8_undo_24 rfl (lv_at hl 0 rfl) ?_
    obtain ⟨x32, x33, q34, q35, q36, f31⟩ := (show sN ad (w20 0) from ok28 0 (by decide))
    have f37 : w20 0 = .inr (6, [.ref (ad 1), .ref (ad 14), .ref (ad 27), .ref (ad 54), .ref (ad 55), .ref (ad 58), .ref (ad 62), .long x32, .long x33, .int q34, .int q35, .int q36]) := f31
    refine r_get kc8 X h 0 0 (by decide) rfl f37 (by decide) kv_172 rfl dX8_undo_25 ?_
    obtain ⟨q39, q40, q41, q42, q43, f38, h44, h45, h46, h47⟩ := (show sI ad 1 (w20 1) from ok28 1 (by decide))
    have f48 : w20 1 = .inr (1, [.int q39, .int q40, .int q41, .int q42, .int q43, .ref (ad 2), .ref (ad 3), .ref (ad 4), .ref (ad 5), .ref (ad 6), .ref (ad 7), .ref (ad 8), .ref (ad 10), .ref (ad 12)]) := f38
    refine r_get kc2 X h 1 0 (by decide) rfl f48 (by decide) kv_179 rfl dX8_undo_28 ?_
    exact e_i X h hr hlk dX8_undo_31 ⟨ok28, kx30, trivial⟩
  · refine lv_if_ne (tgt := 24) hx hb dX8_undo_14 (by decide) (fun hc => absurd (by decide) hc) (fun _ => ?_)
    refine lv_aload_n hx hb dX8_undo_17 rfl (lv_at hl 0 rfl) ?_
    refine lv_bipush (v := (-3)) hx hb dX8_undo_18 (by decide) ?_
    obtain ⟨x53, x54, q55, q56, q57, f52⟩ := (show sN ad (w20 0) from ok28 0 (by decide))
    have f58 : w20 0 = .inr (6, [.ref (ad 1), .ref (ad 14), .ref (ad 27), .ref (ad 54), .ref (ad 55), .ref (ad 58), .ref (ad 62), .long x53, .long x54, .int q55, .int q56, .int q57]) := f52
    refine n_Vi (na := 1) (As := [.int (-3)]) (rest := []) X hD hN h rfl (c_refused l G cI cB cZ cO ad w20  ok28 ((-3) : Int32)  ) ⟨kv_227, kv_228, kv_229, kv_212, kv_230⟩ rfl ⟨by decide, by decide, by decide⟩ ⟨Nat.le_of_ble_eq_true rfl, Nat.le_of_ble_eq_true rfl⟩ ⟨Nat.zero_le _, Nat.zero_le _⟩ (by decide) f58 rfl rfl hl.1 rfl (Nat.le_of_ble_eq_true rfl) dX8_undo_20 (fun r49 w50 H locs hp51 h => ?_)
    obtain ⟨ok60, kk61, hr59⟩ := hp51
    have kx62 : KX w w50 := KX.tr kx30 kk61
    subst hr59
    exact e_i X h hr hlk dX8_undo_23 ⟨ok60, kx62, trivial⟩

set_option maxHeartbeats 4000000 in
set_option maxRecDepth 100000 in
theorem c_X_of (l : Launch) (G : va_G) (cI cB cZ cO : ClassId) (ad : Nat → Nat) (w : Nat → va_E)  (ok : OK cI cB cZ cO ad w) (i : Int32) (u : Int32)   : NI l G (tyq cI cB cZ cO) yX8_of cX8_of 3 (some .int) 3 67 74 ad w [.ref (ad 0), .int i, .int u] (fun r w1 => OK cI cB cZ cO ad w1 ∧ KX w w1 ∧ True) := by
  refine nk_i (own := "NoonShade") rfl (by decide) (Nat.le_of_ble_eq_true rfl) ?_
  intro p e s m below meth c ls X hD hN hr hlk h hl
  have hx := X.1.1
  have hb := X.1.2.1
  have hown := X.1.2.2.2.1
  have hts := X.1.2.2.2.2
  have hl : lv_has ls 3 [(0, .ref (ad 0)), (1, .int i), (2, .int u)] := hl
  refine lv_aload_n hx hb dX8_of_0 rfl (lv_at hl 0 rfl) ?_
  obtain ⟨x2, x3, q4, q5, q6, f1⟩ := (show sN ad (w 0) from ok 0 (by decide))
  have f7 : w 0 = .inr (6, [.ref (ad 1), .ref (ad 14), .ref (ad 27), .ref (ad 54), .ref (ad 55), .ref (ad 58), .ref (ad 62), .long x2, .long x3, .int q4, .int q5, .int q6]) := f1
  refine r_get kc8 X h 0 0 (by decide) rfl f7 (by decide) kv_172 rfl dX8_of_1 ?_
  refine lv_iload_n hx hb dX8_of_4 rfl (lv_at hl 1 rfl) ?_
  obtain ⟨q12, q13, q14, q15, q16, f11, h17, h18, h19, h20⟩ := (show sI ad 1 (w 1) from ok 1 (by decide))
  have f21 : w 1 = .inr (1, [.int q12, .int q13, .int q14, .int q15, .int q16, .ref (ad 2), .ref (ad 3), .ref (ad 4), .ref (ad 5), .ref (ad 6), .ref (ad 7), .ref (ad 8), .ref (ad 10), .ref (ad 12)]) := f11
  refine n_Vi (na := 1) (As := [.int i]) (rest := []) X hD hN h rfl (c_hasCaster l G cI cB cZ cO ad w 1 (Or.inl rfl) ok i  ) ⟨kv_219, kv_220, kv_221, kv_37, kv_222⟩ rfl ⟨by decide, by decide, by decide⟩ ⟨Nat.le_of_ble_eq_true rfl, Nat.le_of_ble_eq_true rfl⟩ ⟨Nat.zero_le _, Nat.zero_le _⟩ (by decide) f21 rfl rfl hl.1 rfl (Nat.le_of_ble_eq_true rfl) dX8_of_5 (fun r8 w9 H locs hp10 h => ?_)
  obtain ⟨rfl, hr22⟩ := hp10
  rcases hr22 with ⟨hq23, hq24, rfl⟩ | rfl
  · refine lv_if_ne (tgt := 18) hx hb dX8_of_8 (by decide) (fun _ => ?_) (fun hc => absurd hc (by decide))
    refine lv_iload_n hx hb dX8_of_18 rfl (lv_at hl 2 rfl) ?_
    by_cases hs25 : 0 ≤ (u).toInt ∧ (u).toInt ≤ 4
    · have ha26 : u = 0 ∨ u = 1 ∨ u = 2 ∨ u = 3 ∨ u = 4 := by simp only [fa_eq]; have := hs25; simp only [show ((0 : Int32).toInt = 0) from rfl, show ((1 : Int32).toInt = 1) from rfl, show ((2 : Int32).toInt = 2) from rfl, show ((3 : Int32).toInt = 3) from rfl, show ((4 : Int32).toInt = 4) from rfl]; omega
      rcases ha26 with hq | hq | hq | hq | hq
      · refine lv_tableIn (tgt := 52) (off := 33) hx hb dX8_of_19 (by rw [hq]; decide) (by rw [hq]; decide) (by rw [hq]; decide) (by decide) ?_
        refine lv_aload_n hx hb dX8_of_52 rfl (lv_at hl 0 rfl) ?_
        refine r_get kc8 X h 0 0 (by decide) rfl f7 (by decide) kv_172 rfl dX8_of_53 ?_
        refine r_get kc2 X h 1 5 (by decide) rfl f21 (by decide) kv_258 rfl dX8_of_56 ?_
        refine lv_iload_n hx hb dX8_of_59 rfl (lv_at hl 1 rfl) ?_
        obtain ⟨g28, f27, p29⟩ := (show sA cI 7 (anyA) (w 2) from ok 2 (by decide))
        have f30 : w 2 = .inl (cI, 7, .inl g28) := f27
        obtain ⟨v31, e32⟩ : ∃ z : Int32, g28 (i).toNatClampNeg = z := ⟨_, rfl⟩
        refine o_iald (v := v31) X h 2 0 (by decide) rfl f30 rfl (in_of (by omega) (by omega)) e32 dX8_of_60 ?_
        exact e_i X h hr hlk dX8_of_61 ⟨ok, KX.rf, trivial⟩
      · refine lv_tableIn (tgt := 62) (off := 43) hx hb dX8_of_19 (by rw [hq]; decide) (by rw [hq]; decide) (by rw [hq]; decide) (by decide) ?_
        refine lv_aload_n hx hb dX8_of_62 rfl (lv_at hl 0 rfl) ?_
        refine r_get kc8 X h 0 0 (by decide) rfl f7 (by decide) kv_172 rfl dX8_of_63 ?_
        refine r_get kc2 X h 1 6 (by decide) rfl f21 (by decide) kv_259 rfl dX8_of_66 ?_
        refine lv_iload_n hx hb dX8_of_69 rfl (lv_at hl 1 rfl) ?_
        obtain ⟨g35, f34, p36⟩ := (show sA cI 7 (rgA 0 9) (w 3) from ok 3 (by decide))
        have f37 : w 3 = .inl (cI, 7, .inl g35) := f34
        obtain ⟨v38, e39⟩ : ∃ z : Int32, g35 (i).toNatClampNeg = z := ⟨_, rfl⟩
        have h40 := rgA_rd p36 e39
        refine o_iald (v := v38) X h 3 0 (by decide) rfl f37 rfl (in_of (by omega) (by omega)) e39 dX8_of_70 ?_
        exact e_i X h hr hlk dX8_of_71 ⟨ok, KX.rf, trivial⟩
      · refine lv_tableIn (tgt := 72) (off := 53) hx hb dX8_of_19 (by rw [hq]; decide) (by rw [hq]; decide) (by rw [hq]; decide) (by decide) ?_
        refine lv_aload_n hx hb dX8_of_72 rfl (lv_at hl 0 rfl) ?_
        refine r_get kc8 X h 0 0 (by decide) rfl f7 (by decide) kv_172 rfl dX8_of_73 ?_
        refine r_get kc2 X h 1 7 (by decide) rfl f21 (by decide) kv_207 rfl dX8_of_76 ?_
        refine lv_iload_n hx hb dX8_of_79 rfl (lv_at hl 1 rfl) ?_
        obtain ⟨g42, f41, p43⟩ := (show sA cI 7 (anyA) (w 4) from ok 4 (by decide))
        have f44 : w 4 = .inl (cI, 7, .inl g42) := f41
        obtain ⟨v45, e46⟩ : ∃ z : Int32, g42 (i).toNatClampNeg = z := ⟨_, rfl⟩
        refine o_iald (v := v45) X h 4 0 (by decide) rfl f44 rfl (in_of (by omega) (by omega)) e46 dX8_of_80 ?_
        exact e_i X h hr hlk dX8_of_81 ⟨ok, KX.rf, trivial⟩
      · refine lv_tableIn (tgt := 82) (off := 63) hx hb dX8_of_19 (by rw [hq]; decide) (by rw [hq]; decide) (by rw [hq]; decide) (by decide) ?_
        refine lv_aload_n hx hb dX8_of_82 rfl (lv_at hl 0 rfl) ?_
        refine r_get kc8 X h 0 0 (by decide) rfl f7 (by decide) kv_172 rfl dX8_of_83 ?_
        refine lv_iload_n hx hb dX8_of_86 rfl (lv_at hl 1 rfl) ?_
        refine n_Vi (na := 1) (As := [.int i]) (rest := []) X hD hN h rfl (c_isMilked l G cI cB cZ cO ad w 1 (Or.inl rfl) ok i  ) ⟨kv_208, kv_35, kv_36, kv_37, kv_38⟩ rfl ⟨by decide, by decide, by decide⟩ ⟨Nat.le_of_ble_eq_true rfl, Nat.le_of_ble_eq_true rfl⟩ ⟨Nat.zero_le _, Nat.zero_le _⟩ (by decide) f21 rfl rfl hl.1 rfl (Nat.le_of_ble_eq_true rfl) dX8_of_87 (fun r48 w49 H locs hp50 h => ?_)
        obtain ⟨rfl, hr51⟩ := hp50
        rcases hr51 with rfl | rfl
        · refine lv_if_eq (tgt := 97) hx hb dX8_of_90 (by decide) (fun hc => absurd hc (by decide)) (fun _ => ?_)
          refine lv_iconst (v := 1) hx hb dX8_of_93 (by decide) ?_
          refine lv_goto (tgt := 98) hx hb dX8_of_94 (by decide) ?_
          exact e_i X h hr hlk dX8_of_98 ⟨ok, KX.rf, trivial⟩
        · refine lv_if_eq (tgt := 97) hx hb dX8_of_90 (by decide) (fun _ => ?_) (fun hc => absurd (by decide) hc)
          refine lv_iconst (v := 0) hx hb dX8_of_97 (by decide) ?_
          exact e_i X h hr hlk dX8_of_98 ⟨ok, KX.rf, trivial⟩
      · refine lv_tableIn (tgt := 99) (off := 80) hx hb dX8_of_19 (by rw [hq]; decide) (by rw [hq]; decide) (by rw [hq]; decide) (by decide) ?_
        refine lv_aload_n hx hb dX8_of_99 rfl (lv_at hl 0 rfl) ?_
        refine r_get kc8 X h 0 0 (by decide) rfl f7 (by decide) kv_172 rfl dX8_of_100 ?_
        refine lv_iload_n hx hb dX8_of_103 rfl (lv_at hl 1 rfl) ?_
        refine lv_iconst (v := 0) hx hb dX8_of_104 (by decide) ?_
        refine n_Vi (na := 2) (As := [.int i, .int 0]) (rest := []) X hD hN h rfl (c_givenBehind l G cI cB cZ cO ad w 1 (Or.inl rfl) ok i (0 : Int32) (by omega) (by omega) ) ⟨kv_206, kv_40, kv_41, kv_37, kv_42⟩ rfl ⟨by decide, by decide, by decide⟩ ⟨Nat.le_of_ble_eq_true rfl, Nat.le_of_ble_eq_true rfl⟩ ⟨Nat.zero_le _, Nat.zero_le _⟩ (by decide) f21 rfl rfl hl.1 rfl (Nat.le_of_ble_eq_true rfl) dX8_of_105 (fun r52 w53 H locs hp54 h => ?_)
        obtain ⟨rfl, hr55⟩ := hp54
        obtain ⟨h56, h57⟩ := hr55
        exact e_i X h hr hlk dX8_of_108 ⟨ok, KX.rf, trivial⟩
    · refine lv_tableOut (tgt := 109) hx hb dX8_of_19 (by omega) (by decide) ?_
      refine lv_aload_n hx hb dX8_of_109 rfl (lv_at hl 0 rfl) ?_
      refine lv_bipush (v := (-2)) hx hb dX8_of_110 (by decide) ?_
      refine n_Vi (na := 1) (As := [.int (-2)]) (rest := []) X hD hN h rfl (c_refused l G cI cB cZ cO ad w  ok ((-2) : Int32)  ) ⟨kv_227, kv_228, kv_229, kv_212, kv_230⟩ rfl ⟨by decide, by decide, by decide⟩ ⟨Nat.le_of_ble_eq_true rfl, Nat.le_of_ble_eq_true rfl⟩ ⟨Nat.zero_le _, Nat.zero_le _⟩ (by decide) f7 rfl rfl hl.1 rfl (Nat.le_of_ble_eq_true rfl) dX8_of_112 (fun r58 w59 H locs hp60 h => ?_)
      obtain ⟨ok62, kk63, hr61⟩ := hp60
      have kx64 : KX w w59 := kk63
      subst hr61
      exact e_i X h hr hlk dX8_of_115 ⟨ok62, kx64, trivial⟩
  · refine lv_if_ne (tgt := 18) hx hb dX8_of_8 (by decide) (fun hc => absurd (by decide) hc) (fun _ => ?_)
    refine lv_aload_n hx hb dX8_of_11 rfl (lv_at hl 0 rfl) ?_
    refine lv_bipush (v := (-2)) hx hb dX8_of_12 (by decide) ?_
    refine n_Vi (na := 1) (As := [.int (-2)]) (rest := []) X hD hN h rfl (c_refused l G cI cB cZ cO ad w  ok ((-2) : Int32)  ) ⟨kv_227, kv_228, kv_229, kv_212, kv_230⟩ rfl ⟨by decide, by decide, by decide⟩ ⟨Nat.le_of_ble_eq_true rfl, Nat.le_of_ble_eq_true rfl⟩ ⟨Nat.zero_le _, Nat.zero_le _⟩ (by decide) f7 rfl rfl hl.1 rfl (Nat.le_of_ble_eq_true rfl) dX8_of_14 (fun r65 w66 H locs hp67 h => ?_)
    obtain ⟨ok69, kk70, hr68⟩ := hp67
    have kx71 : KX w w66 := kk70
    subst hr68
    exact e_i X h hr hlk dX8_of_17 ⟨ok69, kx71, trivial⟩

set_option maxHeartbeats 4000000 in
set_option maxRecDepth 100000 in
theorem c_X_about (l : Launch) (G : va_G) (cI cB cZ cO : ClassId) (ad : Nat → Nat) (w : Nat → va_E)  (ok : OK cI cB cZ cO ad w) (j : Int32) (u : Int32)   : NI l G (tyq cI cB cZ cO) yX8_about cX8_about 3 (some .int) 4 94 74 ad w [.ref (ad 0), .int j, .int u] (fun r w1 => OK cI cB cZ cO ad w1 ∧ KX w w1 ∧ True) := by
  refine nk_i (own := "NoonShade") rfl (by decide) (Nat.le_of_ble_eq_true rfl) ?_
  intro p e s m below meth c ls X hD hN hr hlk h hl
  have hx := X.1.1
  have hb := X.1.2.1
  have hown := X.1.2.2.2.1
  have hts := X.1.2.2.2.2
  have hl : lv_has ls 3 [(0, .ref (ad 0)), (1, .int j), (2, .int u)] := hl
  refine lv_aload_n hx hb dX8_about_0 rfl (lv_at hl 0 rfl) ?_
  obtain ⟨x2, x3, q4, q5, q6, f1⟩ := (show sN ad (w 0) from ok 0 (by decide))
  have f7 : w 0 = .inr (6, [.ref (ad 1), .ref (ad 14), .ref (ad 27), .ref (ad 54), .ref (ad 55), .ref (ad 58), .ref (ad 62), .long x2, .long x3, .int q4, .int q5, .int q6]) := f1
  refine r_get kc8 X h 0 0 (by decide) rfl f7 (by decide) kv_172 rfl dX8_about_1 ?_
  refine lv_iload_n hx hb dX8_about_4 rfl (lv_at hl 1 rfl) ?_
  obtain ⟨q12, q13, q14, q15, q16, f11, h17, h18, h19, h20⟩ := (show sI ad 1 (w 1) from ok 1 (by decide))
  have f21 : w 1 = .inr (1, [.int q12, .int q13, .int q14, .int q15, .int q16, .ref (ad 2), .ref (ad 3), .ref (ad 4), .ref (ad 5), .ref (ad 6), .ref (ad 7), .ref (ad 8), .ref (ad 10), .ref (ad 12)]) := f11
  refine n_Vi (na := 1) (As := [.int j]) (rest := []) X hD hN h rfl (c_hasJar l G cI cB cZ cO ad w 1 (Or.inl rfl) ok j  ) ⟨kv_223, kv_224, kv_225, kv_37, kv_226⟩ rfl ⟨by decide, by decide, by decide⟩ ⟨Nat.le_of_ble_eq_true rfl, Nat.le_of_ble_eq_true rfl⟩ ⟨Nat.zero_le _, Nat.zero_le _⟩ (by decide) f21 rfl rfl hl.1 rfl (Nat.le_of_ble_eq_true rfl) dX8_about_5 (fun r8 w9 H locs hp10 h => ?_)
  obtain ⟨rfl, hr22⟩ := hp10
  rcases hr22 with ⟨hq23, hq24, rfl⟩ | rfl
  · refine lv_if_ne (tgt := 18) hx hb dX8_about_8 (by decide) (fun _ => ?_) (fun hc => absurd hc (by decide))
    refine lv_iload_n hx hb dX8_about_18 rfl (lv_at hl 2 rfl) ?_
    by_cases hs25 : 0 ≤ (u).toInt ∧ (u).toInt ≤ 3
    · have ha26 : u = 0 ∨ u = 1 ∨ u = 2 ∨ u = 3 := by simp only [fa_eq]; have := hs25; simp only [show ((0 : Int32).toInt = 0) from rfl, show ((1 : Int32).toInt = 1) from rfl, show ((2 : Int32).toInt = 2) from rfl, show ((3 : Int32).toInt = 3) from rfl]; omega
      rcases ha26 with hq | hq | hq | hq
      · refine lv_tableIn (tgt := 48) (off := 29) hx hb dX8_about_19 (by rw [hq]; decide) (by rw [hq]; decide) (by rw [hq]; decide) (by decide) ?_
        refine lv_aload_n hx hb dX8_about_48 rfl (lv_at hl 0 rfl) ?_
        refine r_get kc8 X h 0 0 (by decide) rfl f7 (by decide) kv_172 rfl dX8_about_49 ?_
        refine r_get kc2 X h 1 8 (by decide) rfl f21 (by decide) kv_204 rfl dX8_about_52 ?_
        refine lv_iload_n hx hb dX8_about_55 rfl (lv_at hl 1 rfl) ?_
        obtain ⟨g28, f27, p29⟩ := (show sA cI 4 (anyA) (w 5) from ok 5 (by decide))
        have f30 : w 5 = .inl (cI, 4, .inl g28) := f27
        obtain ⟨v31, e32⟩ : ∃ z : Int32, g28 (j).toNatClampNeg = z := ⟨_, rfl⟩
        refine o_iald (v := v31) X h 5 0 (by decide) rfl f30 rfl (in_of (by omega) (by omega)) e32 dX8_about_56 ?_
        exact e_i X h hr hlk dX8_about_57 ⟨ok, KX.rf, trivial⟩
      · refine lv_tableIn (tgt := 58) (off := 39) hx hb dX8_about_19 (by rw [hq]; decide) (by rw [hq]; decide) (by rw [hq]; decide) (by decide) ?_
        refine lv_aload_n hx hb dX8_about_58 rfl (lv_at hl 0 rfl) ?_
        refine r_get kc8 X h 0 0 (by decide) rfl f7 (by decide) kv_172 rfl dX8_about_59 ?_
        refine r_get kc2 X h 1 9 (by decide) rfl f21 (by decide) kv_193 rfl dX8_about_62 ?_
        refine lv_iload_n hx hb dX8_about_65 rfl (lv_at hl 1 rfl) ?_
        obtain ⟨g35, f34, p36⟩ := (show sA cI 4 (rgA 0 60) (w 6) from ok 6 (by decide))
        have f37 : w 6 = .inl (cI, 4, .inl g35) := f34
        obtain ⟨v38, e39⟩ : ∃ z : Int32, g35 (j).toNatClampNeg = z := ⟨_, rfl⟩
        have h40 := rgA_rd p36 e39
        refine o_iald (v := v38) X h 6 0 (by decide) rfl f37 rfl (in_of (by omega) (by omega)) e39 dX8_about_66 ?_
        exact e_i X h hr hlk dX8_about_67 ⟨ok, KX.rf, trivial⟩
      · refine lv_tableIn (tgt := 68) (off := 49) hx hb dX8_about_19 (by rw [hq]; decide) (by rw [hq]; decide) (by rw [hq]; decide) (by decide) ?_
        refine lv_aload_n hx hb dX8_about_68 rfl (lv_at hl 0 rfl) ?_
        refine r_get kc8 X h 0 0 (by decide) rfl f7 (by decide) kv_172 rfl dX8_about_69 ?_
        refine r_get kc2 X h 1 10 (by decide) rfl f21 (by decide) kv_202 rfl dX8_about_72 ?_
        refine lv_iload_n hx hb dX8_about_75 rfl (lv_at hl 1 rfl) ?_
        obtain ⟨g42, f41, p43⟩ := (show sA cI 4 (anyA) (w 7) from ok 7 (by decide))
        have f44 : w 7 = .inl (cI, 4, .inl g42) := f41
        obtain ⟨v45, e46⟩ : ∃ z : Int32, g42 (j).toNatClampNeg = z := ⟨_, rfl⟩
        refine o_iald (v := v45) X h 7 0 (by decide) rfl f44 rfl (in_of (by omega) (by omega)) e46 dX8_about_76 ?_
        exact e_i X h hr hlk dX8_about_77 ⟨ok, KX.rf, trivial⟩
      · refine lv_tableIn (tgt := 78) (off := 59) hx hb dX8_about_19 (by rw [hq]; decide) (by rw [hq]; decide) (by rw [hq]; decide) (by decide) ?_
        refine lv_aload_n hx hb dX8_about_78 rfl (lv_at hl 0 rfl) ?_
        refine r_get kc8 X h 0 0 (by decide) rfl f7 (by decide) kv_172 rfl dX8_about_79 ?_
        refine r_get kc2 X h 1 9 (by decide) rfl f21 (by decide) kv_193 rfl dX8_about_82 ?_
        refine lv_iload_n hx hb dX8_about_85 rfl (lv_at hl 1 rfl) ?_
        obtain ⟨g49, f48, p50⟩ := (show sA cI 4 (rgA 0 60) (w 6) from ok 6 (by decide))
        have f51 : w 6 = .inl (cI, 4, .inl g49) := f48
        obtain ⟨v52, e53⟩ : ∃ z : Int32, g49 (j).toNatClampNeg = z := ⟨_, rfl⟩
        have h54 := rgA_rd p50 e53
        refine o_iald (v := v52) X h 6 0 (by decide) rfl f51 rfl (in_of (by omega) (by omega)) e53 dX8_about_86 ?_
        refine lv_aload_n hx hb dX8_about_87 rfl (lv_at hl 0 rfl) ?_
        refine r_get kc8 X h 0 0 (by decide) rfl f7 (by decide) kv_172 rfl dX8_about_88 ?_
        refine lv_iload_n hx hb dX8_about_91 rfl (lv_at hl 1 rfl) ?_
        refine lv_iconst (v := 1) hx hb dX8_about_92 (by decide) ?_
        refine n_Vi (na := 2) (As := [.int j, .int 1]) (rest := [.int v52]) X hD hN h rfl (c_coolBehind l G cI cB cZ cO ad w 1 (Or.inl rfl) ok j (1 : Int32) (by omega) (by omega) (by decide) (by decide) ) ⟨kv_260, kv_261, kv_262, kv_37, kv_263⟩ rfl ⟨by decide, by decide, by decide⟩ ⟨Nat.le_of_ble_eq_true rfl, Nat.le_of_ble_eq_true rfl⟩ ⟨Nat.zero_le _, Nat.zero_le _⟩ (by decide) f21 rfl rfl hl.1 rfl (Nat.le_of_ble_eq_true rfl) dX8_about_93 (fun r55 w56 H locs hp57 h => ?_)
        obtain ⟨rfl, hr58⟩ := hp57
        obtain ⟨h59, h60⟩ := hr58
        obtain ⟨z63, e61, t62⟩ := x_sub (x := v52) (y := r55) (a := (v52).toInt) (b := (r55).toInt) rfl rfl (by omega) (by omega)
        refine o_isub (z := z63) hx hb dX8_about_96 e61 ?_
        exact e_i X h hr hlk dX8_about_97 ⟨ok, KX.rf, trivial⟩
    · refine lv_tableOut (tgt := 98) hx hb dX8_about_19 (by omega) (by decide) ?_
      refine lv_aload_n hx hb dX8_about_98 rfl (lv_at hl 0 rfl) ?_
      refine lv_bipush (v := (-2)) hx hb dX8_about_99 (by decide) ?_
      refine n_Vi (na := 1) (As := [.int (-2)]) (rest := []) X hD hN h rfl (c_refused l G cI cB cZ cO ad w  ok ((-2) : Int32)  ) ⟨kv_227, kv_228, kv_229, kv_212, kv_230⟩ rfl ⟨by decide, by decide, by decide⟩ ⟨Nat.le_of_ble_eq_true rfl, Nat.le_of_ble_eq_true rfl⟩ ⟨Nat.zero_le _, Nat.zero_le _⟩ (by decide) f7 rfl rfl hl.1 rfl (Nat.le_of_ble_eq_true rfl) dX8_about_101 (fun r64 w65 H locs hp66 h => ?_)
      obtain ⟨ok68, kk69, hr67⟩ := hp66
      have kx70 : KX w w65 := kk69
      subst hr67
      exact e_i X h hr hlk dX8_about_104 ⟨ok68, kx70, trivial⟩
  · refine lv_if_ne (tgt := 18) hx hb dX8_about_8 (by decide) (fun hc => absurd (by decide) hc) (fun _ => ?_)
    refine lv_aload_n hx hb dX8_about_11 rfl (lv_at hl 0 rfl) ?_
    refine lv_bipush (v := (-2)) hx hb dX8_about_12 (by decide) ?_
    refine n_Vi (na := 1) (As := [.int (-2)]) (rest := []) X hD hN h rfl (c_refused l G cI cB cZ cO ad w  ok ((-2) : Int32)  ) ⟨kv_227, kv_228, kv_229, kv_212, kv_230⟩ rfl ⟨by decide, by decide, by decide⟩ ⟨Nat.le_of_ble_eq_true rfl, Nat.le_of_ble_eq_true rfl⟩ ⟨Nat.zero_le _, Nat.zero_le _⟩ (by decide) f7 rfl rfl hl.1 rfl (Nat.le_of_ble_eq_true rfl) dX8_about_14 (fun r71 w72 H locs hp73 h => ?_)
    obtain ⟨ok75, kk76, hr74⟩ := hp73
    have kx77 : KX w w72 := kk76
    subst hr74
    exact e_i X h hr hlk dX8_about_17 ⟨ok75, kx77, trivial⟩

set_option maxHeartbeats 4000000 in
set_option maxRecDepth 100000 in
theorem c_X_gives (l : Launch) (G : va_G) (cI cB cZ cO : ClassId) (ad : Nat → Nat) (w : Nat → va_E)  (ok : OK cI cB cZ cO ad w) (i : Int32) (n : Int32)   : NI l G (tyq cI cB cZ cO) yX8_gives cX8_gives 3 (some .int) 3 67 74 ad w [.ref (ad 0), .int i, .int n] (fun r w1 => OK cI cB cZ cO ad w1 ∧ KX w w1 ∧ True) := by
  refine nk_i (own := "NoonShade") rfl (by decide) (Nat.le_of_ble_eq_true rfl) ?_
  intro p e s m below meth c ls X hD hN hr hlk h hl
  have hx := X.1.1
  have hb := X.1.2.1
  have hown := X.1.2.2.2.1
  have hts := X.1.2.2.2.2
  have hl : lv_has ls 3 [(0, .ref (ad 0)), (1, .int i), (2, .int n)] := hl
  refine lv_aload_n hx hb dX8_gives_0 rfl (lv_at hl 0 rfl) ?_
  obtain ⟨x2, x3, q4, q5, q6, f1⟩ := (show sN ad (w 0) from ok 0 (by decide))
  have f7 : w 0 = .inr (6, [.ref (ad 1), .ref (ad 14), .ref (ad 27), .ref (ad 54), .ref (ad 55), .ref (ad 58), .ref (ad 62), .long x2, .long x3, .int q4, .int q5, .int q6]) := f1
  refine r_get kc8 X h 0 0 (by decide) rfl f7 (by decide) kv_172 rfl dX8_gives_1 ?_
  refine lv_iload_n hx hb dX8_gives_4 rfl (lv_at hl 1 rfl) ?_
  obtain ⟨q12, q13, q14, q15, q16, f11, h17, h18, h19, h20⟩ := (show sI ad 1 (w 1) from ok 1 (by decide))
  have f21 : w 1 = .inr (1, [.int q12, .int q13, .int q14, .int q15, .int q16, .ref (ad 2), .ref (ad 3), .ref (ad 4), .ref (ad 5), .ref (ad 6), .ref (ad 7), .ref (ad 8), .ref (ad 10), .ref (ad 12)]) := f11
  refine n_Vi (na := 1) (As := [.int i]) (rest := []) X hD hN h rfl (c_hasCaster l G cI cB cZ cO ad w 1 (Or.inl rfl) ok i  ) ⟨kv_219, kv_220, kv_221, kv_37, kv_222⟩ rfl ⟨by decide, by decide, by decide⟩ ⟨Nat.le_of_ble_eq_true rfl, Nat.le_of_ble_eq_true rfl⟩ ⟨Nat.zero_le _, Nat.zero_le _⟩ (by decide) f21 rfl rfl hl.1 rfl (Nat.le_of_ble_eq_true rfl) dX8_gives_5 (fun r8 w9 H locs hp10 h => ?_)
  obtain ⟨rfl, hr22⟩ := hp10
  rcases hr22 with ⟨hq23, hq24, rfl⟩ | rfl
  · refine lv_if_eq (tgt := 21) hx hb dX8_gives_8 (by decide) (fun hc => absurd hc (by decide)) (fun _ => ?_)
    refine lv_iload_n hx hb dX8_gives_11 rfl (lv_at hl 2 rfl) ?_
    refine lv_iconst (v := 0) hx hb dX8_gives_12 (by decide) ?_
    refine lv_bipush (v := 60) hx hb dX8_gives_13 (by decide) ?_
    refine n_Si (na := 3) (As := [.int n, .int 0, .int 60]) (rest := []) X hD hN h (c_within l G cI cB cZ cO ad w n (0 : Int32) (60 : Int32) ((n).toInt) 0 60 rfl rfl rfl) ⟨kv_247, kv_248, kv_212, kv_249⟩ ⟨by decide, by decide, by decide⟩ ⟨Nat.le_of_ble_eq_true rfl, Nat.le_of_ble_eq_true rfl⟩ ⟨Nat.zero_le _, Nat.zero_le _⟩ rfl hl.1 rfl (Nat.le_of_ble_eq_true rfl) dX8_gives_15 (fun r25 w26 H locs hp27 h => ?_)
    obtain ⟨rfl, hq28⟩ := hp27
    rcases hq28 with ⟨hq29, hq30, rfl⟩ | ⟨hq28, rfl⟩
    · refine lv_if_ne (tgt := 28) hx hb dX8_gives_18 (by decide) (fun _ => ?_) (fun hc => absurd hc (by decide))
      refine lv_aload_n hx hb dX8_gives_28 rfl (lv_at hl 0 rfl) ?_
      refine r_get kc8 X h 0 0 (by decide) rfl f7 (by decide) kv_172 rfl dX8_gives_29 ?_
      refine lv_iload_n hx hb dX8_gives_32 rfl (lv_at hl 1 rfl) ?_
      refine lv_iload_n hx hb dX8_gives_33 rfl (lv_at hl 2 rfl) ?_
      refine n_Vi (na := 2) (As := [.int i, .int n]) (rest := []) X hD hN h rfl (c_givenBehind l G cI cB cZ cO ad w 1 (Or.inl rfl) ok i n (by omega) (by omega) ) ⟨kv_206, kv_40, kv_41, kv_37, kv_42⟩ rfl ⟨by decide, by decide, by decide⟩ ⟨Nat.le_of_ble_eq_true rfl, Nat.le_of_ble_eq_true rfl⟩ ⟨Nat.zero_le _, Nat.zero_le _⟩ (by decide) f21 rfl rfl hl.1 rfl (Nat.le_of_ble_eq_true rfl) dX8_gives_34 (fun r31 w32 H locs hp33 h => ?_)
      obtain ⟨rfl, hr34⟩ := hp33
      obtain ⟨h35, h36⟩ := hr34
      exact e_i X h hr hlk dX8_gives_37 ⟨ok, KX.rf, trivial⟩
    · refine lv_if_ne (tgt := 28) hx hb dX8_gives_18 (by decide) (fun hc => absurd (by decide) hc) (fun _ => ?_)
      refine lv_aload_n hx hb dX8_gives_21 rfl (lv_at hl 0 rfl) ?_
      refine lv_bipush (v := (-2)) hx hb dX8_gives_22 (by decide) ?_
      refine n_Vi (na := 1) (As := [.int (-2)]) (rest := []) X hD hN h rfl (c_refused l G cI cB cZ cO ad w  ok ((-2) : Int32)  ) ⟨kv_227, kv_228, kv_229, kv_212, kv_230⟩ rfl ⟨by decide, by decide, by decide⟩ ⟨Nat.le_of_ble_eq_true rfl, Nat.le_of_ble_eq_true rfl⟩ ⟨Nat.zero_le _, Nat.zero_le _⟩ (by decide) f7 rfl rfl hl.1 rfl (Nat.le_of_ble_eq_true rfl) dX8_gives_24 (fun r37 w38 H locs hp39 h => ?_)
      obtain ⟨ok41, kk42, hr40⟩ := hp39
      have kx43 : KX w w38 := kk42
      subst hr40
      exact e_i X h hr hlk dX8_gives_27 ⟨ok41, kx43, trivial⟩
  · refine lv_if_eq (tgt := 21) hx hb dX8_gives_8 (by decide) (fun _ => ?_) (fun hc => absurd (by decide) hc)
    refine lv_aload_n hx hb dX8_gives_21 rfl (lv_at hl 0 rfl) ?_
    refine lv_bipush (v := (-2)) hx hb dX8_gives_22 (by decide) ?_
    refine n_Vi (na := 1) (As := [.int (-2)]) (rest := []) X hD hN h rfl (c_refused l G cI cB cZ cO ad w  ok ((-2) : Int32)  ) ⟨kv_227, kv_228, kv_229, kv_212, kv_230⟩ rfl ⟨by decide, by decide, by decide⟩ ⟨Nat.le_of_ble_eq_true rfl, Nat.le_of_ble_eq_true rfl⟩ ⟨Nat.zero_le _, Nat.zero_le _⟩ (by decide) f7 rfl rfl hl.1 rfl (Nat.le_of_ble_eq_true rfl) dX8_gives_24 (fun r44 w45 H locs hp46 h => ?_)
    obtain ⟨ok48, kk49, hr47⟩ := hp46
    have kx50 : KX w w45 := kk49
    subst hr47
    exact e_i X h hr hlk dX8_gives_27 ⟨ok48, kx50, trivial⟩

set_option maxHeartbeats 4000000 in
set_option maxRecDepth 100000 in
theorem c_X_keeps (l : Launch) (G : va_G) (cI cB cZ cO : ClassId) (ad : Nat → Nat) (w : Nat → va_E)  (ok : OK cI cB cZ cO ad w) (j : Int32) (n : Int32)   : NI l G (tyq cI cB cZ cO) yX8_keeps cX8_keeps 3 (some .int) 4 94 74 ad w [.ref (ad 0), .int j, .int n] (fun r w1 => OK cI cB cZ cO ad w1 ∧ KX w w1 ∧ True) := by
  refine nk_i (own := "NoonShade") rfl (by decide) (Nat.le_of_ble_eq_true rfl) ?_
  intro p e s m below meth c ls X hD hN hr hlk h hl
  have hx := X.1.1
  have hb := X.1.2.1
  have hown := X.1.2.2.2.1
  have hts := X.1.2.2.2.2
  have hl : lv_has ls 3 [(0, .ref (ad 0)), (1, .int j), (2, .int n)] := hl
  refine lv_aload_n hx hb dX8_keeps_0 rfl (lv_at hl 0 rfl) ?_
  obtain ⟨x2, x3, q4, q5, q6, f1⟩ := (show sN ad (w 0) from ok 0 (by decide))
  have f7 : w 0 = .inr (6, [.ref (ad 1), .ref (ad 14), .ref (ad 27), .ref (ad 54), .ref (ad 55), .ref (ad 58), .ref (ad 62), .long x2, .long x3, .int q4, .int q5, .int q6]) := f1
  refine r_get kc8 X h 0 0 (by decide) rfl f7 (by decide) kv_172 rfl dX8_keeps_1 ?_
  refine lv_iload_n hx hb dX8_keeps_4 rfl (lv_at hl 1 rfl) ?_
  obtain ⟨q12, q13, q14, q15, q16, f11, h17, h18, h19, h20⟩ := (show sI ad 1 (w 1) from ok 1 (by decide))
  have f21 : w 1 = .inr (1, [.int q12, .int q13, .int q14, .int q15, .int q16, .ref (ad 2), .ref (ad 3), .ref (ad 4), .ref (ad 5), .ref (ad 6), .ref (ad 7), .ref (ad 8), .ref (ad 10), .ref (ad 12)]) := f11
  refine n_Vi (na := 1) (As := [.int j]) (rest := []) X hD hN h rfl (c_hasJar l G cI cB cZ cO ad w 1 (Or.inl rfl) ok j  ) ⟨kv_223, kv_224, kv_225, kv_37, kv_226⟩ rfl ⟨by decide, by decide, by decide⟩ ⟨Nat.le_of_ble_eq_true rfl, Nat.le_of_ble_eq_true rfl⟩ ⟨Nat.zero_le _, Nat.zero_le _⟩ (by decide) f21 rfl rfl hl.1 rfl (Nat.le_of_ble_eq_true rfl) dX8_keeps_5 (fun r8 w9 H locs hp10 h => ?_)
  obtain ⟨rfl, hr22⟩ := hp10
  rcases hr22 with ⟨hq23, hq24, rfl⟩ | rfl
  · refine lv_if_eq (tgt := 21) hx hb dX8_keeps_8 (by decide) (fun hc => absurd hc (by decide)) (fun _ => ?_)
    refine lv_iload_n hx hb dX8_keeps_11 rfl (lv_at hl 2 rfl) ?_
    refine lv_iconst (v := 0) hx hb dX8_keeps_12 (by decide) ?_
    refine lv_bipush (v := 60) hx hb dX8_keeps_13 (by decide) ?_
    refine n_Si (na := 3) (As := [.int n, .int 0, .int 60]) (rest := []) X hD hN h (c_within l G cI cB cZ cO ad w n (0 : Int32) (60 : Int32) ((n).toInt) 0 60 rfl rfl rfl) ⟨kv_247, kv_248, kv_212, kv_249⟩ ⟨by decide, by decide, by decide⟩ ⟨Nat.le_of_ble_eq_true rfl, Nat.le_of_ble_eq_true rfl⟩ ⟨Nat.zero_le _, Nat.zero_le _⟩ rfl hl.1 rfl (Nat.le_of_ble_eq_true rfl) dX8_keeps_15 (fun r25 w26 H locs hp27 h => ?_)
    obtain ⟨rfl, hq28⟩ := hp27
    rcases hq28 with ⟨hq29, hq30, rfl⟩ | ⟨hq28, rfl⟩
    · refine lv_if_ne (tgt := 28) hx hb dX8_keeps_18 (by decide) (fun _ => ?_) (fun hc => absurd hc (by decide))
      refine lv_aload_n hx hb dX8_keeps_28 rfl (lv_at hl 0 rfl) ?_
      refine r_get kc8 X h 0 0 (by decide) rfl f7 (by decide) kv_172 rfl dX8_keeps_29 ?_
      refine lv_iload_n hx hb dX8_keeps_32 rfl (lv_at hl 1 rfl) ?_
      refine lv_iload_n hx hb dX8_keeps_33 rfl (lv_at hl 2 rfl) ?_
      refine n_Vi (na := 2) (As := [.int j, .int n]) (rest := []) X hD hN h rfl (c_coolBehind l G cI cB cZ cO ad w 1 (Or.inl rfl) ok j n (by omega) (by omega) (by omega) (by omega) ) ⟨kv_260, kv_261, kv_262, kv_37, kv_263⟩ rfl ⟨by decide, by decide, by decide⟩ ⟨Nat.le_of_ble_eq_true rfl, Nat.le_of_ble_eq_true rfl⟩ ⟨Nat.zero_le _, Nat.zero_le _⟩ (by decide) f21 rfl rfl hl.1 rfl (Nat.le_of_ble_eq_true rfl) dX8_keeps_34 (fun r31 w32 H locs hp33 h => ?_)
      obtain ⟨rfl, hr34⟩ := hp33
      obtain ⟨h35, h36⟩ := hr34
      exact e_i X h hr hlk dX8_keeps_37 ⟨ok, KX.rf, trivial⟩
    · refine lv_if_ne (tgt := 28) hx hb dX8_keeps_18 (by decide) (fun hc => absurd (by decide) hc) (fun _ => ?_)
      refine lv_aload_n hx hb dX8_keeps_21 rfl (lv_at hl 0 rfl) ?_
      refine lv_bipush (v := (-2)) hx hb dX8_keeps_22 (by decide) ?_
      refine n_Vi (na := 1) (As := [.int (-2)]) (rest := []) X hD hN h rfl (c_refused l G cI cB cZ cO ad w  ok ((-2) : Int32)  ) ⟨kv_227, kv_228, kv_229, kv_212, kv_230⟩ rfl ⟨by decide, by decide, by decide⟩ ⟨Nat.le_of_ble_eq_true rfl, Nat.le_of_ble_eq_true rfl⟩ ⟨Nat.zero_le _, Nat.zero_le _⟩ (by decide) f7 rfl rfl hl.1 rfl (Nat.le_of_ble_eq_true rfl) dX8_keeps_24 (fun r37 w38 H locs hp39 h => ?_)
      obtain ⟨ok41, kk42, hr40⟩ := hp39
      have kx43 : KX w w38 := kk42
      subst hr40
      exact e_i X h hr hlk dX8_keeps_27 ⟨ok41, kx43, trivial⟩
  · refine lv_if_eq (tgt := 21) hx hb dX8_keeps_8 (by decide) (fun _ => ?_) (fun hc => absurd (by decide) hc)
    refine lv_aload_n hx hb dX8_keeps_21 rfl (lv_at hl 0 rfl) ?_
    refine lv_bipush (v := (-2)) hx hb dX8_keeps_22 (by decide) ?_
    refine n_Vi (na := 1) (As := [.int (-2)]) (rest := []) X hD hN h rfl (c_refused l G cI cB cZ cO ad w  ok ((-2) : Int32)  ) ⟨kv_227, kv_228, kv_229, kv_212, kv_230⟩ rfl ⟨by decide, by decide, by decide⟩ ⟨Nat.le_of_ble_eq_true rfl, Nat.le_of_ble_eq_true rfl⟩ ⟨Nat.zero_le _, Nat.zero_le _⟩ (by decide) f7 rfl rfl hl.1 rfl (Nat.le_of_ble_eq_true rfl) dX8_keeps_24 (fun r44 w45 H locs hp46 h => ?_)
    obtain ⟨ok48, kk49, hr47⟩ := hp46
    have kx50 : KX w w45 := kk49
    subst hr47
    exact e_i X h hr hlk dX8_keeps_27 ⟨ok48, kx50, trivial⟩

set_option maxHeartbeats 4000000 in
set_option maxRecDepth 100000 in
theorem c_X_when (l : Launch) (G : va_G) (cI cB cZ cO : ClassId) (ad : Nat → Nat) (w : Nat → va_E)  (ok : OK cI cB cZ cO ad w) (i : Int32)   : NI l G (tyq cI cB cZ cO) yX8_when cX8_when 4 (some .int) 3 67 74 ad w [.ref (ad 0), .int i] (fun r w1 => OK cI cB cZ cO ad w1 ∧ KX w w1 ∧ True) := by
  refine nk_i (own := "NoonShade") rfl (by decide) (Nat.le_of_ble_eq_true rfl) ?_
  intro p e s m below meth c ls X hD hN hr hlk h hl
  have hx := X.1.1
  have hb := X.1.2.1
  have hown := X.1.2.2.2.1
  have hts := X.1.2.2.2.2
  have hl : lv_has ls 4 [(0, .ref (ad 0)), (1, .int i)] := hl
  refine lv_aload_n hx hb dX8_when_0 rfl (lv_at hl 0 rfl) ?_
  obtain ⟨x2, x3, q4, q5, q6, f1⟩ := (show sN ad (w 0) from ok 0 (by decide))
  have f7 : w 0 = .inr (6, [.ref (ad 1), .ref (ad 14), .ref (ad 27), .ref (ad 54), .ref (ad 55), .ref (ad 58), .ref (ad 62), .long x2, .long x3, .int q4, .int q5, .int q6]) := f1
  refine r_get kc8 X h 0 0 (by decide) rfl f7 (by decide) kv_172 rfl dX8_when_1 ?_
  refine lv_iload_n hx hb dX8_when_4 rfl (lv_at hl 1 rfl) ?_
  obtain ⟨q12, q13, q14, q15, q16, f11, h17, h18, h19, h20⟩ := (show sI ad 1 (w 1) from ok 1 (by decide))
  have f21 : w 1 = .inr (1, [.int q12, .int q13, .int q14, .int q15, .int q16, .ref (ad 2), .ref (ad 3), .ref (ad 4), .ref (ad 5), .ref (ad 6), .ref (ad 7), .ref (ad 8), .ref (ad 10), .ref (ad 12)]) := f11
  refine n_Vi (na := 1) (As := [.int i]) (rest := []) X hD hN h rfl (c_hasCaster l G cI cB cZ cO ad w 1 (Or.inl rfl) ok i  ) ⟨kv_219, kv_220, kv_221, kv_37, kv_222⟩ rfl ⟨by decide, by decide, by decide⟩ ⟨Nat.le_of_ble_eq_true rfl, Nat.le_of_ble_eq_true rfl⟩ ⟨Nat.zero_le _, Nat.zero_le _⟩ (by decide) f21 rfl rfl hl.1 rfl (Nat.le_of_ble_eq_true rfl) dX8_when_5 (fun r8 w9 H locs hp10 h => ?_)
  obtain ⟨rfl, hr22⟩ := hp10
  rcases hr22 with ⟨hq23, hq24, rfl⟩ | rfl
  · refine lv_if_ne (tgt := 18) hx hb dX8_when_8 (by decide) (fun _ => ?_) (fun hc => absurd hc (by decide))
    refine lv_iconst (v := 0) hx hb dX8_when_18 (by decide) ?_
    refine lv_istore_n (lv' := [(2, .int 0), (0, .ref (ad 0)), (1, .int i)]) hx hb dX8_when_19 rfl hl (by decide) rfl (fun ls hl => ?_)
    refine lv_iconst (v := 1) hx hb dX8_when_20 (by decide) ?_
    refine lv_istore_n (lv' := [(3, .int 1), (2, .int 0), (0, .ref (ad 0)), (1, .int i)]) hx hb dX8_when_21 rfl hl (by decide) rfl (fun ls hl => ?_)
    have hloop28 : ∀ (d29 : Nat) (L25 : Int32) (L26 : Int32) (wL27 : Nat → va_E) (H : Heap) (locs : List Loc) (ls : Array Slot), 0 ≤ L26.toInt → L26.toInt ≤ 23 → 1 ≤ L25.toInt → L25.toInt ≤ 24 → OK cI cB cZ cO ad wL27 → KX w wL27 → 24 - L25.toInt < (d29 : Int) → St G 74 ad (wA 74 ad s.heap.size) s.heap wL27 H locs → lv_has ls 4 [(3, .int L25), (2, .int L26), (0, .ref (ad 0)), (1, .int i)] → W p l e { frames := 3, cells := 0, slots := 0, locals := 67 } s m [.ref (ad 0), .int i].toArray below meth c H locs 0 0 (MQ below (va_Qi (fun r w1 => OK cI cB cZ cO ad w1 ∧ KX w w1 ∧ True) (Aft G 74 ad) (wA 74 ad s.heap.size)) [.ref (ad 0), .int i].toArray s 0 0 (wA 74 ad s.heap.size)) (F0 m 22 ls []) := by
      intro d29
      induction d29 with
      | zero => intro L25 L26 wL27 H locs ls hi32 hi33 hi34 hi35 ok36 kx37 hm31 h hl; exfalso; omega
      | succ d29 ih30 =>
        intro L25 L26 wL27 H locs ls hi32 hi33 hi34 hi35 ok36 kx37 hm31 h hl
        refine lv_iload_n hx hb dX8_when_22 rfl (lv_at hl 0 rfl) ?_
        refine lv_bipush (v := 24) hx hb dX8_when_23 (by decide) ?_
        refine lv_icmp_ge (tgt := 57) hx hb dX8_when_25 (by decide) (fun hc39 => ?_) (fun hc39 => ?_)
        · have hc39 : 24 ≤ (L25).toInt := i_le hc39 rfl rfl
          refine lv_iload_n hx hb dX8_when_57 rfl (lv_at hl 1 rfl) ?_
          exact e_i X h hr hlk dX8_when_58 ⟨ok36, kx37, trivial⟩
        · have hc39 : ¬ 24 ≤ (L25).toInt := i_nle hc39 rfl rfl
          refine lv_aload_n hx hb dX8_when_28 rfl (lv_at hl 2 rfl) ?_
          obtain ⟨x41, x42, q43, q44, q45, f40⟩ := (show sN ad (wL27 0) from ok36 0 (by decide))
          have f46 : wL27 0 = .inr (6, [.ref (ad 1), .ref (ad 14), .ref (ad 27), .ref (ad 54), .ref (ad 55), .ref (ad 58), .ref (ad 62), .long x41, .long x42, .int q43, .int q44, .int q45]) := f40
          refine r_get kc8 X h 0 0 (by decide) rfl f46 (by decide) kv_172 rfl dX8_when_29 ?_
          refine lv_iload_n hx hb dX8_when_32 rfl (lv_at hl 3 rfl) ?_
          refine lv_iload_n hx hb dX8_when_33 rfl (lv_at hl 0 rfl) ?_
          obtain ⟨q51, q52, q53, q54, q55, f50, h56, h57, h58, h59⟩ := (show sI ad 1 (wL27 1) from ok36 1 (by decide))
          have f60 : wL27 1 = .inr (1, [.int q51, .int q52, .int q53, .int q54, .int q55, .ref (ad 2), .ref (ad 3), .ref (ad 4), .ref (ad 5), .ref (ad 6), .ref (ad 7), .ref (ad 8), .ref (ad 10), .ref (ad 12)]) := f50
          refine n_Vi (na := 2) (As := [.int i, .int L25]) (rest := []) X hD hN h rfl (c_givenBehind l G cI cB cZ cO ad wL27 1 (Or.inl rfl) ok36 i L25 (by omega) (by omega) ) ⟨kv_206, kv_40, kv_41, kv_37, kv_42⟩ rfl ⟨by decide, by decide, by decide⟩ ⟨Nat.le_of_ble_eq_true rfl, Nat.le_of_ble_eq_true rfl⟩ ⟨Nat.zero_le _, Nat.zero_le _⟩ (by decide) f60 rfl rfl hl.1 rfl (Nat.le_of_ble_eq_true rfl) dX8_when_34 (fun r47 w48 H locs hp49 h => ?_)
          obtain ⟨rfl, hr61⟩ := hp49
          obtain ⟨h62, h63⟩ := hr61
          refine lv_aload_n hx hb dX8_when_37 rfl (lv_at hl 2 rfl) ?_
          refine r_get kc8 X h 0 0 (by decide) rfl f46 (by decide) kv_172 rfl dX8_when_38 ?_
          refine lv_iload_n hx hb dX8_when_41 rfl (lv_at hl 3 rfl) ?_
          refine lv_iload_n hx hb dX8_when_42 rfl (lv_at hl 1 rfl) ?_
          refine n_Vi (na := 2) (As := [.int i, .int L26]) (rest := [.int r47]) X hD hN h rfl (c_givenBehind l G cI cB cZ cO ad wL27 1 (Or.inl rfl) ok36 i L26 (by omega) (by omega) ) ⟨kv_206, kv_40, kv_41, kv_37, kv_42⟩ rfl ⟨by decide, by decide, by decide⟩ ⟨Nat.le_of_ble_eq_true rfl, Nat.le_of_ble_eq_true rfl⟩ ⟨Nat.zero_le _, Nat.zero_le _⟩ (by decide) f60 rfl rfl hl.1 rfl (Nat.le_of_ble_eq_true rfl) dX8_when_43 (fun r64 w65 H locs hp66 h => ?_)
          obtain ⟨rfl, hr67⟩ := hp66
          obtain ⟨h68, h69⟩ := hr67
          refine lv_icmp_le (tgt := 51) hx hb dX8_when_46 (by decide) (fun hc70 => ?_) (fun hc70 => ?_)
          · have hc70 : (r47).toInt ≤ (r64).toInt := i_le hc70 rfl rfl
            obtain ⟨z71, e72, t73⟩ := x_add (x := L25) (y := 1) (a := L25.toInt) (b := 1) rfl rfl (by omega) (by omega)
            refine lv_iinc (v := z71) (lv' := [(3, .int z71), (2, .int L26), (0, .ref (ad 0)), (1, .int i)]) hx hb dX8_when_51 hl (k := 0) rfl e72 (by decide) rfl (fun ls hl => ?_)
            refine lv_goto (tgt := 22) hx hb dX8_when_54 (by decide) ?_
            exact ih30  z71 L26 wL27 _ _ _ (by omega) (by omega) (by omega) (by omega) ok36 kx37 (by omega) h (lv_sub hl [0, 1, 2, 3] rfl)
          · have hc70 : ¬ (r47).toInt ≤ (r64).toInt := i_nle hc70 rfl rfl
            refine lv_iload_n hx hb dX8_when_49 rfl (lv_at hl 0 rfl) ?_
            refine lv_istore_n (lv' := [(2, .int L25), (3, .int L25), (0, .ref (ad 0)), (1, .int i)]) hx hb dX8_when_50 rfl hl (by decide) rfl (fun ls hl => ?_)
            obtain ⟨z74, e75, t76⟩ := x_add (x := L25) (y := 1) (a := L25.toInt) (b := 1) rfl rfl (by omega) (by omega)
            refine lv_iinc (v := z74) (lv' := [(3, .int z74), (2, .int L25), (0, .ref (ad 0)), (1, .int i)]) hx hb dX8_when_51 hl (k := 1) rfl e75 (by decide) rfl (fun ls hl => ?_)
            refine lv_goto (tgt := 22) hx hb dX8_when_54 (by decide) ?_
            exact ih30  z74 L25 wL27 _ _ _ (by omega) (by omega) (by omega) (by omega) ok36 kx37 (by omega) h (lv_sub hl [0, 1, 2, 3] rfl)
    exact hloop28 24 (1 : Int32) (0 : Int32) w _ _ _ (by have q0 : (1 : Int32).toInt = 1 := rfl; have q1 : (0 : Int32).toInt = 0 := rfl; omega) (by have q0 : (1 : Int32).toInt = 1 := rfl; have q1 : (0 : Int32).toInt = 0 := rfl; omega) (by have q0 : (1 : Int32).toInt = 1 := rfl; have q1 : (0 : Int32).toInt = 0 := rfl; omega) (by have q0 : (1 : Int32).toInt = 1 := rfl; have q1 : (0 : Int32).toInt = 0 := rfl; omega) ok KX.rf (by have q0 : (1 : Int32).toInt = 1 := rfl; have q1 : (0 : Int32).toInt = 0 := rfl; omega) h (lv_sub hl [0, 1, 2, 3] rfl)
  · refine lv_if_ne (tgt := 18) hx hb dX8_when_8 (by decide) (fun hc => absurd (by decide) hc) (fun _ => ?_)
    refine lv_aload_n hx hb dX8_when_11 rfl (lv_at hl 0 rfl) ?_
    refine lv_bipush (v := (-2)) hx hb dX8_when_12 (by decide) ?_
    refine n_Vi (na := 1) (As := [.int (-2)]) (rest := []) X hD hN h rfl (c_refused l G cI cB cZ cO ad w  ok ((-2) : Int32)  ) ⟨kv_227, kv_228, kv_229, kv_212, kv_230⟩ rfl ⟨by decide, by decide, by decide⟩ ⟨Nat.le_of_ble_eq_true rfl, Nat.le_of_ble_eq_true rfl⟩ ⟨Nat.zero_le _, Nat.zero_le _⟩ (by decide) f7 rfl rfl hl.1 rfl (Nat.le_of_ble_eq_true rfl) dX8_when_14 (fun r77 w78 H locs hp79 h => ?_)
    obtain ⟨ok81, kk82, hr80⟩ := hp79
    have kx83 : KX w w78 := kk82
    subst hr80
    exact e_i X h hr hlk dX8_when_17 ⟨ok81, kx83, trivial⟩

set_option maxHeartbeats 4000000 in
set_option maxRecDepth 100000 in
theorem c_X_gone (l : Launch) (G : va_G) (cI cB cZ cO : ClassId) (ad : Nat → Nat) (w : Nat → va_E)  (ok : OK cI cB cZ cO ad w) (j : Int32)   : NI l G (tyq cI cB cZ cO) yX8_gone cX8_gone 4 (some .int) 2 47 74 ad w [.ref (ad 0), .int j] (fun r w1 => OK cI cB cZ cO ad w1 ∧ KX w w1 ∧ True) := by
  refine nk_i (own := "NoonShade") rfl (by decide) (Nat.le_of_ble_eq_true rfl) ?_
  intro p e s m below meth c ls X hD hN hr hlk h hl
  have hx := X.1.1
  have hb := X.1.2.1
  have hown := X.1.2.2.2.1
  have hts := X.1.2.2.2.2
  have hl : lv_has ls 4 [(0, .ref (ad 0)), (1, .int j)] := hl
  refine lv_aload_n hx hb dX8_gone_0 rfl (lv_at hl 0 rfl) ?_
  obtain ⟨x2, x3, q4, q5, q6, f1⟩ := (show sN ad (w 0) from ok 0 (by decide))
  have f7 : w 0 = .inr (6, [.ref (ad 1), .ref (ad 14), .ref (ad 27), .ref (ad 54), .ref (ad 55), .ref (ad 58), .ref (ad 62), .long x2, .long x3, .int q4, .int q5, .int q6]) := f1
  refine r_get kc8 X h 0 0 (by decide) rfl f7 (by decide) kv_172 rfl dX8_gone_1 ?_
  refine lv_iload_n hx hb dX8_gone_4 rfl (lv_at hl 1 rfl) ?_
  obtain ⟨q12, q13, q14, q15, q16, f11, h17, h18, h19, h20⟩ := (show sI ad 1 (w 1) from ok 1 (by decide))
  have f21 : w 1 = .inr (1, [.int q12, .int q13, .int q14, .int q15, .int q16, .ref (ad 2), .ref (ad 3), .ref (ad 4), .ref (ad 5), .ref (ad 6), .ref (ad 7), .ref (ad 8), .ref (ad 10), .ref (ad 12)]) := f11
  refine n_Vi (na := 1) (As := [.int j]) (rest := []) X hD hN h rfl (c_hasJar l G cI cB cZ cO ad w 1 (Or.inl rfl) ok j  ) ⟨kv_223, kv_224, kv_225, kv_37, kv_226⟩ rfl ⟨by decide, by decide, by decide⟩ ⟨Nat.le_of_ble_eq_true rfl, Nat.le_of_ble_eq_true rfl⟩ ⟨Nat.zero_le _, Nat.zero_le _⟩ (by decide) f21 rfl rfl hl.1 rfl (Nat.le_of_ble_eq_true rfl) dX8_gone_5 (fun r8 w9 H locs hp10 h => ?_)
  obtain ⟨rfl, hr22⟩ := hp10
  rcases hr22 with ⟨hq23, hq24, rfl⟩ | rfl
  · refine lv_if_ne (tgt := 18) hx hb dX8_gone_8 (by decide) (fun _ => ?_) (fun hc => absurd hc (by decide))
    refine lv_aload_n hx hb dX8_gone_18 rfl (lv_at hl 0 rfl) ?_
    refine r_get kc8 X h 0 0 (by decide) rfl f7 (by decide) kv_172 rfl dX8_gone_19 ?_
    refine r_get kc2 X h 1 9 (by decide) rfl f21 (by decide) kv_193 rfl dX8_gone_22 ?_
    refine lv_iload_n hx hb dX8_gone_25 rfl (lv_at hl 1 rfl) ?_
    obtain ⟨g26, f25, p27⟩ := (show sA cI 4 (rgA 0 60) (w 6) from ok 6 (by decide))
    have f28 : w 6 = .inl (cI, 4, .inl g26) := f25
    obtain ⟨v29, e30⟩ : ∃ z : Int32, g26 (j).toNatClampNeg = z := ⟨_, rfl⟩
    have h31 := rgA_rd p27 e30
    refine o_iald (v := v29) X h 6 0 (by decide) rfl f28 rfl (in_of (by omega) (by omega)) e30 dX8_gone_26 ?_
    refine lv_istore_n (lv' := [(2, .int v29), (0, .ref (ad 0)), (1, .int j)]) hx hb dX8_gone_27 rfl hl (by decide) rfl (fun ls hl => ?_)
    refine lv_iconst (v := 0) hx hb dX8_gone_28 (by decide) ?_
    refine lv_istore_n (lv' := [(3, .int 0), (2, .int v29), (0, .ref (ad 0)), (1, .int j)]) hx hb dX8_gone_29 rfl hl (by decide) rfl (fun ls hl => ?_)
    have hloop35 : ∀ (d36 : Nat) (L32 : Int32) (L33 : Int32) (wL34 : Nat → va_E) (H : Heap) (locs : List Loc) (ls : Array Slot), 0 ≤ L33.toInt → L33.toInt ≤ 60 → 0 ≤ L32.toInt → L32.toInt ≤ 61 → OK cI cB cZ cO ad wL34 → KX w wL34 → 61 - L32.toInt < (d36 : Int) → St G 74 ad (wA 74 ad s.heap.size) s.heap wL34 H locs → lv_has ls 4 [(3, .int L32), (2, .int L33), (0, .ref (ad 0)), (1, .int j)] → W p l e { frames := 2, cells := 0, slots := 0, locals := 47 } s m [.ref (ad 0), .int j].toArray below meth c H locs 0 0 (MQ below (va_Qi (fun r w1 => OK cI cB cZ cO ad w1 ∧ KX w w1 ∧ True) (Aft G 74 ad) (wA 74 ad s.heap.size)) [.ref (ad 0), .int j].toArray s 0 0 (wA 74 ad s.heap.size)) (F0 m 30 ls []) := by
      intro d36
      induction d36 with
      | zero => intro L32 L33 wL34 H locs ls hi39 hi40 hi41 hi42 ok43 kx44 hm38 h hl; exfalso; omega
      | succ d36 ih37 =>
        intro L32 L33 wL34 H locs ls hi39 hi40 hi41 hi42 ok43 kx44 hm38 h hl
        refine lv_iload_n hx hb dX8_gone_30 rfl (lv_at hl 0 rfl) ?_
        refine lv_bipush (v := 60) hx hb dX8_gone_31 (by decide) ?_
        refine lv_icmp_gt (tgt := 71) hx hb dX8_gone_33 (by decide) (fun hc46 => ?_) (fun hc46 => ?_)
        · have hc46 : 60 < (L32).toInt := i_lt hc46 rfl rfl
          refine lv_iconst (v := (-1)) hx hb dX8_gone_71 (by decide) ?_
          exact e_i X h hr hlk dX8_gone_72 ⟨ok43, kx44, trivial⟩
        · have hc46 : ¬ 60 < (L32).toInt := i_nlt hc46 rfl rfl
          refine lv_iload_n hx hb dX8_gone_36 rfl (lv_at hl 1 rfl) ?_
          refine lv_if_ne (tgt := 42) hx hb dX8_gone_37 (by decide) (fun hc47 => ?_) (fun hc47 => ?_)
          · have hc47 : ¬ (L33).toInt = 0 := i_ne hc47 rfl rfl
            refine lv_aload_n hx hb dX8_gone_42 rfl (lv_at hl 2 rfl) ?_
            obtain ⟨x49, x50, q51, q52, q53, f48⟩ := (show sN ad (wL34 0) from ok43 0 (by decide))
            have f54 : wL34 0 = .inr (6, [.ref (ad 1), .ref (ad 14), .ref (ad 27), .ref (ad 54), .ref (ad 55), .ref (ad 58), .ref (ad 62), .long x49, .long x50, .int q51, .int q52, .int q53]) := f48
            refine r_get kc8 X h 0 0 (by decide) rfl f54 (by decide) kv_172 rfl dX8_gone_43 ?_
            obtain ⟨q56, q57, q58, q59, q60, f55, h61, h62, h63, h64⟩ := (show sI ad 1 (wL34 1) from ok43 1 (by decide))
            have f65 : wL34 1 = .inr (1, [.int q56, .int q57, .int q58, .int q59, .int q60, .ref (ad 2), .ref (ad 3), .ref (ad 4), .ref (ad 5), .ref (ad 6), .ref (ad 7), .ref (ad 8), .ref (ad 10), .ref (ad 12)]) := f55
            refine r_get kc2 X h 1 8 (by decide) rfl f65 (by decide) kv_204 rfl dX8_gone_46 ?_
            refine lv_iload_n hx hb dX8_gone_49 rfl (lv_at hl 3 rfl) ?_
            obtain ⟨g67, f66, p68⟩ := (show sA cI 4 (anyA) (wL34 5) from ok43 5 (by decide))
            have f69 : wL34 5 = .inl (cI, 4, .inl g67) := f66
            obtain ⟨v70, e71⟩ : ∃ z : Int32, g67 (j).toNatClampNeg = z := ⟨_, rfl⟩
            refine o_iald (v := v70) X h 5 0 (by decide) rfl f69 rfl (in_of (by omega) (by omega)) e71 dX8_gone_50 ?_
            refine lv_iload_n hx hb dX8_gone_51 rfl (lv_at hl 1 rfl) ?_
            refine lv_aload_n hx hb dX8_gone_52 rfl (lv_at hl 2 rfl) ?_
            refine r_get kc8 X h 0 0 (by decide) rfl f54 (by decide) kv_172 rfl dX8_gone_53 ?_
            refine r_get kc2 X h 1 0 (by decide) rfl f65 (by decide) kv_179 rfl dX8_gone_56 ?_
            refine lv_iload_n hx hb dX8_gone_59 rfl (lv_at hl 0 rfl) ?_
            obtain ⟨z75, e73⟩ : ∃ z : Int32, q56 + L32 = z := ⟨_, rfl⟩
            refine o_iadd (z := z75) hx hb dX8_gone_60 e73 ?_
            refine n_Si (na := 3) (As := [.int v70, .int L33, .int z75]) (rest := []) X hD hN h (c_kept l G cI cB cZ cO ad wL34   v70 L33 z75 (by omega) (by omega) ) ⟨kv_264, kv_15, kv_9, kv_16⟩ ⟨by decide, by decide, by decide⟩ ⟨Nat.le_of_ble_eq_true rfl, Nat.le_of_ble_eq_true rfl⟩ ⟨Nat.zero_le _, Nat.zero_le _⟩ rfl hl.1 rfl (Nat.le_of_ble_eq_true rfl) dX8_gone_61 (fun r76 w77 H locs hp78 h => ?_)
            obtain ⟨rfl, hr79⟩ := hp78
            obtain ⟨h80, h81⟩ := hr79
            refine lv_istore_n (lv' := [(2, .int r76), (3, .int L32), (0, .ref (ad 0)), (1, .int j)]) hx hb dX8_gone_64 rfl hl (by decide) rfl (fun ls hl => ?_)
            obtain ⟨z82, e83, t84⟩ := x_add (x := L32) (y := 1) (a := L32.toInt) (b := 1) rfl rfl (by omega) (by omega)
            refine lv_iinc (v := z82) (lv' := [(3, .int z82), (2, .int r76), (0, .ref (ad 0)), (1, .int j)]) hx hb dX8_gone_65 hl (k := 1) rfl e83 (by decide) rfl (fun ls hl => ?_)
            refine lv_goto (tgt := 30) hx hb dX8_gone_68 (by decide) ?_
            exact ih37  z82 r76 wL34 _ _ _ (by omega) (by omega) (by omega) (by omega) ok43 kx44 (by omega) h (lv_sub hl [0, 1, 2, 3] rfl)
          · have hc47 : (L33).toInt = 0 := i_eq hc47 rfl rfl
            refine lv_iload_n hx hb dX8_gone_40 rfl (lv_at hl 0 rfl) ?_
            exact e_i X h hr hlk dX8_gone_41 ⟨ok43, kx44, trivial⟩
    exact hloop35 62 (0 : Int32) v29 w _ _ _ (by have q0 : (0 : Int32).toInt = 0 := rfl; omega) (by have q0 : (0 : Int32).toInt = 0 := rfl; omega) (by have q0 : (0 : Int32).toInt = 0 := rfl; omega) (by have q0 : (0 : Int32).toInt = 0 := rfl; omega) ok KX.rf (by have q0 : (0 : Int32).toInt = 0 := rfl; omega) h (lv_sub hl [0, 1, 2, 3] rfl)
  · refine lv_if_ne (tgt := 18) hx hb dX8_gone_8 (by decide) (fun hc => absurd (by decide) hc) (fun _ => ?_)
    refine lv_aload_n hx hb dX8_gone_11 rfl (lv_at hl 0 rfl) ?_
    refine lv_bipush (v := (-2)) hx hb dX8_gone_12 (by decide) ?_
    refine n_Vi (na := 1) (As := [.int (-2)]) (rest := []) X hD hN h rfl (c_refused l G cI cB cZ cO ad w  ok ((-2) : Int32)  ) ⟨kv_227, kv_228, kv_229, kv_212, kv_230⟩ rfl ⟨by decide, by decide, by decide⟩ ⟨Nat.le_of_ble_eq_true rfl, Nat.le_of_ble_eq_true rfl⟩ ⟨Nat.zero_le _, Nat.zero_le _⟩ (by decide) f7 rfl rfl hl.1 rfl (Nat.le_of_ble_eq_true rfl) dX8_gone_14 (fun r85 w86 H locs hp87 h => ?_)
    obtain ⟨ok89, kk90, hr88⟩ := hp87
    have kx91 : KX w w86 := kk90
    subst hr88
    exact e_i X h hr hlk dX8_gone_17 ⟨ok89, kx91, trivial⟩
