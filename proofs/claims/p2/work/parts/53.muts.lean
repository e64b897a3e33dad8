set_option maxHeartbeats 4000000 in
set_option maxRecDepth 100000 in
theorem c_X_island (l : Launch) (G : va_G) (cI cB cZ cO : ClassId) (ad : Nat → Nat) (w : Nat → va_E)  (ok : OK cI cB cZ cO ad w) (t : Int32)   : NI l G (tyq cI cB cZ cO) yX8_island cX8_island 3 (some .int) 2 42 74 ad w [.ref (ad 0), .int t] (fun r w1 => OK cI cB cZ cO ad w1 ∧ KT w w1 ∧ True) := by
  refine nk_i (own := "NoonShade") rfl (by decide) (Nat.le_of_ble_eq_true rfl) ?_
  intro p e s m below meth c ls X hD hN hr hlk h hl
  have hx := X.1.1
  have hb := X.1.2.1
  have hown := X.1.2.2.2.1
  have hts := X.1.2.2.2.2
  have hl : lv_has ls 3 [(0, .ref (ad 0)), (1, .int t)] := hl
  refine lv_iload_n hx hb dX8_island_0 rfl (lv_at hl 1 rfl) ?_
  refine lv_iconst (v := 0) hx hb dX8_island_1 (by decide) ?_
  refine lv_bipush (v := 99) hx hb dX8_island_2 (by decide) ?_
  refine n_Si (na := 3) (As := [.int t, .int 0, .int 99]) (rest := []) X hD hN h (c_within l G cI cB cZ cO ad w t (0 : Int32) (99 : Int32) ((t).toInt) 0 99 rfl rfl rfl) ⟨kv_247, kv_248, kv_212, kv_249⟩ ⟨by decide, by decide, by decide⟩ ⟨Nat.le_of_ble_eq_true rfl, Nat.le_of_ble_eq_true rfl⟩ ⟨Nat.zero_le _, Nat.zero_le _⟩ rfl hl.1 rfl (Nat.le_of_ble_eq_true rfl) dX8_island_4 (fun r1 w2 H locs hp3 h => ?_)
  obtain ⟨rfl, hq4⟩ := hp3
  rcases hq4 with ⟨hq5, hq6, rfl⟩ | ⟨hq4, rfl⟩
  · refine lv_if_ne (tgt := 17) hx hb dX8_island_7 (by decide) (fun _ => ?_) (fun hc => absurd hc (by decide))
    refine lv_aload_n hx hb dX8_island_17 rfl (lv_at hl 0 rfl) ?_
    obtain ⟨x8, x9, q10, q11, q12, f7⟩ := (show sN ad (w 0) from ok 0 (by decide))
    have f13 : w 0 = .inr (6, [.ref (ad 1), .ref (ad 14), .ref (ad 27), .ref (ad 54), .ref (ad 55), .ref (ad 58), .ref (ad 62), .long x8, .long x9, .int q10, .int q11, .int q12]) := f7
    refine r_get kc8 X h 0 0 (by decide) rfl f13 (by decide) kv_172 rfl dX8_island_18 ?_
    obtain ⟨q15, q16, q17, q18, q19, f14, h20, h21, h22, h23⟩ := (show sI ad 1 (w 1) from ok 1 (by decide))
    have f24 : w 1 = .inr (1, [.int q15, .int q16, .int q17, .int q18, .int q19, .ref (ad 2), .ref (ad 3), .ref (ad 4), .ref (ad 5), .ref (ad 6), .ref (ad 7), .ref (ad 8), .ref (ad 10), .ref (ad 12)]) := f14
    refine r_get kc2 X h 1 3 (by decide) rfl f24 (by decide) kv_173 rfl dX8_island_21 ?_
    refine lv_istore_n (lv' := [(2, .int q18), (0, .ref (ad 0)), (1, .int t)]) hx hb dX8_island_24 rfl hl (by decide) rfl (fun ls hl => ?_)
    refine lv_aload_n hx hb dX8_island_25 rfl (lv_at hl 1 rfl) ?_
    refine r_get kc8 X h 0 0 (by decide) rfl f13 (by decide) kv_172 rfl dX8_island_26 ?_
    refine lv_iload_n hx hb dX8_island_29 rfl (lv_at hl 2 rfl) ?_
    refine n_Vv (na := 1) (As := [.int t]) (rest := []) X hD hN h rfl (c_begin l G cI cB cZ cO ad w 1 (Or.inl rfl) ok t  ) ⟨kv_331, kv_332, kv_333, kv_37, kv_334⟩ rfl ⟨by decide, by decide, by decide⟩ ⟨Nat.le_of_ble_eq_true rfl, Nat.le_of_ble_eq_true rfl⟩ ⟨Nat.zero_le _, Nat.zero_le _⟩ (by decide) f24 rfl rfl hl.1 rfl (Nat.le_of_ble_eq_true rfl) dX8_island_30 (fun w26 H locs hp27 h => ?_)
    obtain ⟨ok29, kk30, hr28⟩ := hp27
    have kx31 : KT w w26 := (FR.t (Or.inl rfl) kk30)
    refine lv_iload_n hx hb dX8_island_33 rfl (lv_at hl 0 rfl) ?_
    exact e_i X h hr hlk dX8_island_34 ⟨ok29, kx31, trivial⟩
  · refine lv_if_ne (tgt := 17) hx hb dX8_island_7 (by decide) (fun hc => absurd (by decide) hc) (fun _ => ?_)
    refine lv_aload_n hx hb dX8_island_10 rfl (lv_at hl 0 rfl) ?_
    refine lv_bipush (v := (-2)) hx hb dX8_island_11 (by decide) ?_
    obtain ⟨x36, x37, q38, q39, q40, f35⟩ := (show sN ad (w 0) from ok 0 (by decide))
    have f41 : w 0 = .inr (6, [.ref (ad 1), .ref (ad 14), .ref (ad 27), .ref (ad 54), .ref (ad 55), .ref (ad 58), .ref (ad 62), .long x36, .long x37, .int q38, .int q39, .int q40]) := f35
    refine n_Vi (na := 1) (As := [.int (-2)]) (rest := []) X hD hN h rfl (c_refused l G cI cB cZ cO ad w  ok ((-2) : Int32)  ) ⟨kv_227, kv_228, kv_229, kv_212, kv_230⟩ rfl ⟨by decide, by decide, by decide⟩ ⟨Nat.le_of_ble_eq_true rfl, Nat.le_of_ble_eq_true rfl⟩ ⟨Nat.zero_le _, Nat.zero_le _⟩ (by decide) f41 rfl rfl hl.1 rfl (Nat.le_of_ble_eq_true rfl) dX8_island_13 (fun r32 w33 H locs hp34 h => ?_)
    obtain ⟨ok43, kk44, hr42⟩ := hp34
    have kx45 : KT w w33 := kk44.t
    subst hr42
    exact e_i X h hr hlk dX8_island_16 ⟨ok43, kx45, trivial⟩

set_option maxHeartbeats 4000000 in
set_option maxRecDepth 100000 in
theorem c_X_caster (l : Launch) (G : va_G) (cI cB cZ cO : ClassId) (ad : Nat → Nat) (w : Nat → va_E)  (ok : OK cI cB cZ cO ad w) (k : Int32) (q : Int32) (t : Int32)   : NI l G (tyq cI cB cZ cO) yX8_caster cX8_caster 4 (some .int) 1 23 74 ad w [.ref (ad 0), .int k, .int q, .int t] (fun r w1 => OK cI cB cZ cO ad w1 ∧ KT w w1 ∧ True) := by
  refine nk_i (own := "NoonShade") rfl (by decide) (Nat.le_of_ble_eq_true rfl) ?_
  intro p e s m below meth c ls X hD hN hr hlk h hl
  have hx := X.1.1
  have hb := X.1.2.1
  have hown := X.1.2.2.2.1
  have hts := X.1.2.2.2.2
  have hl : lv_has ls 4 [(0, .ref (ad 0)), (1, .int k), (2, .int q), (3, .int t)] := hl
  refine lv_iload_n hx hb dX8_caster_0 rfl (lv_at hl 1 rfl) ?_
  refine lv_iconst (v := 0) hx hb dX8_caster_1 (by decide) ?_
  refine lv_iconst (v := 5) hx hb dX8_caster_2 (by decide) ?_
  refine n_Si (na := 3) (As := [.int k, .int 0, .int 5]) (rest := []) X hD hN h (c_within l G cI cB cZ cO ad w k (0 : Int32) (5 : Int32) ((k).toInt) 0 5 rfl rfl rfl) ⟨kv_247, kv_248, kv_212, kv_249⟩ ⟨by decide, by decide, by decide⟩ ⟨Nat.le_of_ble_eq_true rfl, Nat.le_of_ble_eq_true rfl⟩ ⟨Nat.zero_le _, Nat.zero_le _⟩ rfl hl.1 rfl (Nat.le_of_ble_eq_true rfl) dX8_caster_3 (fun r1 w2 H locs hp3 h => ?_)
  obtain ⟨rfl, hq4⟩ := hp3
  rcases hq4 with ⟨hq5, hq6, rfl⟩ | ⟨hq4, rfl⟩
  · refine lv_if_eq (tgt := 28) hx hb dX8_caster_6 (by decide) (fun hc => absurd hc (by decide)) (fun _ => ?_)
    refine lv_iload_n hx hb dX8_caster_9 rfl (lv_at hl 2 rfl) ?_
    refine lv_iconst (v := 1) hx hb dX8_caster_10 (by decide) ?_
    refine lv_bipush (v := 9) hx hb dX8_caster_11 (by decide) ?_
    refine n_Si (na := 3) (As := [.int q, .int 1, .int 9]) (rest := []) X hD hN h (c_within l G cI cB cZ cO ad w q (1 : Int32) (9 : Int32) ((q).toInt) 1 9 rfl rfl rfl) ⟨kv_247, kv_248, kv_212, kv_249⟩ ⟨by decide, by decide, by decide⟩ ⟨Nat.le_of_ble_eq_true rfl, Nat.le_of_ble_eq_true rfl⟩ ⟨Nat.zero_le _, Nat.zero_le _⟩ rfl hl.1 rfl (Nat.le_of_ble_eq_true rfl) dX8_caster_13 (fun r7 w8 H locs hp9 h => ?_)
    obtain ⟨rfl, hq10⟩ := hp9
    rcases hq10 with ⟨hq11, hq12, rfl⟩ | ⟨hq10, rfl⟩
    · refine lv_if_eq (tgt := 28) hx hb dX8_caster_16 (by decide) (fun hc => absurd hc (by decide)) (fun _ => ?_)
      refine lv_iload_n hx hb dX8_caster_19 rfl (lv_at hl 3 rfl) ?_
      refine lv_iconst (v := 0) hx hb dX8_caster_20 (by decide) ?_
      refine lv_iconst (v := 3) hx hb dX8_caster_21 (by decide) ?_
      refine n_Si (na := 3) (As := [.int t, .int 0, .int 3]) (rest := []) X hD hN h (c_within l G cI cB cZ cO ad w t (0 : Int32) (3 : Int32) ((t).toInt) 0 3 rfl rfl rfl) ⟨kv_247, kv_248, kv_212, kv_249⟩ ⟨by decide, by decide, by decide⟩ ⟨Nat.le_of_ble_eq_true rfl, Nat.le_of_ble_eq_true rfl⟩ ⟨Nat.zero_le _, Nat.zero_le _⟩ rfl hl.1 rfl (Nat.le_of_ble_eq_true rfl) dX8_caster_22 (fun r13 w14 H locs hp15 h => ?_)
      obtain ⟨rfl, hq16⟩ := hp15
      rcases hq16 with ⟨hq17, hq18, rfl⟩ | ⟨hq16, rfl⟩
      · refine lv_if_ne (tgt := 35) hx hb dX8_caster_25 (by decide) (fun _ => ?_) (fun hc => absurd hc (by decide))
        refine lv_aload_n hx hb dX8_caster_35 rfl (lv_at hl 0 rfl) ?_
        obtain ⟨x20, x21, q22, q23, q24, f19⟩ := (show sN ad (w 0) from ok 0 (by decide))
        have f25 : w 0 = .inr (6, [.ref (ad 1), .ref (ad 14), .ref (ad 27), .ref (ad 54), .ref (ad 55), .ref (ad 58), .ref (ad 62), .long x20, .long x21, .int q22, .int q23, .int q24]) := f19
        refine r_get kc8 X h 0 0 (by decide) rfl f25 (by decide) kv_172 rfl dX8_caster_36 ?_
        obtain ⟨q27, q28, q29, q30, q31, f26, h32, h33, h34, h35⟩ := (show sI ad 1 (w 1) from ok 1 (by decide))
        have f36 : w 1 = .inr (1, [.int q27, .int q28, .int q29, .int q30, .int q31, .ref (ad 2), .ref (ad 3), .ref (ad 4), .ref (ad 5), .ref (ad 6), .ref (ad 7), .ref (ad 8), .ref (ad 10), .ref (ad 12)]) := f26
        refine r_get kc2 X h 1 3 (by decide) rfl f36 (by decide) kv_173 rfl dX8_caster_39 ?_
        refine lv_bipush (v := 7) hx hb dX8_caster_42 (by decide) ?_
        refine lv_icmp_lt (tgt := 54) hx hb dX8_caster_44 (by decide) (fun hc37 => ?_) (fun hc37 => ?_)
        · have hc37 : (q30).toInt < 7 := i_lt hc37 rfl rfl
          refine lv_aload_n hx hb dX8_caster_54 rfl (lv_at hl 0 rfl) ?_
          refine r_get kc8 X h 0 0 (by decide) rfl f25 (by decide) kv_172 rfl dX8_caster_55 ?_
          refine r_get kc2 X h 1 13 (by decide) rfl f36 (by decide) kv_189 rfl dX8_caster_58 ?_
          obtain ⟨z39, f38, h40, h41⟩ := (show sR ad 2 13 8 (w 12) from ok 12 (by decide))
          have f42 : w 12 = .inr (2, [.ref (ad 13), .int z39]) := f38
          refine n_Vv (na := 0) (As := []) (rest := []) X hD hN h rfl (c_P_empty l G cI cB cZ cO ad w 12 _ _ (by decide) f42) ⟨kv_335, kv_69, kv_70, kv_71, kv_72⟩ rfl ⟨by decide, by decide, by decide⟩ ⟨Nat.le_of_ble_eq_true rfl, Nat.le_of_ble_eq_true rfl⟩ ⟨Nat.zero_le _, Nat.zero_le _⟩ (by decide) f42 rfl rfl hl.1 rfl (Nat.le_of_ble_eq_true rfl) dX8_caster_61 (fun w44 H locs hp45 h => ?_)
          have e46 := hp45
          have f47 : w44 12 = .inr (2, [.ref (ad 13), .int 0]) := (congrFun e46 _).trans (va_up_self _ _ _)
          have ok48 : OK cI cB cZ cO ad w44 := OK.up ok e46 (sR_mk (by decide) (by decide))
          have kx49 : KT w w44 := KT.up KT.rf e46 f42 rfl
          refine lv_aload_n hx hb dX8_caster_64 rfl (lv_at hl 0 rfl) ?_
          have f50 : w44 0 = .inr (6, [.ref (ad 1), .ref (ad 14), .ref (ad 27), .ref (ad 54), .ref (ad 55), .ref (ad 58), .ref (ad 62), .long x20, .long x21, .int q22, .int q23, .int q24]) := by rw [e46, va_up_ne _ _ (by decide)]; exact f25
          refine r_get kc8 X h 0 0 (by decide) rfl f50 (by decide) kv_172 rfl dX8_caster_65 ?_
          refine lv_iload_n hx hb dX8_caster_68 rfl (lv_at hl 1 rfl) ?_
          refine lv_iload_n hx hb dX8_caster_69 rfl (lv_at hl 2 rfl) ?_
          refine lv_iload_n hx hb dX8_caster_70 rfl (lv_at hl 3 rfl) ?_
          have f54 : w44 1 = .inr (1, [.int q27, .int q28, .int q29, .int q30, .int q31, .ref (ad 2), .ref (ad 3), .ref (ad 4), .ref (ad 5), .ref (ad 6), .ref (ad 7), .ref (ad 8), .ref (ad 10), .ref (ad 12)]) := by rw [e46, va_up_ne _ _ (by decide)]; exact f36
          refine n_Vi (na := 3) (As := [.int k, .int q, .int t]) (rest := []) X hD hN h rfl (c_addCaster l G cI cB cZ cO ad w44 1 (Or.inl rfl) ok48 k q t (by omega) (by omega) ) ⟨kv_336, kv_337, kv_338, kv_37, kv_339⟩ rfl ⟨by decide, by decide, by decide⟩ ⟨Nat.le_of_ble_eq_true rfl, Nat.le_of_ble_eq_true rfl⟩ ⟨Nat.zero_le _, Nat.zero_le _⟩ (by decide) f54 rfl rfl hl.1 rfl (Nat.le_of_ble_eq_true rfl) dX8_caster_71 (fun r51 w52 H locs hp53 h => ?_)
          obtain ⟨ok56, kk57, hr55⟩ := hp53
          have kx58 : KT w w52 := KT.tr kx49 (FR.t (Or.inl rfl) kk57)
          exact e_i X h hr hlk dX8_caster_74 ⟨ok56, kx58, trivial⟩
        · have hc37 : ¬ (q30).toInt < 7 := i_nlt hc37 rfl rfl
          refine lv_aload_n hx hb dX8_caster_47 rfl (lv_at hl 0 rfl) ?_
          refine lv_bipush (v := (-4)) hx hb dX8_caster_48 (by decide) ?_
          refine n_Vi (na := 1) (As := [.int (-4)]) (rest := []) X hD hN h rfl (c_refused l G cI cB cZ cO ad w  ok ((-4) : Int32)  ) ⟨kv_227, kv_228, kv_229, kv_212, kv_230⟩ rfl ⟨by decide, by decide, by decide⟩ ⟨Nat.le_of_ble_eq_true rfl, Nat.le_of_ble_eq_true rfl⟩ ⟨Nat.zero_le _, Nat.zero_le _⟩ (by decide) f25 rfl rfl hl.1 rfl (Nat.le_of_ble_eq_true rfl) dX8_caster_50 (fun r59 w60 H locs hp61 h => ?_)
          obtain ⟨ok63, kk64, hr62⟩ := hp61
          have kx65 : KT w w60 := kk64.t
          subst hr62
          exact e_i X h hr hlk dX8_caster_53 ⟨ok63, kx65, trivial⟩
      · refine lv_if_ne (tgt := 35) hx hb dX8_caster_25 (by decide) (fun hc => absurd (by decide) hc) (fun _ => ?_)
        refine lv_aload_n hx hb dX8_caster_28 rfl (lv_at hl 0 rfl) ?_
        refine lv_bipush (v := (-2)) hx hb dX8_caster_29 (by decide) ?_
        obtain ⟨x70, x71, q72, q73, q74, f69⟩ := (show sN ad (w 0) from ok 0 (by decide))
        have f75 : w 0 = .inr (6, [.ref (ad 1), .ref (ad 14), .ref (ad 27), .ref (ad 54), .ref (ad 55), .ref (ad 58), .ref (ad 62), .long x70, .long x71, .int q72, .int q73, .int q74]) := f69
        refine n_Vi (na := 1) (As := [.int (-2)]) (rest := []) X hD hN h rfl (c_refused l G cI cB cZ cO ad w  ok ((-2) : Int32)  ) ⟨kv_227, kv_228, kv_229, kv_212, kv_230⟩ rfl ⟨by decide, by decide, by decide⟩ ⟨Nat.le_of_ble_eq_true rfl, Nat.le_of_ble_eq_true rfl⟩ ⟨Nat.zero_le _, Nat.zero_le _⟩ (by decide) f75 rfl rfl hl.1 rfl (Nat.le_of_ble_eq_true rfl) dX8_caster_31 (fun r66 w67 H locs hp68 h => ?_)
        obtain ⟨ok77, kk78, hr76⟩ := hp68
        have kx79 : KT w w67 := kk78.t
        subst hr76
        exact e_i X h hr hlk dX8_caster_34 ⟨ok77, kx79, trivial⟩
    · refine lv_if_eq (tgt := 28) hx hb dX8_caster_16 (by decide) (fun _ => ?_) (fun hc => absurd (by decide) hc)
      refine lv_aload_n hx hb dX8_caster_28 rfl (lv_at hl 0 rfl) ?_
      refine lv_bipush (v := (-2)) hx hb dX8_caster_29 (by decide) ?_
      obtain ⟨x84, x85, q86, q87, q88, f83⟩ := (show sN ad (w 0) from ok 0 (by decide))
      have f89 : w 0 = .inr (6, [.ref (ad 1), .ref (ad 14), .ref (ad 27), .ref (ad 54), .ref (ad 55), .ref (ad 58), .ref (ad 62), .long x84, .long x85, .int q86, .int q87, .int q88]) := f83
      refine n_Vi (na := 1) (As := [.int (-2)]) (rest := []) X hD hN h rfl (c_refused l G cI cB cZ cO ad w  ok ((-2) : Int32)  ) ⟨kv_227, kv_228, kv_229, kv_212, kv_230⟩ rfl ⟨by decide, by decide, by decide⟩ ⟨Nat.le_of_ble_eq_true rfl, Nat.le_of_ble_eq_true rfl⟩ ⟨Nat.zero_le _, Nat.zero_le _⟩ (by decide) f89 rfl rfl hl.1 rfl (Nat.le_of_ble_eq_true rfl) dX8_caster_31 (fun r80 w81 H locs hp82 h => ?_)
      obtain ⟨ok91, kk92, hr90⟩ := hp82
      have kx93 : KT w w81 := kk92.t
      subst hr90
      exact e_i X h hr hlk dX8_caster_34 ⟨ok91, kx93, trivial⟩
  · refine lv_if_eq (tgt := 28) hx hb dX8_caster_6 (by decide) (fun _ => ?_) (fun hc => absurd (by decide) hc)
    refine lv_aload_n hx hb dX8_caster_28 rfl (lv_at hl 0 rfl) ?_
    refine lv_bipush (v := (-2)) hx hb dX8_caster_29 (by decide) ?_
    obtain ⟨x98, x99, q100, q101, q102, f97⟩ := (show sN ad (w 0) from ok 0 (by decide))
    have f103 : w 0 = .inr (6, [.ref (ad 1), .ref (ad 14), .ref (ad 27), .ref (ad 54), .ref (ad 55), .ref (ad 58), .ref (ad 62), .long x98, .long x99, .int q100, .int q101, .int q102]) := f97
    refine n_Vi (na := 1) (As := [.int (-2)]) (rest := []) X hD hN h rfl (c_refused l G cI cB cZ cO ad w  ok ((-2) : Int32)  ) ⟨kv_227, kv_228, kv_229, kv_212, kv_230⟩ rfl ⟨by decide, by decide, by decide⟩ ⟨Nat.le_of_ble_eq_true rfl, Nat.le_of_ble_eq_true rfl⟩ ⟨Nat.zero_le _, Nat.zero_le _⟩ (by decide) f103 rfl rfl hl.1 rfl (Nat.le_of_ble_eq_true rfl) dX8_caster_31 (fun r94 w95 H locs hp96 h => ?_)
    obtain ⟨ok105, kk106, hr104⟩ := hp96
    have kx107 : KT w w95 := kk106.t
    subst hr104
    exact e_i X h hr hlk dX8_caster_34 ⟨ok105, kx107, trivial⟩

set_option maxHeartbeats 4000000 in
set_option maxRecDepth 100000 in
theorem c_X_jar (l : Launch) (G : va_G) (cI cB cZ cO : ClassId) (ad : Nat → Nat) (w : Nat → va_E)  (ok : OK cI cB cZ cO ad w) (k : Int32)   : NI l G (tyq cI cB cZ cO) yX8_jar cX8_jar 2 (some .int) 1 22 74 ad w [.ref (ad 0), .int k] (fun r w1 => OK cI cB cZ cO ad w1 ∧ KT w w1 ∧ True) := by
  refine nk_i (own := "NoonShade") rfl (by decide) (Nat.le_of_ble_eq_true rfl) ?_
  intro p e s m below meth c ls X hD hN hr hlk h hl
  have hx := X.1.1
  have hb := X.1.2.1
  have hown := X.1.2.2.2.1
  have hts := X.1.2.2.2.2
  have hl : lv_has ls 2 [(0, .ref (ad 0)), (1, .int k)] := hl
  refine lv_iload_n hx hb dX8_jar_0 rfl (lv_at hl 1 rfl) ?_
  refine lv_iconst (v := 0) hx hb dX8_jar_1 (by decide) ?_
  refine lv_iconst (v := 5) hx hb dX8_jar_2 (by decide) ?_
  refine n_Si (na := 3) (As := [.int k, .int 0, .int 5]) (rest := []) X hD hN h (c_within l G cI cB cZ cO ad w k (0 : Int32) (5 : Int32) ((k).toInt) 0 5 rfl rfl rfl) ⟨kv_247, kv_248, kv_212, kv_249⟩ ⟨by decide, by decide, by decide⟩ ⟨Nat.le_of_ble_eq_true rfl, Nat.le_of_ble_eq_true rfl⟩ ⟨Nat.zero_le _, Nat.zero_le _⟩ rfl hl.1 rfl (Nat.le_of_ble_eq_true rfl) dX8_jar_3 (fun r1 w2 H locs hp3 h => ?_)
  obtain ⟨rfl, hq4⟩ := hp3
  rcases hq4 with ⟨hq5, hq6, rfl⟩ | ⟨hq4, rfl⟩
  · refine lv_if_ne (tgt := 16) hx hb dX8_jar_6 (by decide) (fun _ => ?_) (fun hc => absurd hc (by decide))
    refine lv_aload_n hx hb dX8_jar_16 rfl (lv_at hl 0 rfl) ?_
    obtain ⟨x8, x9, q10, q11, q12, f7⟩ := (show sN ad (w 0) from ok 0 (by decide))
    have f13 : w 0 = .inr (6, [.ref (ad 1), .ref (ad 14), .ref (ad 27), .ref (ad 54), .ref (ad 55), .ref (ad 58), .ref (ad 62), .long x8, .long x9, .int q10, .int q11, .int q12]) := f7
    refine r_get kc8 X h 0 0 (by decide) rfl f13 (by decide) kv_172 rfl dX8_jar_17 ?_
    obtain ⟨q15, q16, q17, q18, q19, f14, h20, h21, h22, h23⟩ := (show sI ad 1 (w 1) from ok 1 (by decide))
    have f24 : w 1 = .inr (1, [.int q15, .int q16, .int q17, .int q18, .int q19, .ref (ad 2), .ref (ad 3), .ref (ad 4), .ref (ad 5), .ref (ad 6), .ref (ad 7), .ref (ad 8), .ref (ad 10), .ref (ad 12)]) := f14
    refine r_get kc2 X h 1 4 (by decide) rfl f24 (by decide) kv_174 rfl dX8_jar_20 ?_
    refine lv_iconst (v := 4) hx hb dX8_jar_23 (by decide) ?_
    refine lv_icmp_lt (tgt := 34) hx hb dX8_jar_24 (by decide) (fun hc25 => ?_) (fun hc25 => ?_)
    · have hc25 : (q19).toInt < 4 := i_lt hc25 rfl rfl
      refine lv_aload_n hx hb dX8_jar_34 rfl (lv_at hl 0 rfl) ?_
      refine r_get kc8 X h 0 0 (by decide) rfl f13 (by decide) kv_172 rfl dX8_jar_35 ?_
      refine r_get kc2 X h 1 13 (by decide) rfl f24 (by decide) kv_189 rfl dX8_jar_38 ?_
      obtain ⟨z27, f26, h28, h29⟩ := (show sR ad 2 13 8 (w 12) from ok 12 (by decide))
      have f30 : w 12 = .inr (2, [.ref (ad 13), .int z27]) := f26
      refine n_Vv (na := 0) (As := []) (rest := []) X hD hN h rfl (c_P_empty l G cI cB cZ cO ad w 12 _ _ (by decide) f30) ⟨kv_335, kv_69, kv_70, kv_71, kv_72⟩ rfl ⟨by decide, by decide, by decide⟩ ⟨Nat.le_of_ble_eq_true rfl, Nat.le_of_ble_eq_true rfl⟩ ⟨Nat.zero_le _, Nat.zero_le _⟩ (by decide) f30 rfl rfl hl.1 rfl (Nat.le_of_ble_eq_true rfl) dX8_jar_41 (fun w32 H locs hp33 h => ?_)
      have e34 := hp33
      have f35 : w32 12 = .inr (2, [.ref (ad 13), .int 0]) := (congrFun e34 _).trans (va_up_self _ _ _)
      have ok36 : OK cI cB cZ cO ad w32 := OK.up ok e34 (sR_mk (by decide) (by decide))
      have kx37 : KT w w32 := KT.up KT.rf e34 f30 rfl
      refine lv_aload_n hx hb dX8_jar_44 rfl (lv_at hl 0 rfl) ?_
      have f38 : w32 0 = .inr (6, [.ref (ad 1), .ref (ad 14), .ref (ad 27), .ref (ad 54), .ref (ad 55), .ref (ad 58), .ref (ad 62), .long x8, .long x9, .int q10, .int q11, .int q12]) := by rw [e34, va_up_ne _ _ (by decide)]; exact f13
      refine r_get kc8 X h 0 0 (by decide) rfl f38 (by decide) kv_172 rfl dX8_jar_45 ?_
      refine lv_iload_n hx hb dX8_jar_48 rfl (lv_at hl 1 rfl) ?_
      have f42 : w32 1 = .inr (1, [.int q15, .int q16, .int q17, .int q18, .int q19, .ref (ad 2), .ref (ad 3), .ref (ad 4), .ref (ad 5), .ref (ad 6), .ref (ad 7), .ref (ad 8), .ref (ad 10), .ref (ad 12)]) := by rw [e34, va_up_ne _ _ (by decide)]; exact f24
      refine n_Vi (na := 1) (As := [.int k]) (rest := []) X hD hN h rfl (c_addJar l G cI cB cZ cO ad w32 1 (Or.inl rfl) ok36 k  ) ⟨kv_340, kv_341, kv_342, kv_37, kv_343⟩ rfl ⟨by decide, by decide, by decide⟩ ⟨Nat.le_of_ble_eq_true rfl, Nat.le_of_ble_eq_true rfl⟩ ⟨Nat.zero_le _, Nat.zero_le _⟩ (by decide) f42 rfl rfl hl.1 rfl (Nat.le_of_ble_eq_true rfl) dX8_jar_49 (fun r39 w40 H locs hp41 h => ?_)
      obtain ⟨ok44, kk45, hr43⟩ := hp41
      have kx46 : KT w w40 := KT.tr kx37 (FR.t (Or.inl rfl) kk45)
      exact e_i X h hr hlk dX8_jar_52 ⟨ok44, kx46, trivial⟩
    · have hc25 : ¬ (q19).toInt < 4 := i_nlt hc25 rfl rfl
      refine lv_aload_n hx hb dX8_jar_27 rfl (lv_at hl 0 rfl) ?_
      refine lv_bipush (v := (-4)) hx hb dX8_jar_28 (by decide) ?_
      refine n_Vi (na := 1) (As := [.int (-4)]) (rest := []) X hD hN h rfl (c_refused l G cI cB cZ cO ad w  ok ((-4) : Int32)  ) ⟨kv_227, kv_228, kv_229, kv_212, kv_230⟩ rfl ⟨by decide, by decide, by decide⟩ ⟨Nat.le_of_ble_eq_true rfl, Nat.le_of_ble_eq_true rfl⟩ ⟨Nat.zero_le _, Nat.zero_le _⟩ (by decide) f13 rfl rfl hl.1 rfl (Nat.le_of_ble_eq_true rfl) dX8_jar_30 (fun r47 w48 H locs hp49 h => ?_)
      obtain ⟨ok51, kk52, hr50⟩ := hp49
      have kx53 : KT w w48 := kk52.t
      subst hr50
      exact e_i X h hr hlk dX8_jar_33 ⟨ok51, kx53, trivial⟩
  · refine lv_if_ne (tgt := 16) hx hb dX8_jar_6 (by decide) (fun hc => absurd (by decide) hc) (fun _ => ?_)
    refine lv_aload_n hx hb dX8_jar_9 rfl (lv_at hl 0 rfl) ?_
    refine lv_bipush (v := (-2)) hx hb dX8_jar_10 (by decide) ?_
    obtain ⟨x58, x59, q60, q61, q62, f57⟩ := (show sN ad (w 0) from ok 0 (by decide))
    have f63 : w 0 = .inr (6, [.ref (ad 1), .ref (ad 14), .ref (ad 27), .ref (ad 54), .ref (ad 55), .ref (ad 58), .ref (ad 62), .long x58, .long x59, .int q60, .int q61, .int q62]) := f57
    refine n_Vi (na := 1) (As := [.int (-2)]) (rest := []) X hD hN h rfl (c_refused l G cI cB cZ cO ad w  ok ((-2) : Int32)  ) ⟨kv_227, kv_228, kv_229, kv_212, kv_230⟩ rfl ⟨by decide, by decide, by decide⟩ ⟨Nat.le_of_ble_eq_true rfl, Nat.le_of_ble_eq_true rfl⟩ ⟨Nat.zero_le _, Nat.zero_le _⟩ (by decide) f63 rfl rfl hl.1 rfl (Nat.le_of_ble_eq_true rfl) dX8_jar_12 (fun r54 w55 H locs hp56 h => ?_)
    obtain ⟨ok65, kk66, hr64⟩ := hp56
    have kx67 : KT w w55 := kk66.t
    subst hr64
    exact e_i X h hr hlk dX8_jar_15 ⟨ok65, kx67, trivial⟩

set_option maxHeartbeats 4000000 in
set_option maxRecDepth 100000 in
theorem c_X_note (l : Launch) (G : va_G) (cI cB cZ cO : ClassId) (ad : Nat → Nat) (w : Nat → va_E)  (ok : OK cI cB cZ cO ad w) (i : Int32) (q : Int32) (t : Int32) (x : Int32)   : NI l G (tyq cI cB cZ cO) yX8_note cX8_note 5 (some .int) 2 45 74 ad w [.ref (ad 0), .int i, .int q, .int t, .int x] (fun r w1 => OK cI cB cZ cO ad w1 ∧ KT w w1 ∧ True) := by
  refine nk_i (own := "NoonShade") rfl (by decide) (Nat.le_of_ble_eq_true rfl) ?_
  intro p e s m below meth c ls X hD hN hr hlk h hl
  have hx := X.1.1
  have hb := X.1.2.1
  have hown := X.1.2.2.2.1
  have hts := X.1.2.2.2.2
  have hl : lv_has ls 5 [(0, .ref (ad 0)), (1, .int i), (2, .int q), (3, .int t), (4, .int x)] := hl
  refine lv_aload_n hx hb dX8_note_0 rfl (lv_at hl 0 rfl) ?_
  obtain ⟨x2, x3, q4, q5, q6, f1⟩ := (show sN ad (w 0) from ok 0 (by decide))
  have f7 : w 0 = .inr (6, [.ref (ad 1), .ref (ad 14), .ref (ad 27), .ref (ad 54), .ref (ad 55), .ref (ad 58), .ref (ad 62), .long x2, .long x3, .int q4, .int q5, .int q6]) := f1
  refine r_get kc8 X h 0 0 (by decide) rfl f7 (by decide) kv_172 rfl dX8_note_1 ?_
  refine lv_iload_n hx hb dX8_note_4 rfl (lv_at hl 1 rfl) ?_
  obtain ⟨q12, q13, q14, q15, q16, f11, h17, h18, h19, h20⟩ := (show sI ad 1 (w 1) from ok 1 (by decide))
  have f21 : w 1 = .inr (1, [.int q12, .int q13, .int q14, .int q15, .int q16, .ref (ad 2), .ref (ad 3), .ref (ad 4), .ref (ad 5), .ref (ad 6), .ref (ad 7), .ref (ad 8), .ref (ad 10), .ref (ad 12)]) := f11
  refine n_Vi (na := 1) (As := [.int i]) (rest := []) X hD hN h rfl (c_hasCaster l G cI cB cZ cO ad w 1 (Or.inl rfl) ok i  ) ⟨kv_219, kv_220, kv_221, kv_37, kv_222⟩ rfl ⟨by decide, by decide, by decide⟩ ⟨Nat.le_of_ble_eq_true rfl, Nat.le_of_ble_eq_true rfl⟩ ⟨Nat.zero_le _, Nat.zero_le _⟩ (by decide) f21 rfl rfl hl.1 rfl (Nat.le_of_ble_eq_true rfl) dX8_note_5 (fun r8 w9 H locs hp10 h => ?_)
  obtain ⟨rfl, hr22⟩ := hp10
  rcases hr22 with ⟨hq23, hq24, rfl⟩ | rfl
  · refine lv_if_eq (tgt := 42) hx hb dX8_note_8 (by decide) (fun hc => absurd hc (by decide)) (fun _ => ?_)
    refine lv_iload_n hx hb dX8_note_11 rfl (lv_at hl 2 rfl) ?_
    refine lv_iconst (v := 1) hx hb dX8_note_12 (by decide) ?_
    refine lv_bipush (v := 9) hx hb dX8_note_13 (by decide) ?_
    refine n_Si (na := 3) (As := [.int q, .int 1, .int 9]) (rest := []) X hD hN h (c_within l G cI cB cZ cO ad w q (1 : Int32) (9 : Int32) ((q).toInt) 1 9 rfl rfl rfl) ⟨kv_247, kv_248, kv_212, kv_249⟩ ⟨by decide, by decide, by decide⟩ ⟨Nat.le_of_ble_eq_true rfl, Nat.le_of_ble_eq_true rfl⟩ ⟨Nat.zero_le _, Nat.zero_le _⟩ rfl hl.1 rfl (Nat.le_of_ble_eq_true rfl) dX8_note_15 (fun r25 w26 H locs hp27 h => ?_)
    obtain ⟨rfl, hq28⟩ := hp27
    rcases hq28 with ⟨hq29, hq30, rfl⟩ | ⟨hq28, rfl⟩
    · refine lv_if_eq (tgt := 42) hx hb dX8_note_18 (by decide) (fun hc => absurd hc (by decide)) (fun _ => ?_)
      refine lv_iload_n hx hb dX8_note_21 rfl (lv_at hl 3 rfl) ?_
      refine lv_iconst (v := 0) hx hb dX8_note_22 (by decide) ?_
      refine lv_bipush (v := 23) hx hb dX8_note_23 (by decide) ?_
      refine n_Si (na := 3) (As := [.int t, .int 0, .int 23]) (rest := []) X hD hN h (c_within l G cI cB cZ cO ad w t (0 : Int32) (23 : Int32) ((t).toInt) 0 23 rfl rfl rfl) ⟨kv_247, kv_248, kv_212, kv_249⟩ ⟨by decide, by decide, by decide⟩ ⟨Nat.le_of_ble_eq_true rfl, Nat.le_of_ble_eq_true rfl⟩ ⟨Nat.zero_le _, Nat.zero_le _⟩ rfl hl.1 rfl (Nat.le_of_ble_eq_true rfl) dX8_note_25 (fun r31 w32 H locs hp33 h => ?_)
      obtain ⟨rfl, hq34⟩ := hp33
      rcases hq34 with ⟨hq35, hq36, rfl⟩ | ⟨hq34, rfl⟩
      · refine lv_if_eq (tgt := 42) hx hb dX8_note_28 (by decide) (fun hc => absurd hc (by decide)) (fun _ => ?_)
        refine lv_iload hx hb dX8_note_31 (lv_at hl 4 rfl) ?_
        refine lv_iconst (v := 0) hx hb dX8_note_33 (by decide) ?_
        refine lv_bipush (v := 40) hx hb dX8_note_34 (by decide) ?_
        refine n_Si (na := 3) (As := [.int x, .int 0, .int 40]) (rest := []) X hD hN h (c_within l G cI cB cZ cO ad w x (0 : Int32) (40 : Int32) ((x).toInt) 0 40 rfl rfl rfl) ⟨kv_247, kv_248, kv_212, kv_249⟩ ⟨by decide, by decide, by decide⟩ ⟨Nat.le_of_ble_eq_true rfl, Nat.le_of_ble_eq_true rfl⟩ ⟨Nat.zero_le _, Nat.zero_le _⟩ rfl hl.1 rfl (Nat.le_of_ble_eq_true rfl) dX8_note_36 (fun r37 w38 H locs hp39 h => ?_)
        obtain ⟨rfl, hq40⟩ := hp39
        rcases hq40 with ⟨hq41, hq42, rfl⟩ | ⟨hq40, rfl⟩
        · refine lv_if_ne (tgt := 49) hx hb dX8_note_39 (by decide) (fun _ => ?_) (fun hc => absurd hc (by decide))
          refine lv_aload_n hx hb dX8_note_49 rfl (lv_at hl 0 rfl) ?_
          refine r_get kc8 X h 0 0 (by decide) rfl f7 (by decide) kv_172 rfl dX8_note_50 ?_
          refine r_get kc2 X h 1 11 (by decide) rfl f21 (by decide) kv_186 rfl dX8_note_53 ?_
          obtain ⟨z44, f43, h45, h46⟩ := (show sR ad 4 9 6 (w 8) from ok 8 (by decide))
          have f47 : w 8 = .inr (4, [.ref (ad 9), .int z44]) := f43
          refine n_Vi (na := 0) (As := []) (rest := []) X hD hN h rfl (c_R_isFull l G cI cB cZ cO ad w 8 (Or.inl rfl) z44    f47) ⟨kv_344, kv_74, kv_75, kv_64, kv_76⟩ rfl ⟨by decide, by decide, by decide⟩ ⟨Nat.le_of_ble_eq_true rfl, Nat.le_of_ble_eq_true rfl⟩ ⟨Nat.zero_le _, Nat.zero_le _⟩ (by decide) f47 rfl rfl hl.1 rfl (Nat.le_of_ble_eq_true rfl) dX8_note_56 (fun r48 w49 H locs hp50 h => ?_)
          obtain ⟨rfl, hr51⟩ := hp50
          rcases hr51 with ⟨hq52, rfl⟩ | ⟨hq53, rfl⟩
          · refine lv_if_eq (tgt := 69) hx hb dX8_note_59 (by decide) (fun hc => absurd hc (by decide)) (fun _ => ?_)
            refine lv_aload_n hx hb dX8_note_62 rfl (lv_at hl 0 rfl) ?_
            refine lv_bipush (v := (-4)) hx hb dX8_note_63 (by decide) ?_
            refine n_Vi (na := 1) (As := [.int (-4)]) (rest := []) X hD hN h rfl (c_refused l G cI cB cZ cO ad w  ok ((-4) : Int32)  ) ⟨kv_227, kv_228, kv_229, kv_212, kv_230⟩ rfl ⟨by decide, by decide, by decide⟩ ⟨Nat.le_of_ble_eq_true rfl, Nat.le_of_ble_eq_true rfl⟩ ⟨Nat.zero_le _, Nat.zero_le _⟩ (by decide) f7 rfl rfl hl.1 rfl (Nat.le_of_ble_eq_true rfl) dX8_note_65 (fun r54 w55 H locs hp56 h => ?_)
            obtain ⟨ok58, kk59, hr57⟩ := hp56
            have kx60 : KT w w55 := kk59.t
            subst hr57
            exact e_i X h hr hlk dX8_note_68 ⟨ok58, kx60, trivial⟩
          · refine lv_if_eq (tgt := 69) hx hb dX8_note_59 (by decide) (fun _ => ?_) (fun hc => absurd (by decide) hc)
            refine lv_aload_n hx hb dX8_note_69 rfl (lv_at hl 0 rfl) ?_
            refine r_get kc8 X h 0 0 (by decide) rfl f7 (by decide) kv_172 rfl dX8_note_70 ?_
            refine r_get kc2 X h 1 11 (by decide) rfl f21 (by decide) kv_186 rfl dX8_note_73 ?_
            refine lv_iload_n hx hb dX8_note_76 rfl (lv_at hl 1 rfl) ?_
            refine lv_iload_n hx hb dX8_note_77 rfl (lv_at hl 2 rfl) ?_
            refine lv_iload_n hx hb dX8_note_78 rfl (lv_at hl 3 rfl) ?_
            refine lv_iload hx hb dX8_note_79 (lv_at hl 4 rfl) ?_
            refine n_Vi (na := 4) (As := [.int i, .int q, .int t, .int x]) (rest := []) X hD hN h rfl (c_R_add l G cI cB cZ cO ad w 8 (Or.inl rfl) ok i q t x  ) ⟨kv_345, kv_346, kv_347, kv_64, kv_348⟩ rfl ⟨by decide, by decide, by decide⟩ ⟨Nat.le_of_ble_eq_true rfl, Nat.le_of_ble_eq_true rfl⟩ ⟨Nat.zero_le _, Nat.zero_le _⟩ (by decide) f47 rfl rfl hl.1 rfl (Nat.le_of_ble_eq_true rfl) dX8_note_81 (fun r61 w62 H locs hp63 h => ?_)
            obtain ⟨ok65, kk66, hr64⟩ := hp63
            have kx67 : KT w w62 := kk66
            exact e_i X h hr hlk dX8_note_84 ⟨ok65, kx67, trivial⟩
        · refine lv_if_ne (tgt := 49) hx hb dX8_note_39 (by decide) (fun hc => absurd (by decide) hc) (fun _ => ?_)
          refine lv_aload_n hx hb dX8_note_42 rfl (lv_at hl 0 rfl) ?_
          refine lv_bipush (v := (-2)) hx hb dX8_note_43 (by decide) ?_
          refine n_Vi (na := 1) (As := [.int (-2)]) (rest := []) X hD hN h rfl (c_refused l G cI cB cZ cO ad w  ok ((-2) : Int32)  ) ⟨kv_227, kv_228, kv_229, kv_212, kv_230⟩ rfl ⟨by decide, by decide, by decide⟩ ⟨Nat.le_of_ble_eq_true rfl, Nat.le_of_ble_eq_true rfl⟩ ⟨Nat.zero_le _, Nat.zero_le _⟩ (by decide) f7 rfl rfl hl.1 rfl (Nat.le_of_ble_eq_true rfl) dX8_note_45 (fun r68 w69 H locs hp70 h => ?_)
          obtain ⟨ok72, kk73, hr71⟩ := hp70
          have kx74 : KT w w69 := kk73.t
          subst hr71
          exact e_i X h hr hlk dX8_note_48 ⟨ok72, kx74, trivial⟩
      · refine lv_if_eq (tgt := 42) hx hb dX8_note_28 (by decide) (fun _ => ?_) (fun hc => absurd (by decide) hc)
        refine lv_aload_n hx hb dX8_note_42 rfl (lv_at hl 0 rfl) ?_
        refine lv_bipush (v := (-2)) hx hb dX8_note_43 (by decide) ?_
        refine n_Vi (na := 1) (As := [.int (-2)]) (rest := []) X hD hN h rfl (c_refused l G cI cB cZ cO ad w  ok ((-2) : Int32)  ) ⟨kv_227, kv_228, kv_229, kv_212, kv_230⟩ rfl ⟨by decide, by decide, by decide⟩ ⟨Nat.le_of_ble_eq_true rfl, Nat.le_of_ble_eq_true rfl⟩ ⟨Nat.zero_le _, Nat.zero_le _⟩ (by decide) f7 rfl rfl hl.1 rfl (Nat.le_of_ble_eq_true rfl) dX8_note_45 (fun r75 w76 H locs hp77 h => ?_)
        obtain ⟨ok79, kk80, hr78⟩ := hp77
        have kx81 : KT w w76 := kk80.t
        subst hr78
        exact e_i X h hr hlk dX8_note_48 ⟨ok79, kx81, trivial⟩
    · refine lv_if_eq (tgt := 42) hx hb dX8_note_18 (by decide) (fun _ => ?_) (fun hc => absurd (by decide) hc)
      refine lv_aload_n hx hb dX8_note_42 rfl (lv_at hl 0 rfl) ?_
      refine lv_bipush (v := (-2)) hx hb dX8_note_43 (by decide) ?_
      refine n_Vi (na := 1) (As := [.int (-2)]) (rest := []) X hD hN h rfl (c_refused l G cI cB cZ cO ad w  ok ((-2) : Int32)  ) ⟨kv_227, kv_228, kv_229, kv_212, kv_230⟩ rfl ⟨by decide, by decide, by decide⟩ ⟨Nat.le_of_ble_eq_true rfl, Nat.le_of_ble_eq_true rfl⟩ ⟨Nat.zero_le _, Nat.zero_le _⟩ (by decide) f7 rfl rfl hl.1 rfl (Nat.le_of_ble_eq_true rfl) dX8_note_45 (fun r82 w83 H locs hp84 h => ?_)
      obtain ⟨ok86, kk87, hr85⟩ := hp84
      have kx88 : KT w w83 := kk87.t
      subst hr85
      exact e_i X h hr hlk dX8_note_48 ⟨ok86, kx88, trivial⟩
  · refine lv_if_eq (tgt := 42) hx hb dX8_note_8 (by decide) (fun _ => ?_) (fun hc => absurd (by decide) hc)
    refine lv_aload_n hx hb dX8_note_42 rfl (lv_at hl 0 rfl) ?_
    refine lv_bipush (v := (-2)) hx hb dX8_note_43 (by decide) ?_
    refine n_Vi (na := 1) (As := [.int (-2)]) (rest := []) X hD hN h rfl (c_refused l G cI cB cZ cO ad w  ok ((-2) : Int32)  ) ⟨kv_227, kv_228, kv_229, kv_212, kv_230⟩ rfl ⟨by decide, by decide, by decide⟩ ⟨Nat.le_of_ble_eq_true rfl, Nat.le_of_ble_eq_true rfl⟩ ⟨Nat.zero_le _, Nat.zero_le _⟩ (by decide) f7 rfl rfl hl.1 rfl (Nat.le_of_ble_eq_true rfl) dX8_note_45 (fun r89 w90 H locs hp91 h => ?_)
    obtain ⟨ok93, kk94, hr92⟩ := hp91
    have kx95 : KT w w90 := kk94.t
    subst hr92
    exact e_i X h hr hlk dX8_note_48 ⟨ok93, kx95, trivial⟩

set_option maxHeartbeats 4000000 in
set_option maxRecDepth 100000 in
theorem c_X_mark (l : Launch) (G : va_G) (cI cB cZ cO : ClassId) (ad : Nat → Nat) (w : Nat → va_E)  (ok : OK cI cB cZ cO ad w) (j : Int32) (q : Int32) (t : Int32) (x : Int32)   : NI l G (tyq cI cB cZ cO) yX8_mark cX8_mark 5 (some .int) 2 45 74 ad w [.ref (ad 0), .int j, .int q, .int t, .int x] (fun r w1 => OK cI cB cZ cO ad w1 ∧ KT w w1 ∧ True) := by
  refine nk_i (own := "NoonShade") rfl (by decide) (Nat.le_of_ble_eq_true rfl) ?_
  intro p e s m below meth c ls X hD hN hr hlk h hl
  have hx := X.1.1
  have hb := X.1.2.1
  have hown := X.1.2.2.2.1
  have hts := X.1.2.2.2.2
  have hl : lv_has ls 5 [(0, .ref (ad 0)), (1, .int j), (2, .int q), (3, .int t), (4, .int x)] := hl
  refine lv_aload_n hx hb dX8_mark_0 rfl (lv_at hl 0 rfl) ?_
  obtain ⟨x2, x3, q4, q5, q6, f1⟩ := (show sN ad (w 0) from ok 0 (by decide))
  have f7 : w 0 = .inr (6, [.ref (ad 1), .ref (ad 14), .ref (ad 27), .ref (ad 54), .ref (ad 55), .ref (ad 58), .ref (ad 62), .long x2, .long x3, .int q4, .int q5, .int q6]) := f1
  refine r_get kc8 X h 0 0 (by decide) rfl f7 (by decide) kv_172 rfl dX8_mark_1 ?_
  refine lv_iload_n hx hb dX8_mark_4 rfl (lv_at hl 1 rfl) ?_
  obtain ⟨q12, q13, q14, q15, q16, f11, h17, h18, h19, h20⟩ := (show sI ad 1 (w 1) from ok 1 (by decide))
  have f21 : w 1 = .inr (1, [.int q12, .int q13, .int q14, .int q15, .int q16, .ref (ad 2), .ref (ad 3), .ref (ad 4), .ref (ad 5), .ref (ad 6), .ref (ad 7), .ref (ad 8), .ref (ad 10), .ref (ad 12)]) := f11
  refine n_Vi (na := 1) (As := [.int j]) (rest := []) X hD hN h rfl (c_hasJar l G cI cB cZ cO ad w 1 (Or.inl rfl) ok j  ) ⟨kv_223, kv_224, kv_225, kv_37, kv_226⟩ rfl ⟨by decide, by decide, by decide⟩ ⟨Nat.le_of_ble_eq_true rfl, Nat.le_of_ble_eq_true rfl⟩ ⟨Nat.zero_le _, Nat.zero_le _⟩ (by decide) f21 rfl rfl hl.1 rfl (Nat.le_of_ble_eq_true rfl) dX8_mark_5 (fun r8 w9 H locs hp10 h => ?_)
  obtain ⟨rfl, hr22⟩ := hp10
  rcases hr22 with ⟨hq23, hq24, rfl⟩ | rfl
  · refine lv_if_eq (tgt := 42) hx hb dX8_mark_8 (by decide) (fun hc => absurd hc (by decide)) (fun _ => ?_)
    refine lv_iload_n hx hb dX8_mark_11 rfl (lv_at hl 2 rfl) ?_
    refine lv_iconst (v := 0) hx hb dX8_mark_12 (by decide) ?_
    refine lv_bipush (v := 60) hx hb dX8_mark_13 (by decide) ?_
    refine n_Si (na := 3) (As := [.int q, .int 0, .int 60]) (rest := []) X hD hN h (c_within l G cI cB cZ cO ad w q (0 : Int32) (60 : Int32) ((q).toInt) 0 60 rfl rfl rfl) ⟨kv_247, kv_248, kv_212, kv_249⟩ ⟨by decide, by decide, by decide⟩ ⟨Nat.le_of_ble_eq_true rfl, Nat.le_of_ble_eq_true rfl⟩ ⟨Nat.zero_le _, Nat.zero_le _⟩ rfl hl.1 rfl (Nat.le_of_ble_eq_true rfl) dX8_mark_15 (fun r25 w26 H locs hp27 h => ?_)
    obtain ⟨rfl, hq28⟩ := hp27
    rcases hq28 with ⟨hq29, hq30, rfl⟩ | ⟨hq28, rfl⟩
    · refine lv_if_eq (tgt := 42) hx hb dX8_mark_18 (by decide) (fun hc => absurd hc (by decide)) (fun _ => ?_)
      refine lv_iload_n hx hb dX8_mark_21 rfl (lv_at hl 3 rfl) ?_
      refine lv_iconst (v := 0) hx hb dX8_mark_22 (by decide) ?_
      refine lv_bipush (v := 23) hx hb dX8_mark_23 (by decide) ?_
      refine n_Si (na := 3) (As := [.int t, .int 0, .int 23]) (rest := []) X hD hN h (c_within l G cI cB cZ cO ad w t (0 : Int32) (23 : Int32) ((t).toInt) 0 23 rfl rfl rfl) ⟨kv_247, kv_248, kv_212, kv_249⟩ ⟨by decide, by decide, by decide⟩ ⟨Nat.le_of_ble_eq_true rfl, Nat.le_of_ble_eq_true rfl⟩ ⟨Nat.zero_le _, Nat.zero_le _⟩ rfl hl.1 rfl (Nat.le_of_ble_eq_true rfl) dX8_mark_25 (fun r31 w32 H locs hp33 h => ?_)
      obtain ⟨rfl, hq34⟩ := hp33
      rcases hq34 with ⟨hq35, hq36, rfl⟩ | ⟨hq34, rfl⟩
      · refine lv_if_eq (tgt := 42) hx hb dX8_mark_28 (by decide) (fun hc => absurd hc (by decide)) (fun _ => ?_)
        refine lv_iload hx hb dX8_mark_31 (lv_at hl 4 rfl) ?_
        refine lv_iconst (v := 0) hx hb dX8_mark_33 (by decide) ?_
        refine lv_bipush (v := 60) hx hb dX8_mark_34 (by decide) ?_
        refine n_Si (na := 3) (As := [.int x, .int 0, .int 60]) (rest := []) X hD hN h (c_within l G cI cB cZ cO ad w x (0 : Int32) (60 : Int32) ((x).toInt) 0 60 rfl rfl rfl) ⟨kv_247, kv_248, kv_212, kv_249⟩ ⟨by decide, by decide, by decide⟩ ⟨Nat.le_of_ble_eq_true rfl, Nat.le_of_ble_eq_true rfl⟩ ⟨Nat.zero_le _, Nat.zero_le _⟩ rfl hl.1 rfl (Nat.le_of_ble_eq_true rfl) dX8_mark_36 (fun r37 w38 H locs hp39 h => ?_)
        obtain ⟨rfl, hq40⟩ := hp39
        rcases hq40 with ⟨hq41, hq42, rfl⟩ | ⟨hq40, rfl⟩
        · refine lv_if_ne (tgt := 49) hx hb dX8_mark_39 (by decide) (fun _ => ?_) (fun hc => absurd hc (by decide))
          refine lv_aload_n hx hb dX8_mark_49 rfl (lv_at hl 0 rfl) ?_
          refine r_get kc8 X h 0 0 (by decide) rfl f7 (by decide) kv_172 rfl dX8_mark_50 ?_
          refine r_get kc2 X h 1 12 (by decide) rfl f21 (by decide) kv_188 rfl dX8_mark_53 ?_
          obtain ⟨z44, f43, h45, h46⟩ := (show sR ad 4 11 6 (w 10) from ok 10 (by decide))
          have f47 : w 10 = .inr (4, [.ref (ad 11), .int z44]) := f43
          refine n_Vi (na := 0) (As := []) (rest := []) X hD hN h rfl (c_R_isFull l G cI cB cZ cO ad w 10 (Or.inr rfl) z44    f47) ⟨kv_344, kv_74, kv_75, kv_64, kv_76⟩ rfl ⟨by decide, by decide, by decide⟩ ⟨Nat.le_of_ble_eq_true rfl, Nat.le_of_ble_eq_true rfl⟩ ⟨Nat.zero_le _, Nat.zero_le _⟩ (by decide) f47 rfl rfl hl.1 rfl (Nat.le_of_ble_eq_true rfl) dX8_mark_56 (fun r48 w49 H locs hp50 h => ?_)
          obtain ⟨rfl, hr51⟩ := hp50
          rcases hr51 with ⟨hq52, rfl⟩ | ⟨hq53, rfl⟩
          · refine lv_if_eq (tgt := 69) hx hb dX8_mark_59 (by decide) (fun hc => absurd hc (by decide)) (fun _ => ?_)
            refine lv_aload_n hx hb dX8_mark_62 rfl (lv_at hl 0 rfl) ?_
            refine lv_bipush (v := (-4)) hx hb dX8_mark_63 (by decide) ?_
            refine n_Vi (na := 1) (As := [.int (-4)]) (rest := []) X hD hN h rfl (c_refused l G cI cB cZ cO ad w  ok ((-4) : Int32)  ) ⟨kv_227, kv_228, kv_229, kv_212, kv_230⟩ rfl ⟨by decide, by decide, by decide⟩ ⟨Nat.le_of_ble_eq_true rfl, Nat.le_of_ble_eq_true rfl⟩ ⟨Nat.zero_le _, Nat.zero_le _⟩ (by decide) f7 rfl rfl hl.1 rfl (Nat.le_of_ble_eq_true rfl) dX8_mark_65 (fun r54 w55 H locs hp56 h => ?_)
            obtain ⟨ok58, kk59, hr57⟩ := hp56
            have kx60 : KT w w55 := kk59.t
            subst hr57
            exact e_i X h hr hlk dX8_mark_68 ⟨ok58, kx60, trivial⟩
          · refine lv_if_eq (tgt := 69) hx hb dX8_mark_59 (by decide) (fun _ => ?_) (fun hc => absurd (by decide) hc)
            refine lv_aload_n hx hb dX8_mark_69 rfl (lv_at hl 0 rfl) ?_
            refine r_get kc8 X h 0 0 (by decide) rfl f7 (by decide) kv_172 rfl dX8_mark_70 ?_
            refine r_get kc2 X h 1 12 (by decide) rfl f21 (by decide) kv_188 rfl dX8_mark_73 ?_
            refine lv_iload_n hx hb dX8_mark_76 rfl (lv_at hl 1 rfl) ?_
            refine lv_iload_n hx hb dX8_mark_77 rfl (lv_at hl 2 rfl) ?_
            refine lv_iload_n hx hb dX8_mark_78 rfl (lv_at hl 3 rfl) ?_
            refine lv_iload hx hb dX8_mark_79 (lv_at hl 4 rfl) ?_
            refine n_Vi (na := 4) (As := [.int j, .int q, .int t, .int x]) (rest := []) X hD hN h rfl (c_R_add l G cI cB cZ cO ad w 10 (Or.inr rfl) ok j q t x  ) ⟨kv_345, kv_346, kv_347, kv_64, kv_348⟩ rfl ⟨by decide, by decide, by decide⟩ ⟨Nat.le_of_ble_eq_true rfl, Nat.le_of_ble_eq_true rfl⟩ ⟨Nat.zero_le _, Nat.zero_le _⟩ (by decide) f47 rfl rfl hl.1 rfl (Nat.le_of_ble_eq_true rfl) dX8_mark_81 (fun r61 w62 H locs hp63 h => ?_)
            obtain ⟨ok65, kk66, hr64⟩ := hp63
            have kx67 : KT w w62 := kk66
            exact e_i X h hr hlk dX8_mark_84 ⟨ok65, kx67, trivial⟩
        · refine lv_if_ne (tgt := 49) hx hb dX8_mark_39 (by decide) (fun hc => absurd (by decide) hc) (fun _ => ?_)
          refine lv_aload_n hx hb dX8_mark_42 rfl (lv_at hl 0 rfl) ?_
          refine lv_bipush (v := (-2)) hx hb dX8_mark_43 (by decide) ?_
          refine n_Vi (na := 1) (As := [.int (-2)]) (rest := []) X hD hN h rfl (c_refused l G cI cB cZ cO ad w  ok ((-2) : Int32)  ) ⟨kv_227, kv_228, kv_229, kv_212, kv_230⟩ rfl ⟨by decide, by decide, by decide⟩ ⟨Nat.le_of_ble_eq_true rfl, Nat.le_of_ble_eq_true rfl⟩ ⟨Nat.zero_le _, Nat.zero_le _⟩ (by decide) f7 rfl rfl hl.1 rfl (Nat.le_of_ble_eq_true rfl) dX8_mark_45 (fun r68 w69 H locs hp70 h => ?_)
          obtain ⟨ok72, kk73, hr71⟩ := hp70
          have kx74 : KT w w69 := kk73.t
          subst hr71
          exact e_i X h hr hlk dX8_mark_48 ⟨ok72, kx74, trivial⟩
      · refine lv_if_eq (tgt := 42) hx hb dX8_mark_28 (by decide) (fun _ => ?_) (fun hc => absurd (by decide) hc)
        refine lv_aload_n hx hb dX8_mark_42 rfl (lv_at hl 0 rfl) ?_
        refine lv_bipush (v := (-2)) hx hb dX8_mark_43 (by decide) ?_
        refine n_Vi (na := 1) (As := [.int (-2)]) (rest := []) X hD hN h rfl (c_refused l G cI cB cZ cO ad w  ok ((-2) : Int32)  ) ⟨kv_227, kv_228, kv_229, kv_212, kv_230⟩ rfl ⟨by decide, by decide, by decide⟩ ⟨Nat.le_of_ble_eq_true rfl, Nat.le_of_ble_eq_true rfl⟩ ⟨Nat.zero_le _, Nat.zero_le _⟩ (by decide) f7 rfl rfl hl.1 rfl (Nat.le_of_ble_eq_true rfl) dX8_mark_45 (fun r75 w76 H locs hp77 h => ?_)
        obtain ⟨ok79, kk80, hr78⟩ := hp77
        have kx81 : KT w w76 := kk80.t
        subst hr78
        exact e_i X h hr hlk dX8_mark_48 ⟨ok79, kx81, trivial⟩
    · refine lv_if_eq (tgt := 42) hx hb dX8_mark_18 (by decide) (fun _ => ?_) (fun hc => absurd (by decide) hc)
      refine lv_aload_n hx hb dX8_mark_42 rfl (lv_at hl 0 rfl) ?_
      refine lv_bipush (v := (-2)) hx hb dX8_mark_43 (by decide) ?_
      refine n_Vi (na := 1) (As := [.int (-2)]) (rest := []) X hD hN h rfl (c_refused l G cI cB cZ cO ad w  ok ((-2) : Int32)  ) ⟨kv_227, kv_228, kv_229, kv_212, kv_230⟩ rfl ⟨by decide, by decide, by decide⟩ ⟨Nat.le_of_ble_eq_true rfl, Nat.le_of_ble_eq_true rfl⟩ ⟨Nat.zero_le _, Nat.zero_le _⟩ (by decide) f7 rfl rfl hl.1 rfl (Nat.le_of_ble_eq_true rfl) dX8_mark_45 (fun r82 w83 H locs hp84 h => ?_)
      obtain ⟨ok86, kk87, hr85⟩ := hp84
      have kx88 : KT w w83 := kk87.t
      subst hr85
      exact e_i X h hr hlk dX8_mark_48 ⟨ok86, kx88, trivial⟩
  · refine lv_if_eq (tgt := 42) hx hb dX8_mark_8 (by decide) (fun _ => ?_) (fun hc => absurd (by decide) hc)
    refine lv_aload_n hx hb dX8_mark_42 rfl (lv_at hl 0 rfl) ?_
    refine lv_bipush (v := (-2)) hx hb dX8_mark_43 (by decide) ?_
    refine n_Vi (na := 1) (As := [.int (-2)]) (rest := []) X hD hN h rfl (c_refused l G cI cB cZ cO ad w  ok ((-2) : Int32)  ) ⟨kv_227, kv_228, kv_229, kv_212, kv_230⟩ rfl ⟨by decide, by decide, by decide⟩ ⟨Nat.le_of_ble_eq_true rfl, Nat.le_of_ble_eq_true rfl⟩ ⟨Nat.zero_le _, Nat.zero_le _⟩ (by decide) f7 rfl rfl hl.1 rfl (Nat.le_of_ble_eq_true rfl) dX8_mark_45 (fun r89 w90 H locs hp91 h => ?_)
    obtain ⟨ok93, kk94, hr92⟩ := hp91
    have kx95 : KT w w90 := kk94.t
    subst hr92
    exact e_i X h hr hlk dX8_mark_48 ⟨ok93, kx95, trivial⟩

set_option maxHeartbeats 4000000 in
set_option maxRecDepth 100000 in
theorem c_X_forget (l : Launch) (G : va_G) (cI cB cZ cO : ClassId) (ad : Nat → Nat) (w : Nat → va_E)  (ok : OK cI cB cZ cO ad w) (u : Int32)   : NI l G (tyq cI cB cZ cO) yX8_forget cX8_forget 2 (some .int) 1 21 74 ad w [.ref (ad 0), .int u] (fun r w1 => OK cI cB cZ cO ad w1 ∧ KT w w1 ∧ True) := by
  refine nk_i (own := "NoonShade") rfl (by decide) (Nat.le_of_ble_eq_true rfl) ?_
  intro p e s m below meth c ls X hD hN hr hlk h hl
  have hx := X.1.1
  have hb := X.1.2.1
  have hown := X.1.2.2.2.1
  have hts := X.1.2.2.2.2
  have hl : lv_has ls 2 [(0, .ref (ad 0)), (1, .int u)] := hl
  refine lv_iload_n hx hb dX8_forget_0 rfl (lv_at hl 1 rfl) ?_
  by_cases hq1 : (u).toInt = 0
  · refine lv_lookup (tgt := 28) (off := 27) hx hb dX8_forget_1 (by decide) (by rw [hq1]; rfl) (by decide) ?_
    refine lv_aload_n hx hb dX8_forget_28 rfl (lv_at hl 0 rfl) ?_
    obtain ⟨x3, x4, q5, q6, q7, f2⟩ := (show sN ad (w 0) from ok 0 (by decide))
    have f8 : w 0 = .inr (6, [.ref (ad 1), .ref (ad 14), .ref (ad 27), .ref (ad 54), .ref (ad 55), .ref (ad 58), .ref (ad 62), .long x3, .long x4, .int q5, .int q6, .int q7]) := f2
    refine r_get kc8 X h 0 0 (by decide) rfl f8 (by decide) kv_172 rfl dX8_forget_29 ?_
    obtain ⟨q10, q11, q12, q13, q14, f9, h15, h16, h17, h18⟩ := (show sI ad 1 (w 1) from ok 1 (by decide))
    have f19 : w 1 = .inr (1, [.int q10, .int q11, .int q12, .int q13, .int q14, .ref (ad 2), .ref (ad 3), .ref (ad 4), .ref (ad 5), .ref (ad 6), .ref (ad 7), .ref (ad 8), .ref (ad 10), .ref (ad 12)]) := f9
    refine r_get kc2 X h 1 11 (by decide) rfl f19 (by decide) kv_186 rfl dX8_forget_32 ?_
    obtain ⟨z21, f20, h22, h23⟩ := (show sR ad 4 9 6 (w 8) from ok 8 (by decide))
    have f24 : w 8 = .inr (4, [.ref (ad 9), .int z21]) := f20
    refine n_Vi (na := 0) (As := []) (rest := []) X hD hN h rfl (c_R_empty l G cI cB cZ cO ad w 8 _ _ (by decide) f24) ⟨kv_349, kv_62, kv_63, kv_64, kv_65⟩ rfl ⟨by decide, by decide, by decide⟩ ⟨Nat.le_of_ble_eq_true rfl, Nat.le_of_ble_eq_true rfl⟩ ⟨Nat.zero_le _, Nat.zero_le _⟩ (by decide) f24 rfl rfl hl.1 rfl (Nat.le_of_ble_eq_true rfl) dX8_forget_35 (fun r25 w26 H locs hp27 h => ?_)
    obtain ⟨e28r, e28⟩ := hp27
    subst e28r
    have f29 : w26 8 = .inr (4, [.ref (ad 9), .int 0]) := (congrFun e28 _).trans (va_up_self _ _ _)
    have ok30 : OK cI cB cZ cO ad w26 := OK.up ok e28 (sR_mk (by decide) (by decide))
    have kx31 : KT w w26 := KT.up KT.rf e28 f24 rfl
    exact e_i X h hr hlk dX8_forget_38 ⟨ok30, kx31, trivial⟩
  by_cases hq32 : (u).toInt = 1
  · refine lv_lookup (tgt := 39) (off := 38) hx hb dX8_forget_1 (by decide) (by rw [hq32]; rfl) (by decide) ?_
    refine lv_aload_n hx hb dX8_forget_39 rfl (lv_at hl 0 rfl) ?_
    obtain ⟨x34, x35, q36, q37, q38, f33⟩ := (show sN ad (w 0) from ok 0 (by decide))
    have f39 : w 0 = .inr (6, [.ref (ad 1), .ref (ad 14), .ref (ad 27), .ref (ad 54), .ref (ad 55), .ref (ad 58), .ref (ad 62), .long x34, .long x35, .int q36, .int q37, .int q38]) := f33
    refine r_get kc8 X h 0 0 (by decide) rfl f39 (by decide) kv_172 rfl dX8_forget_40 ?_
    obtain ⟨q41, q42, q43, q44, q45, f40, h46, h47, h48, h49⟩ := (show sI ad 1 (w 1) from ok 1 (by decide))
    have f50 : w 1 = .inr (1, [.int q41, .int q42, .int q43, .int q44, .int q45, .ref (ad 2), .ref (ad 3), .ref (ad 4), .ref (ad 5), .ref (ad 6), .ref (ad 7), .ref (ad 8), .ref (ad 10), .ref (ad 12)]) := f40
    refine r_get kc2 X h 1 12 (by decide) rfl f50 (by decide) kv_188 rfl dX8_forget_43 ?_
    obtain ⟨z52, f51, h53, h54⟩ := (show sR ad 4 11 6 (w 10) from ok 10 (by decide))
    have f55 : w 10 = .inr (4, [.ref (ad 11), .int z52]) := f51
    refine n_Vi (na := 0) (As := []) (rest := []) X hD hN h rfl (c_R_empty l G cI cB cZ cO ad w 10 _ _ (by decide) f55) ⟨kv_349, kv_62, kv_63, kv_64, kv_65⟩ rfl ⟨by decide, by decide, by decide⟩ ⟨Nat.le_of_ble_eq_true rfl, Nat.le_of_ble_eq_true rfl⟩ ⟨Nat.zero_le _, Nat.zero_le _⟩ (by decide) f55 rfl rfl hl.1 rfl (Nat.le_of_ble_eq_true rfl) dX8_forget_46 (fun r56 w57 H locs hp58 h => ?_)
    obtain ⟨e59r, e59⟩ := hp58
    subst e59r
    have f60 : w57 10 = .inr (4, [.ref (ad 11), .int 0]) := (congrFun e59 _).trans (va_up_self _ _ _)
    have ok61 : OK cI cB cZ cO ad w57 := OK.up ok e59 (sR_mk (by decide) (by decide))
    have kx62 : KT w w57 := KT.up KT.rf e59 f55 rfl
    exact e_i X h hr hlk dX8_forget_49 ⟨ok61, kx62, trivial⟩
  refine lv_lookup (tgt := 50) (off := 49) hx hb dX8_forget_1 (by decide) (by show (if (0 : Int) = _ then _ else if (1 : Int) = _ then _ else _) = _; rw [if_neg (by omega), if_neg (by omega)]; rfl) (by decide) ?_
  refine lv_aload_n hx hb dX8_forget_50 rfl (lv_at hl 0 rfl) ?_
  refine lv_bipush (v := (-2)) hx hb dX8_forget_51 (by decide) ?_
  obtain ⟨x67, x68, q69, q70, q71, f66⟩ := (show sN ad (w 0) from ok 0 (by decide))
  have f72 : w 0 = .inr (6, [.ref (ad 1), .ref (ad 14), .ref (ad 27), .ref (ad 54), .ref (ad 55), .ref (ad 58), .ref (ad 62), .long x67, .long x68, .int q69, .int q70, .int q71]) := f66
  refine n_Vi (na := 1) (As := [.int (-2)]) (rest := []) X hD hN h rfl (c_refused l G cI cB cZ cO ad w  ok ((-2) : Int32)  ) ⟨kv_227, kv_228, kv_229, kv_212, kv_230⟩ rfl ⟨by decide, by decide, by decide⟩ ⟨Nat.le_of_ble_eq_true rfl, Nat.le_of_ble_eq_true rfl⟩ ⟨Nat.zero_le _, Nat.zero_le _⟩ (by decide) f72 rfl rfl hl.1 rfl (Nat.le_of_ble_eq_true rfl) dX8_forget_53 (fun r63 w64 H locs hp65 h => ?_)
  obtain ⟨ok74, kk75, hr73⟩ := hp65
  have kx76 : KT w w64 := kk75.t
  subst hr73
  exact e_i X h hr hlk dX8_forget_56 ⟨ok74, kx76, trivial⟩
