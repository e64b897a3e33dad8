set_option maxHeartbeats 4000000 in
set_option maxRecDepth 100000 in
theorem c_M_island_ (l : Launch) (G : va_G) (cI cB cZ cO : ClassId) (ad : Nat → Nat) (w : Nat → va_E)  (ok : OK cI cB cZ cO ad w) (t : Int32)   : NI l G (tyq cI cB cZ cO) yX9_island cX9_island 3 (some .int) 1 25 74 ad w [.ref (ad 64), .int t] (fun r w1 => OK cI cB cZ cO ad w1 ∧ KN w w1 ∧ True) := by
  refine nk_i (own := "NoonShadeModel") rfl (by decide) (Nat.le_of_ble_eq_true rfl) ?_
  intro p e s m below meth c ls X hD hN hr hlk h hl
  have hx := X.1.1
  have hb := X.1.2.1
  have hown := X.1.2.2.2.1
  have hts := X.1.2.2.2.2
  have hl : lv_has ls 3 [(0, .ref (ad 64)), (1, .int t)] := hl
  refine lv_iload_n hx hb dX9_island_0 rfl (lv_at hl 1 rfl) ?_
  obtain ⟨z1, e2⟩ : ∃ z : Int64, t.toInt64 = z := ⟨_, rfl⟩
  have tz1 : z1.toInt = (t).toInt := by rw [← e2]; exact Int32.toInt_toInt64 _
  refine lv_i2l (v := z1) hx hb dX9_island_1 e2 ?_
  refine lv_lconst (v := 0) hx hb dX9_island_2 (by decide) ?_
  refine lv_ldc2 (v := 99) hx hb hown (hts _ kv_631) dX9_island_3 ?_
  refine n_Si (na := 3) (As := [.long z1, .long 0, .long 99]) (rest := []) X hD hN h (c_M_in l G cI cB cZ cO ad w z1 (0 : Int64) (99 : Int64) ((t).toInt) 0 99 tz1 rfl rfl) ⟨kv_468, kv_469, kv_470, kv_471⟩ ⟨by decide, by decide, by decide⟩ ⟨Nat.le_of_ble_eq_true rfl, Nat.le_of_ble_eq_true rfl⟩ ⟨Nat.zero_le _, Nat.zero_le _⟩ rfl hl.1 rfl (Nat.le_of_ble_eq_true rfl) dX9_island_6 (fun r3 w4 H locs hp5 h => ?_)
  obtain ⟨rfl, hq6⟩ := hp5
  rcases hq6 with ⟨hq7, hq8, rfl⟩ | ⟨hq6, rfl⟩
  · refine lv_if_ne (tgt := 19) hx hb dX9_island_9 (by decide) (fun _ => ?_) (fun hc => absurd hc (by decide))
    refine lv_aload_n hx hb dX9_island_19 rfl (lv_at hl 0 rfl) ?_
    obtain ⟨x10, x11, t12, t13, t14, t15, t16, t17, f9, h18, h19⟩ := (show sM ad (w 64) from ok 64 (by decide))
    have f20 : w 64 = .inr (7, [.ref (ad 65), .ref (ad 66), .ref (ad 67), .ref (ad 68), .long x10, .long x11, .ref (ad 69), .int t12, .ref (ad 70), .ref (ad 71), .int t13, .int t14, .int t15, .int t16, .int t17, .ref (ad 72), .ref (ad 73)]) := f9
    refine r_get kc9 X h 64 0 (by decide) rfl f20 (by decide) kv_467 rfl dX9_island_20 ?_
    refine lv_iconst (v := 0) hx hb dX9_island_23 (by decide) ?_
    obtain ⟨g22, f21, p23⟩ := (show sA cI 177 (alA) (w 65) from ok 65 (by decide))
    have f24 : w 65 = .inl (cI, 177, .inl g22) := f21
    obtain ⟨v25, e26⟩ : ∃ z : Int32, g22 0 = z := ⟨_, rfl⟩
    have h27 := (alA_rd p23 e26).1 rfl
    refine o_iald (v := v25) X h 65 0 (by decide) rfl f24 rfl (by unfold vp_in; decide) e26 dX9_island_24 ?_
    refine lv_istore_n (lv' := [(2, .int v25), (0, .ref (ad 64)), (1, .int t)]) hx hb dX9_island_25 rfl hl (by decide) rfl (fun ls hl => ?_)
    refine lv_aload_n hx hb dX9_island_26 rfl (lv_at hl 1 rfl) ?_
    refine r_get kc9 X h 64 0 (by decide) rfl f20 (by decide) kv_467 rfl dX9_island_27 ?_
    refine lv_iload_n hx hb dX9_island_30 rfl (lv_at hl 2 rfl) ?_
    refine n_Sv (na := 2) (As := [.ref (ad 65), .int t]) (rest := []) X hD hN h (c_M_begin65 l G cI cB cZ cO ad w  ok t ) ⟨kv_632, kv_633, kv_470, kv_634⟩ ⟨by decide, by decide, by decide⟩ ⟨Nat.le_of_ble_eq_true rfl, Nat.le_of_ble_eq_true rfl⟩ ⟨Nat.zero_le _, Nat.zero_le _⟩ rfl hl.1 rfl (Nat.le_of_ble_eq_true rfl) dX9_island_31 (fun w29 H locs hp30 h => ?_)
    obtain ⟨ok31, kk32, hr33⟩ := hp30
    have kx34 : KN w w29 := kk32
    refine lv_iload_n hx hb dX9_island_34 rfl (lv_at hl 0 rfl) ?_
    exact e_i X h hr hlk dX9_island_35 ⟨ok31, kx34, trivial⟩
  · refine lv_if_ne (tgt := 19) hx hb dX9_island_9 (by decide) (fun hc => absurd (by decide) hc) (fun _ => ?_)
    refine lv_aload_n hx hb dX9_island_12 rfl (lv_at hl 0 rfl) ?_
    refine lv_bipush (v := (-2)) hx hb dX9_island_13 (by decide) ?_
    obtain ⟨x39, x40, t41, t42, t43, t44, t45, t46, f38, h47, h48⟩ := (show sM ad (w 64) from ok 64 (by decide))
    have f49 : w 64 = .inr (7, [.ref (ad 65), .ref (ad 66), .ref (ad 67), .ref (ad 68), .long x39, .long x40, .ref (ad 69), .int t41, .ref (ad 70), .ref (ad 71), .int t42, .int t43, .int t44, .int t45, .int t46, .ref (ad 72), .ref (ad 73)]) := f38
    refine n_Vi (na := 1) (As := [.int (-2)]) (rest := []) X hD hN h rfl (c_M_bad l G cI cB cZ cO ad w  ok ((-2) : Int32)  ) ⟨kv_553, kv_554, kv_555, kv_470, kv_556⟩ rfl ⟨by decide, by decide, by decide⟩ ⟨Nat.le_of_ble_eq_true rfl, Nat.le_of_ble_eq_true rfl⟩ ⟨Nat.zero_le _, Nat.zero_le _⟩ (by decide) f49 rfl rfl hl.1 rfl (Nat.le_of_ble_eq_true rfl) dX9_island_15 (fun r35 w36 H locs hp37 h => ?_)
    obtain ⟨ok51, kk52, hr50⟩ := hp37
    have kx53 : KN w w36 := kk52.n
    subst hr50
    exact e_i X h hr hlk dX9_island_18 ⟨ok51, kx53, trivial⟩

set_option maxHeartbeats 4000000 in
set_option maxRecDepth 100000 in
theorem c_M_caster_ (l : Launch) (G : va_G) (cI cB cZ cO : ClassId) (ad : Nat → Nat) (w : Nat → va_E)  (ok : OK cI cB cZ cO ad w) (k : Int32) (q : Int32) (t : Int32)   : NI l G (tyq cI cB cZ cO) yX9_caster cX9_caster 4 (some .int) 2 45 74 ad w [.ref (ad 64), .int k, .int q, .int t] (fun r w1 => OK cI cB cZ cO ad w1 ∧ KN w w1 ∧ True) := by
  refine nk_i (own := "NoonShadeModel") rfl (by decide) (Nat.le_of_ble_eq_true rfl) ?_
  intro p e s m below meth c ls X hD hN hr hlk h hl
  have hx := X.1.1
  have hb := X.1.2.1
  have hown := X.1.2.2.2.1
  have hts := X.1.2.2.2.2
  have hl : lv_has ls 4 [(0, .ref (ad 64)), (1, .int k), (2, .int q), (3, .int t)] := hl
  refine lv_iload_n hx hb dX9_caster_0 rfl (lv_at hl 1 rfl) ?_
  refine n_Si (na := 1) (As := [.int k]) (rest := []) X hD hN h (c_M_isKind l G cI cB cZ cO ad w   k  ) ⟨kv_635, kv_636, kv_470, kv_637⟩ ⟨by decide, by decide, by decide⟩ ⟨Nat.le_of_ble_eq_true rfl, Nat.le_of_ble_eq_true rfl⟩ ⟨Nat.zero_le _, Nat.zero_le _⟩ rfl hl.1 rfl (Nat.le_of_ble_eq_true rfl) dX9_caster_1 (fun r1 w2 H locs hp3 h => ?_)
  obtain ⟨rfl, hr4⟩ := hp3
  rcases hr4 with ⟨hq5, hq6, rfl⟩ | ⟨hq7, rfl⟩
  · refine lv_if_eq (tgt := 21) hx hb dX9_caster_4 (by decide) (fun hc => absurd hc (by decide)) (fun _ => ?_)
    refine lv_iload_n hx hb dX9_caster_7 rfl (lv_at hl 2 rfl) ?_
    refine n_Si (na := 1) (As := [.int q]) (rest := []) X hD hN h (c_M_isHeight l G cI cB cZ cO ad w   q  ) ⟨kv_638, kv_639, kv_470, kv_640⟩ ⟨by decide, by decide, by decide⟩ ⟨Nat.le_of_ble_eq_true rfl, Nat.le_of_ble_eq_true rfl⟩ ⟨Nat.zero_le _, Nat.zero_le _⟩ rfl hl.1 rfl (Nat.le_of_ble_eq_true rfl) dX9_caster_8 (fun r8 w9 H locs hp10 h => ?_)
    obtain ⟨rfl, hr11⟩ := hp10
    rcases hr11 with ⟨hq12, hq13, rfl⟩ | ⟨hq14, rfl⟩
    · refine lv_if_eq (tgt := 21) hx hb dX9_caster_11 (by decide) (fun hc => absurd hc (by decide)) (fun _ => ?_)
      refine lv_iload_n hx hb dX9_caster_14 rfl (lv_at hl 3 rfl) ?_
      refine n_Si (na := 1) (As := [.int t]) (rest := []) X hD hN h (c_M_isTaste l G cI cB cZ cO ad w   t  ) ⟨kv_576, kv_577, kv_470, kv_578⟩ ⟨by decide, by decide, by decide⟩ ⟨Nat.le_of_ble_eq_true rfl, Nat.le_of_ble_eq_true rfl⟩ ⟨Nat.zero_le _, Nat.zero_le _⟩ rfl hl.1 rfl (Nat.le_of_ble_eq_true rfl) dX9_caster_15 (fun r15 w16 H locs hp17 h => ?_)
      obtain ⟨rfl, hr18⟩ := hp17
      rcases hr18 with ⟨hq19, hq20, rfl⟩ | ⟨hq21, rfl⟩
      · refine lv_if_ne (tgt := 28) hx hb dX9_caster_18 (by decide) (fun _ => ?_) (fun hc => absurd hc (by decide))
        refine lv_aload_n hx hb dX9_caster_28 rfl (lv_at hl 0 rfl) ?_
        obtain ⟨x23, x24, t25, t26, t27, t28, t29, t30, f22, h31, h32⟩ := (show sM ad (w 64) from ok 64 (by decide))
        have f33 : w 64 = .inr (7, [.ref (ad 65), .ref (ad 66), .ref (ad 67), .ref (ad 68), .long x23, .long x24, .ref (ad 69), .int t25, .ref (ad 70), .ref (ad 71), .int t26, .int t27, .int t28, .int t29, .int t30, .ref (ad 72), .ref (ad 73)]) := f22
        refine r_get kc9 X h 64 0 (by decide) rfl f33 (by decide) kv_467 rfl dX9_caster_29 ?_
        refine lv_iconst (v := 0) hx hb dX9_caster_32 (by decide) ?_
        obtain ⟨g35, f34, p36⟩ := (show sA cI 177 (alA) (w 65) from ok 65 (by decide))
        have f37 : w 65 = .inl (cI, 177, .inl g35) := f34
        obtain ⟨v38, e39⟩ : ∃ z : Int32, g35 0 = z := ⟨_, rfl⟩
        have h40 := (alA_rd p36 e39).1 rfl
        refine o_iald (v := v38) X h 65 0 (by decide) rfl f37 rfl (by unfold vp_in; decide) e39 dX9_caster_33 ?_
        refine lv_bipush (v := 7) hx hb dX9_caster_34 (by decide) ?_
        refine lv_icmp_ne (tgt := 44) hx hb dX9_caster_36 (by decide) (fun hc41 => ?_) (fun hc41 => ?_)
        · have hc41 : ¬ (v38).toInt = 7 := i_ne hc41 rfl rfl
          refine lv_aload_n hx hb dX9_caster_44 rfl (lv_at hl 0 rfl) ?_
          refine r_get kc9 X h 64 0 (by decide) rfl f33 (by decide) kv_467 rfl dX9_caster_45 ?_
          refine lv_iload_n hx hb dX9_caster_48 rfl (lv_at hl 1 rfl) ?_
          refine lv_iload_n hx hb dX9_caster_49 rfl (lv_at hl 2 rfl) ?_
          refine lv_iload_n hx hb dX9_caster_50 rfl (lv_at hl 3 rfl) ?_
          refine n_Sv (na := 4) (As := [.ref (ad 65), .int k, .int q, .int t]) (rest := []) X hD hN h (c_M_layCaster65 l G cI cB cZ cO ad w g35 ok k q t f37 p36 (by rw [e39]; omega)) ⟨kv_641, kv_642, kv_470, kv_643⟩ ⟨by decide, by decide, by decide⟩ ⟨Nat.le_of_ble_eq_true rfl, Nat.le_of_ble_eq_true rfl⟩ ⟨Nat.zero_le _, Nat.zero_le _⟩ rfl hl.1 rfl (Nat.le_of_ble_eq_true rfl) dX9_caster_51 (fun w43 H locs hp44 h => ?_)
          obtain ⟨ok45, kk46, hr47⟩ := hp44
          have kx48 : KN w w43 := kk46
          refine lv_aload_n hx hb dX9_caster_54 rfl (lv_at hl 0 rfl) ?_
          obtain ⟨x50, x51, t52, t53, t54, t55, t56, t57, f49, h58, h59⟩ := (show sM ad (w43 64) from ok45 64 (by decide))
          have f60 : w43 64 = .inr (7, [.ref (ad 65), .ref (ad 66), .ref (ad 67), .ref (ad 68), .long x50, .long x51, .ref (ad 69), .int t52, .ref (ad 70), .ref (ad 71), .int t53, .int t54, .int t55, .int t56, .int t57, .ref (ad 72), .ref (ad 73)]) := f49
          refine r_get kc9 X h 64 0 (by decide) rfl f60 (by decide) kv_467 rfl dX9_caster_55 ?_
          refine lv_iconst (v := 4) hx hb dX9_caster_58 (by decide) ?_
          refine lv_iconst (v := 0) hx hb dX9_caster_59 (by decide) ?_
          obtain ⟨g62, f61, p63⟩ := (show sA cI 177 (alA) (w43 65) from ok45 65 (by decide))
          have f64 : w43 65 = .inl (cI, 177, .inl g62) := f61
          obtain ⟨g65, e66⟩ : ∃ z : Nat → Int32, upd g62 4 (0 : Int32) = z := ⟨_, rfl⟩
          have p67 : alA g65 := alA_upd5 p63 e66 (by decide) (by decide)
          refine o_iast (f1 := g65) X hD h 65 0 (by decide) rfl f64 rfl (by unfold vp_in; decide) e66 dX9_caster_60 (fun H locs w68 e69 h => ?_)
          have f70 : w68 65 = .inl (cI, 177, .inl g65) := (congrFun e69 _).trans (va_up_self _ _ _)
          have ok71 : OK cI cB cZ cO ad w68 := OK.up ok45 e69 (sA_mk p67)
          have kx72 : KN w w68 := KN.up kx48 e69 f64 rfl
          refine lv_aload_n hx hb dX9_caster_61 rfl (lv_at hl 0 rfl) ?_
          have f73 : w68 64 = .inr (7, [.ref (ad 65), .ref (ad 66), .ref (ad 67), .ref (ad 68), .long x50, .long x51, .ref (ad 69), .int t52, .ref (ad 70), .ref (ad 71), .int t53, .int t54, .int t55, .int t56, .int t57, .ref (ad 72), .ref (ad 73)]) := by rw [e69, va_up_ne _ _ (by decide)]; exact f60
          refine r_get kc9 X h 64 0 (by decide) rfl f73 (by decide) kv_467 rfl dX9_caster_62 ?_
          refine lv_iconst (v := 0) hx hb dX9_caster_65 (by decide) ?_
          obtain ⟨v74, e75⟩ : ∃ z : Int32, g65 0 = z := ⟨_, rfl⟩
          have h76 := (alA_rd p67 e75).1 rfl
          refine o_iald (v := v74) X h 65 0 (by decide) rfl f70 rfl (by unfold vp_in; decide) e75 dX9_caster_66 ?_
          refine lv_iconst (v := 1) hx hb dX9_caster_67 (by decide) ?_
          obtain ⟨z79, e77, t78⟩ := x_sub (x := v74) (y := (1 : Int32)) (a := (v74).toInt) (b := 1) rfl rfl (by omega) (by omega)
          refine o_isub (z := z79) hx hb dX9_caster_68 e77 ?_
          exact e_i X h hr hlk dX9_caster_69 ⟨ok71, kx72, trivial⟩
        · have hc41 : (v38).toInt = 7 := i_eq hc41 rfl rfl
          refine lv_aload_n hx hb dX9_caster_39 rfl (lv_at hl 0 rfl) ?_
          refine n_Vi (na := 0) (As := []) (rest := []) X hD hN h rfl (c_M_full l G cI cB cZ cO ad w  ok   ) ⟨kv_644, kv_645, kv_646, kv_470, kv_647⟩ rfl ⟨by decide, by decide, by decide⟩ ⟨Nat.le_of_ble_eq_true rfl, Nat.le_of_ble_eq_true rfl⟩ ⟨Nat.zero_le _, Nat.zero_le _⟩ (by decide) f33 rfl rfl hl.1 rfl (Nat.le_of_ble_eq_true rfl) dX9_caster_40 (fun r80 w81 H locs hp82 h => ?_)
          obtain ⟨ok84, kk85, hr83⟩ := hp82
          have kx86 : KN w w81 := kk85.n
          subst hr83
          exact e_i X h hr hlk dX9_caster_43 ⟨ok84, kx86, trivial⟩
      · refine lv_if_ne (tgt := 28) hx hb dX9_caster_18 (by decide) (fun hc => absurd (by decide) hc) (fun _ => ?_)
        refine lv_aload_n hx hb dX9_caster_21 rfl (lv_at hl 0 rfl) ?_
        refine lv_bipush (v := (-2)) hx hb dX9_caster_22 (by decide) ?_
        obtain ⟨x91, x92, t93, t94, t95, t96, t97, t98, f90, h99, h100⟩ := (show sM ad (w 64) from ok 64 (by decide))
        have f101 : w 64 = .inr (7, [.ref (ad 65), .ref (ad 66), .ref (ad 67), .ref (ad 68), .long x91, .long x92, .ref (ad 69), .int t93, .ref (ad 70), .ref (ad 71), .int t94, .int t95, .int t96, .int t97, .int t98, .ref (ad 72), .ref (ad 73)]) := f90
        refine n_Vi (na := 1) (As := [.int (-2)]) (rest := []) X hD hN h rfl (c_M_bad l G cI cB cZ cO ad w  ok ((-2) : Int32)  ) ⟨kv_553, kv_554, kv_555, kv_470, kv_556⟩ rfl ⟨by decide, by decide, by decide⟩ ⟨Nat.le_of_ble_eq_true rfl, Nat.le_of_ble_eq_true rfl⟩ ⟨Nat.zero_le _, Nat.zero_le _⟩ (by decide) f101 rfl rfl hl.1 rfl (Nat.le_of_ble_eq_true rfl) dX9_caster_24 (fun r87 w88 H locs hp89 h => ?_)
        obtain ⟨ok103, kk104, hr102⟩ := hp89
        have kx105 : KN w w88 := kk104.n
        subst hr102
        exact e_i X h hr hlk dX9_caster_27 ⟨ok103, kx105, trivial⟩
    · refine lv_if_eq (tgt := 21) hx hb dX9_caster_11 (by decide) (fun _ => ?_) (fun hc => absurd (by decide) hc)
      refine lv_aload_n hx hb dX9_caster_21 rfl (lv_at hl 0 rfl) ?_
      refine lv_bipush (v := (-2)) hx hb dX9_caster_22 (by decide) ?_
      obtain ⟨x110, x111, t112, t113, t114, t115, t116, t117, f109, h118, h119⟩ := (show sM ad (w 64) from ok 64 (by decide))
      have f120 : w 64 = .inr (7, [.ref (ad 65), .ref (ad 66), .ref (ad 67), .ref (ad 68), .long x110, .long x111, .ref (ad 69), .int t112, .ref (ad 70), .ref (ad 71), .int t113, .int t114, .int t115, .int t116, .int t117, .ref (ad 72), .ref (ad 73)]) := f109
      refine n_Vi (na := 1) (As := [.int (-2)]) (rest := []) X hD hN h rfl (c_M_bad l G cI cB cZ cO ad w  ok ((-2) : Int32)  ) ⟨kv_553, kv_554, kv_555, kv_470, kv_556⟩ rfl ⟨by decide, by decide, by decide⟩ ⟨Nat.le_of_ble_eq_true rfl, Nat.le_of_ble_eq_true rfl⟩ ⟨Nat.zero_le _, Nat.zero_le _⟩ (by decide) f120 rfl rfl hl.1 rfl (Nat.le_of_ble_eq_true rfl) dX9_caster_24 (fun r106 w107 H locs hp108 h => ?_)
      obtain ⟨ok122, kk123, hr121⟩ := hp108
      have kx124 : KN w w107 := kk123.n
      subst hr121
      exact e_i X h hr hlk dX9_caster_27 ⟨ok122, kx124, trivial⟩
  · refine lv_if_eq (tgt := 21) hx hb dX9_caster_4 (by decide) (fun _ => ?_) (fun hc => absurd (by decide) hc)
    refine lv_aload_n hx hb dX9_caster_21 rfl (lv_at hl 0 rfl) ?_
    refine lv_bipush (v := (-2)) hx hb dX9_caster_22 (by decide) ?_
    obtain ⟨x129, x130, t131, t132, t133, t134, t135, t136, f128, h137, h138⟩ := (show sM ad (w 64) from ok 64 (by decide))
    have f139 : w 64 = .inr (7, [.ref (ad 65), .ref (ad 66), .ref (ad 67), .ref (ad 68), .long x129, .long x130, .ref (ad 69), .int t131, .ref (ad 70), .ref (ad 71), .int t132, .int t133, .int t134, .int t135, .int t136, .ref (ad 72), .ref (ad 73)]) := f128
    refine n_Vi (na := 1) (As := [.int (-2)]) (rest := []) X hD hN h rfl (c_M_bad l G cI cB cZ cO ad w  ok ((-2) : Int32)  ) ⟨kv_553, kv_554, kv_555, kv_470, kv_556⟩ rfl ⟨by decide, by decide, by decide⟩ ⟨Nat.le_of_ble_eq_true rfl, Nat.le_of_ble_eq_true rfl⟩ ⟨Nat.zero_le _, Nat.zero_le _⟩ (by decide) f139 rfl rfl hl.1 rfl (Nat.le_of_ble_eq_true rfl) dX9_caster_24 (fun r125 w126 H locs hp127 h => ?_)
    obtain ⟨ok141, kk142, hr140⟩ := hp127
    have kx143 : KN w w126 := kk142.n
    subst hr140
    exact e_i X h hr hlk dX9_caster_27 ⟨ok141, kx143, trivial⟩

set_option maxHeartbeats 4000000 in
set_option maxRecDepth 100000 in
theorem c_M_jar_ (l : Launch) (G : va_G) (cI cB cZ cO : ClassId) (ad : Nat → Nat) (w : Nat → va_E)  (ok : OK cI cB cZ cO ad w) (k : Int32)   : NI l G (tyq cI cB cZ cO) yX9_jar cX9_jar 2 (some .int) 2 45 74 ad w [.ref (ad 64), .int k] (fun r w1 => OK cI cB cZ cO ad w1 ∧ KN w w1 ∧ True) := by
  refine nk_i (own := "NoonShadeModel") rfl (by decide) (Nat.le_of_ble_eq_true rfl) ?_
  intro p e s m below meth c ls X hD hN hr hlk h hl
  have hx := X.1.1
  have hb := X.1.2.1
  have hown := X.1.2.2.2.1
  have hts := X.1.2.2.2.2
  have hl : lv_has ls 2 [(0, .ref (ad 64)), (1, .int k)] := hl
  refine lv_iload_n hx hb dX9_jar_0 rfl (lv_at hl 1 rfl) ?_
  refine n_Si (na := 1) (As := [.int k]) (rest := []) X hD hN h (c_M_isKind l G cI cB cZ cO ad w   k  ) ⟨kv_635, kv_636, kv_470, kv_637⟩ ⟨by decide, by decide, by decide⟩ ⟨Nat.le_of_ble_eq_true rfl, Nat.le_of_ble_eq_true rfl⟩ ⟨Nat.zero_le _, Nat.zero_le _⟩ rfl hl.1 rfl (Nat.le_of_ble_eq_true rfl) dX9_jar_1 (fun r1 w2 H locs hp3 h => ?_)
  obtain ⟨rfl, hr4⟩ := hp3
  rcases hr4 with ⟨hq5, hq6, rfl⟩ | ⟨hq7, rfl⟩
  · refine lv_if_ne (tgt := 14) hx hb dX9_jar_4 (by decide) (fun _ => ?_) (fun hc => absurd hc (by decide))
    refine lv_aload_n hx hb dX9_jar_14 rfl (lv_at hl 0 rfl) ?_
    obtain ⟨x9, x10, t11, t12, t13, t14, t15, t16, f8, h17, h18⟩ := (show sM ad (w 64) from ok 64 (by decide))
    have f19 : w 64 = .inr (7, [.ref (ad 65), .ref (ad 66), .ref (ad 67), .ref (ad 68), .long x9, .long x10, .ref (ad 69), .int t11, .ref (ad 70), .ref (ad 71), .int t12, .int t13, .int t14, .int t15, .int t16, .ref (ad 72), .ref (ad 73)]) := f8
    refine r_get kc9 X h 64 0 (by decide) rfl f19 (by decide) kv_467 rfl dX9_jar_15 ?_
    refine lv_iconst (v := 1) hx hb dX9_jar_18 (by decide) ?_
    obtain ⟨g21, f20, p22⟩ := (show sA cI 177 (alA) (w 65) from ok 65 (by decide))
    have f23 : w 65 = .inl (cI, 177, .inl g21) := f20
    obtain ⟨v24, e25⟩ : ∃ z : Int32, g21 1 = z := ⟨_, rfl⟩
    have h26 := (alA_rd p22 e25).2.1 rfl
    refine o_iald (v := v24) X h 65 0 (by decide) rfl f23 rfl (by unfold vp_in; decide) e25 dX9_jar_19 ?_
    refine lv_iconst (v := 4) hx hb dX9_jar_20 (by decide) ?_
    refine lv_icmp_ne (tgt := 29) hx hb dX9_jar_21 (by decide) (fun hc27 => ?_) (fun hc27 => ?_)
    · have hc27 : ¬ (v24).toInt = 4 := i_ne hc27 rfl rfl
      refine lv_aload_n hx hb dX9_jar_29 rfl (lv_at hl 0 rfl) ?_
      refine r_get kc9 X h 64 0 (by decide) rfl f19 (by decide) kv_467 rfl dX9_jar_30 ?_
      refine lv_iload_n hx hb dX9_jar_33 rfl (lv_at hl 1 rfl) ?_
      refine n_Sv (na := 2) (As := [.ref (ad 65), .int k]) (rest := []) X hD hN h (c_M_layJar65 l G cI cB cZ cO ad w g21 ok k f23 p22 (by rw [e25]; omega)) ⟨kv_648, kv_649, kv_470, kv_650⟩ ⟨by decide, by decide, by decide⟩ ⟨Nat.le_of_ble_eq_true rfl, Nat.le_of_ble_eq_true rfl⟩ ⟨Nat.zero_le _, Nat.zero_le _⟩ rfl hl.1 rfl (Nat.le_of_ble_eq_true rfl) dX9_jar_34 (fun w29 H locs hp30 h => ?_)
      obtain ⟨ok31, kk32, hr33⟩ := hp30
      have kx34 : KN w w29 := kk32
      refine lv_aload_n hx hb dX9_jar_37 rfl (lv_at hl 0 rfl) ?_
      obtain ⟨x36, x37, t38, t39, t40, t41, t42, t43, f35, h44, h45⟩ := (show sM ad (w29 64) from ok31 64 (by decide))
      have f46 : w29 64 = .inr (7, [.ref (ad 65), .ref (ad 66), .ref (ad 67), .ref (ad 68), .long x36, .long x37, .ref (ad 69), .int t38, .ref (ad 70), .ref (ad 71), .int t39, .int t40, .int t41, .int t42, .int t43, .ref (ad 72), .ref (ad 73)]) := f35
      refine r_get kc9 X h 64 0 (by decide) rfl f46 (by decide) kv_467 rfl dX9_jar_38 ?_
      refine lv_iconst (v := 4) hx hb dX9_jar_41 (by decide) ?_
      refine lv_iconst (v := 0) hx hb dX9_jar_42 (by decide) ?_
      obtain ⟨g48, f47, p49⟩ := (show sA cI 177 (alA) (w29 65) from ok31 65 (by decide))
      have f50 : w29 65 = .inl (cI, 177, .inl g48) := f47
      obtain ⟨g51, e52⟩ : ∃ z : Nat → Int32, upd g48 4 (0 : Int32) = z := ⟨_, rfl⟩
      have p53 : alA g51 := alA_upd5 p49 e52 (by decide) (by decide)
      refine o_iast (f1 := g51) X hD h 65 0 (by decide) rfl f50 rfl (by unfold vp_in; decide) e52 dX9_jar_43 (fun H locs w54 e55 h => ?_)
      have f56 : w54 65 = .inl (cI, 177, .inl g51) := (congrFun e55 _).trans (va_up_self _ _ _)
      have ok57 : OK cI cB cZ cO ad w54 := OK.up ok31 e55 (sA_mk p53)
      have kx58 : KN w w54 := KN.up kx34 e55 f50 rfl
      refine lv_aload_n hx hb dX9_jar_44 rfl (lv_at hl 0 rfl) ?_
      have f59 : w54 64 = .inr (7, [.ref (ad 65), .ref (ad 66), .ref (ad 67), .ref (ad 68), .long x36, .long x37, .ref (ad 69), .int t38, .ref (ad 70), .ref (ad 71), .int t39, .int t40, .int t41, .int t42, .int t43, .ref (ad 72), .ref (ad 73)]) := by rw [e55, va_up_ne _ _ (by decide)]; exact f46
      refine r_get kc9 X h 64 0 (by decide) rfl f59 (by decide) kv_467 rfl dX9_jar_45 ?_
      refine lv_iconst (v := 1) hx hb dX9_jar_48 (by decide) ?_
      obtain ⟨v60, e61⟩ : ∃ z : Int32, g51 1 = z := ⟨_, rfl⟩
      have h62 := (alA_rd p53 e61).2.1 rfl
      refine o_iald (v := v60) X h 65 0 (by decide) rfl f56 rfl (by unfold vp_in; decide) e61 dX9_jar_49 ?_
      refine lv_iconst (v := 1) hx hb dX9_jar_50 (by decide) ?_
      obtain ⟨z65, e63, t64⟩ := x_sub (x := v60) (y := (1 : Int32)) (a := (v60).toInt) (b := 1) rfl rfl (by omega) (by omega)
      refine o_isub (z := z65) hx hb dX9_jar_51 e63 ?_
      exact e_i X h hr hlk dX9_jar_52 ⟨ok57, kx58, trivial⟩
    · have hc27 : (v24).toInt = 4 := i_eq hc27 rfl rfl
      refine lv_aload_n hx hb dX9_jar_24 rfl (lv_at hl 0 rfl) ?_
      refine n_Vi (na := 0) (As := []) (rest := []) X hD hN h rfl (c_M_full l G cI cB cZ cO ad w  ok   ) ⟨kv_644, kv_645, kv_646, kv_470, kv_647⟩ rfl ⟨by decide, by decide, by decide⟩ ⟨Nat.le_of_ble_eq_true rfl, Nat.le_of_ble_eq_true rfl⟩ ⟨Nat.zero_le _, Nat.zero_le _⟩ (by decide) f19 rfl rfl hl.1 rfl (Nat.le_of_ble_eq_true rfl) dX9_jar_25 (fun r66 w67 H locs hp68 h => ?_)
      obtain ⟨ok70, kk71, hr69⟩ := hp68
      have kx72 : KN w w67 := kk71.n
      subst hr69
      exact e_i X h hr hlk dX9_jar_28 ⟨ok70, kx72, trivial⟩
  · refine lv_if_ne (tgt := 14) hx hb dX9_jar_4 (by decide) (fun hc => absurd (by decide) hc) (fun _ => ?_)
    refine lv_aload_n hx hb dX9_jar_7 rfl (lv_at hl 0 rfl) ?_
    refine lv_bipush (v := (-2)) hx hb dX9_jar_8 (by decide) ?_
    obtain ⟨x77, x78, t79, t80, t81, t82, t83, t84, f76, h85, h86⟩ := (show sM ad (w 64) from ok 64 (by decide))
    have f87 : w 64 = .inr (7, [.ref (ad 65), .ref (ad 66), .ref (ad 67), .ref (ad 68), .long x77, .long x78, .ref (ad 69), .int t79, .ref (ad 70), .ref (ad 71), .int t80, .int t81, .int t82, .int t83, .int t84, .ref (ad 72), .ref (ad 73)]) := f76
    refine n_Vi (na := 1) (As := [.int (-2)]) (rest := []) X hD hN h rfl (c_M_bad l G cI cB cZ cO ad w  ok ((-2) : Int32)  ) ⟨kv_553, kv_554, kv_555, kv_470, kv_556⟩ rfl ⟨by decide, by decide, by decide⟩ ⟨Nat.le_of_ble_eq_true rfl, Nat.le_of_ble_eq_true rfl⟩ ⟨Nat.zero_le _, Nat.zero_le _⟩ (by decide) f87 rfl rfl hl.1 rfl (Nat.le_of_ble_eq_true rfl) dX9_jar_10 (fun r73 w74 H locs hp75 h => ?_)
    obtain ⟨ok89, kk90, hr88⟩ := hp75
    have kx91 : KN w w74 := kk90.n
    subst hr88
    exact e_i X h hr hlk dX9_jar_13 ⟨ok89, kx91, trivial⟩

set_option maxHeartbeats 4000000 in
set_option maxRecDepth 100000 in
theorem c_M_layFour (l : Launch) (G : va_G) (cI cB cZ cO : ClassId) (ad : Nat → Nat) (w : Nat → va_E) (f : Nat → Int32) (ok : OK cI cB cZ cO ad w) (x : Int32) (a : Int32) (y : Int32) (t : Int32) (d : Int32) (hl_x : 5 ≤ x.toInt) (hh_x : x.toInt ≤ 85) (pf : w 65 = .inl (cI, 177, .inl f)) (pf1 : alA f) : NV l G (tyq cI cB cZ cO) yX9_layFour cX9_layFour 6 0 0 74 ad w [.ref (ad 64), .int x, .int a, .int y, .int t, .int d] (fun w1 => OK cI cB cZ cO ad w1 ∧ KN w w1 ∧ ∃ f1 : Nat → Int32, w1 65 = .inl (cI, 177, .inl f1) ∧ alA f1 ∧ f1 2 = f 2 ∧ f1 3 = f 3) := by
  refine nk_v (own := "NoonShadeModel") rfl (by decide) (Nat.le_of_ble_eq_true rfl) ?_
  intro p e s m below meth c ls X hD hN hr hlk h hl
  have hx := X.1.1
  have hb := X.1.2.1
  have hown := X.1.2.2.2.1
  have hts := X.1.2.2.2.2
  have hl : lv_has ls 6 [(0, .ref (ad 64)), (1, .int x), (2, .int a), (3, .int y), (4, .int t), (5, .int d)] := hl
  obtain ⟨v2, ev2⟩ : ∃ z : Int32, f 2 = z := ⟨_, rfl⟩
  obtain ⟨v3, ev3⟩ : ∃ z : Int32, f 3 = z := ⟨_, rfl⟩
  refine lv_aload_n hx hb dX9_layFour_0 rfl (lv_at hl 0 rfl) ?_
  obtain ⟨x2, x3, t4, t5, t6, t7, t8, t9, f1, h10, h11⟩ := (show sM ad (w 64) from ok 64 (by decide))
  have f12 : w 64 = .inr (7, [.ref (ad 65), .ref (ad 66), .ref (ad 67), .ref (ad 68), .long x2, .long x3, .ref (ad 69), .int t4, .ref (ad 70), .ref (ad 71), .int t5, .int t6, .int t7, .int t8, .int t9, .ref (ad 72), .ref (ad 73)]) := f1
  refine r_get kc9 X h 64 0 (by decide) rfl f12 (by decide) kv_467 rfl dX9_layFour_1 ?_
  refine lv_iload_n hx hb dX9_layFour_4 rfl (lv_at hl 1 rfl) ?_
  refine lv_iload_n hx hb dX9_layFour_5 rfl (lv_at hl 2 rfl) ?_
  obtain ⟨g13, e14⟩ : ∃ z : Nat → Int32, upd f (x).toNatClampNeg a = z := ⟨_, rfl⟩
  have p15 : alA g13 := alA_upd pf1 e14 (by have := cl_of (x := x) (by omega); omega)
  refine o_iast (f1 := g13) X hD h 65 0 (by decide) rfl pf rfl (in_of (by omega) (by omega)) e14 dX9_layFour_6 (fun H locs w16 e17 h => ?_)
  have f18 : w16 65 = .inl (cI, 177, .inl g13) := (congrFun e17 _).trans (va_up_self _ _ _)
  have ok19 : OK cI cB cZ cO ad w16 := OK.up ok e17 (sA_mk p15)
  have kx20 : KN w w16 := KN.up KN.rf e17 pf rfl
  refine lv_aload_n hx hb dX9_layFour_7 rfl (lv_at hl 0 rfl) ?_
  have f21 : w16 64 = .inr (7, [.ref (ad 65), .ref (ad 66), .ref (ad 67), .ref (ad 68), .long x2, .long x3, .ref (ad 69), .int t4, .ref (ad 70), .ref (ad 71), .int t5, .int t6, .int t7, .int t8, .int t9, .ref (ad 72), .ref (ad 73)]) := by rw [e17, va_up_ne _ _ (by decide)]; exact f12
  refine r_get kc9 X h 64 0 (by decide) rfl f21 (by decide) kv_467 rfl dX9_layFour_8 ?_
  refine lv_iload_n hx hb dX9_layFour_11 rfl (lv_at hl 1 rfl) ?_
  refine lv_iconst (v := 1) hx hb dX9_layFour_12 (by decide) ?_
  obtain ⟨z24, e22, t23⟩ := x_add (x := x) (y := (1 : Int32)) (a := (x).toInt) (b := 1) rfl rfl (by omega) (by omega)
  refine o_iadd (z := z24) hx hb dX9_layFour_13 e22 ?_
  refine lv_iload_n hx hb dX9_layFour_14 rfl (lv_at hl 3 rfl) ?_
  obtain ⟨g25, e26⟩ : ∃ z : Nat → Int32, upd g13 (z24).toNatClampNeg y = z := ⟨_, rfl⟩
  have p27 : alA g25 := alA_upd p15 e26 (by have := cl_of (x := z24) (by omega); omega)
  refine o_iast (f1 := g25) X hD h 65 0 (by decide) rfl f18 rfl (in_of (by omega) (by omega)) e26 dX9_layFour_15 (fun H locs w28 e29 h => ?_)
  have f30 : w28 65 = .inl (cI, 177, .inl g25) := (congrFun e29 _).trans (va_up_self _ _ _)
  have ok31 : OK cI cB cZ cO ad w28 := OK.up ok19 e29 (sA_mk p27)
  have kx32 : KN w w28 := KN.up kx20 e29 f18 rfl
  refine lv_aload_n hx hb dX9_layFour_16 rfl (lv_at hl 0 rfl) ?_
  have f33 : w28 64 = .inr (7, [.ref (ad 65), .ref (ad 66), .ref (ad 67), .ref (ad 68), .long x2, .long x3, .ref (ad 69), .int t4, .ref (ad 70), .ref (ad 71), .int t5, .int t6, .int t7, .int t8, .int t9, .ref (ad 72), .ref (ad 73)]) := by rw [e29, va_up_ne _ _ (by decide)]; exact f21
  refine r_get kc9 X h 64 0 (by decide) rfl f33 (by decide) kv_467 rfl dX9_layFour_17 ?_
  refine lv_iload_n hx hb dX9_layFour_20 rfl (lv_at hl 1 rfl) ?_
  refine lv_iconst (v := 2) hx hb dX9_layFour_21 (by decide) ?_
  obtain ⟨z36, e34, t35⟩ := x_add (x := x) (y := (2 : Int32)) (a := (x).toInt) (b := 2) rfl rfl (by omega) (by omega)
  refine o_iadd (z := z36) hx hb dX9_layFour_22 e34 ?_
  refine lv_iload hx hb dX9_layFour_23 (lv_at hl 4 rfl) ?_
  obtain ⟨g37, e38⟩ : ∃ z : Nat → Int32, upd g25 (z36).toNatClampNeg t = z := ⟨_, rfl⟩
  have p39 : alA g37 := alA_upd p27 e38 (by have := cl_of (x := z36) (by omega); omega)
  refine o_iast (f1 := g37) X hD h 65 0 (by decide) rfl f30 rfl (in_of (by omega) (by omega)) e38 dX9_layFour_25 (fun H locs w40 e41 h => ?_)
  have f42 : w40 65 = .inl (cI, 177, .inl g37) := (congrFun e41 _).trans (va_up_self _ _ _)
  have ok43 : OK cI cB cZ cO ad w40 := OK.up ok31 e41 (sA_mk p39)
  have kx44 : KN w w40 := KN.up kx32 e41 f30 rfl
  refine lv_aload_n hx hb dX9_layFour_26 rfl (lv_at hl 0 rfl) ?_
  have f45 : w40 64 = .inr (7, [.ref (ad 65), .ref (ad 66), .ref (ad 67), .ref (ad 68), .long x2, .long x3, .ref (ad 69), .int t4, .ref (ad 70), .ref (ad 71), .int t5, .int t6, .int t7, .int t8, .int t9, .ref (ad 72), .ref (ad 73)]) := by rw [e41, va_up_ne _ _ (by decide)]; exact f33
  refine r_get kc9 X h 64 0 (by decide) rfl f45 (by decide) kv_467 rfl dX9_layFour_27 ?_
  refine lv_iload_n hx hb dX9_layFour_30 rfl (lv_at hl 1 rfl) ?_
  refine lv_iconst (v := 3) hx hb dX9_layFour_31 (by decide) ?_
  obtain ⟨z48, e46, t47⟩ := x_add (x := x) (y := (3 : Int32)) (a := (x).toInt) (b := 3) rfl rfl (by omega) (by omega)
  refine o_iadd (z := z48) hx hb dX9_layFour_32 e46 ?_
  refine lv_iload hx hb dX9_layFour_33 (lv_at hl 5 rfl) ?_
  obtain ⟨g49, e50⟩ : ∃ z : Nat → Int32, upd g37 (z48).toNatClampNeg d = z := ⟨_, rfl⟩
  have p51 : alA g49 := alA_upd p39 e50 (by have := cl_of (x := z48) (by omega); omega)
  refine o_iast (f1 := g49) X hD h 65 0 (by decide) rfl f42 rfl (in_of (by omega) (by omega)) e50 dX9_layFour_35 (fun H locs w52 e53 h => ?_)
  have f54 : w52 65 = .inl (cI, 177, .inl g49) := (congrFun e53 _).trans (va_up_self _ _ _)
  have ok55 : OK cI cB cZ cO ad w52 := OK.up ok43 e53 (sA_mk p51)
  have kx56 : KN w w52 := KN.up kx44 e53 f42 rfl
  have e57 : g49 2 = v2 := by rw [← e50, pk_un (by have := cl_of (x := z48) (by omega); omega), ← e38, pk_un (by have := cl_of (x := z36) (by omega); omega), ← e26, pk_un (by have := cl_of (x := z24) (by omega); omega), ← e14, pk_un (by have := cl_of (x := x) (by omega); omega)]; exact ev2
  have e58 : g49 3 = v3 := by rw [← e50, pk_un (by have := cl_of (x := z48) (by omega); omega), ← e38, pk_un (by have := cl_of (x := z36) (by omega); omega), ← e26, pk_un (by have := cl_of (x := z24) (by omega); omega), ← e14, pk_un (by have := cl_of (x := x) (by omega); omega)]; exact ev3
  exact e_v X h hr hlk dX9_layFour_36 ⟨ok55, kx56, ⟨g49, f54, p51, e57.trans ev2.symm, e58.trans ev3.symm⟩⟩

set_option maxHeartbeats 4000000 in
set_option maxRecDepth 100000 in
theorem c_M_note_ (l : Launch) (G : va_G) (cI cB cZ cO : ClassId) (ad : Nat → Nat) (w : Nat → va_E)  (ok : OK cI cB cZ cO ad w) (i : Int32) (q : Int32) (t : Int32) (x : Int32)   : NI l G (tyq cI cB cZ cO) yX9_note cX9_note 5 (some .int) 2 46 74 ad w [.ref (ad 64), .int i, .int q, .int t, .int x] (fun r w1 => OK cI cB cZ cO ad w1 ∧ KN w w1 ∧ True) := by
  refine nk_i (own := "NoonShadeModel") rfl (by decide) (Nat.le_of_ble_eq_true rfl) ?_
  intro p e s m below meth c ls X hD hN hr hlk h hl
  have hx := X.1.1
  have hb := X.1.2.1
  have hown := X.1.2.2.2.1
  have hts := X.1.2.2.2.2
  have hl : lv_has ls 5 [(0, .ref (ad 64)), (1, .int i), (2, .int q), (3, .int t), (4, .int x)] := hl
  refine lv_aload_n hx hb dX9_note_0 rfl (lv_at hl 0 rfl) ?_
  refine lv_iload_n hx hb dX9_note_1 rfl (lv_at hl 1 rfl) ?_
  obtain ⟨x5, x6, t7, t8, t9, t10, t11, t12, f4, h13, h14⟩ := (show sM ad (w 64) from ok 64 (by decide))
  have f15 : w 64 = .inr (7, [.ref (ad 65), .ref (ad 66), .ref (ad 67), .ref (ad 68), .long x5, .long x6, .ref (ad 69), .int t7, .ref (ad 70), .ref (ad 71), .int t8, .int t9, .int t10, .int t11, .int t12, .ref (ad 72), .ref (ad 73)]) := f4
  refine n_Vi (na := 1) (As := [.int i]) (rest := []) X hD hN h rfl (c_M_isCaster l G cI cB cZ cO ad w  ok i  ) ⟨kv_519, kv_520, kv_521, kv_470, kv_522⟩ rfl ⟨by decide, by decide, by decide⟩ ⟨Nat.le_of_ble_eq_true rfl, Nat.le_of_ble_eq_true rfl⟩ ⟨Nat.zero_le _, Nat.zero_le _⟩ (by decide) f15 rfl rfl hl.1 rfl (Nat.le_of_ble_eq_true rfl) dX9_note_2 (fun r1 w2 H locs hp3 h => ?_)
  obtain ⟨rfl, hr16⟩ := hp3
  rcases hr16 with ⟨hq17, hq18, rfl⟩ | rfl
  · refine lv_if_eq (tgt := 35) hx hb dX9_note_5 (by decide) (fun hc => absurd hc (by decide)) (fun _ => ?_)
    refine lv_iload_n hx hb dX9_note_8 rfl (lv_at hl 2 rfl) ?_
    refine n_Si (na := 1) (As := [.int q]) (rest := []) X hD hN h (c_M_isHeight l G cI cB cZ cO ad w   q  ) ⟨kv_638, kv_639, kv_470, kv_640⟩ ⟨by decide, by decide, by decide⟩ ⟨Nat.le_of_ble_eq_true rfl, Nat.le_of_ble_eq_true rfl⟩ ⟨Nat.zero_le _, Nat.zero_le _⟩ rfl hl.1 rfl (Nat.le_of_ble_eq_true rfl) dX9_note_9 (fun r19 w20 H locs hp21 h => ?_)
    obtain ⟨rfl, hr22⟩ := hp21
    rcases hr22 with ⟨hq23, hq24, rfl⟩ | ⟨hq25, rfl⟩
    · refine lv_if_eq (tgt := 35) hx hb dX9_note_12 (by decide) (fun hc => absurd hc (by decide)) (fun _ => ?_)
      refine lv_iload_n hx hb dX9_note_15 rfl (lv_at hl 3 rfl) ?_
      refine n_Si (na := 1) (As := [.int t]) (rest := []) X hD hN h (c_M_isHour l G cI cB cZ cO ad w   t  ) ⟨kv_651, kv_652, kv_470, kv_653⟩ ⟨by decide, by decide, by decide⟩ ⟨Nat.le_of_ble_eq_true rfl, Nat.le_of_ble_eq_true rfl⟩ ⟨Nat.zero_le _, Nat.zero_le _⟩ rfl hl.1 rfl (Nat.le_of_ble_eq_true rfl) dX9_note_16 (fun r26 w27 H locs hp28 h => ?_)
      obtain ⟨rfl, hr29⟩ := hp28
      rcases hr29 with ⟨hq30, hq31, rfl⟩ | ⟨hq32, rfl⟩
      · refine lv_if_eq (tgt := 35) hx hb dX9_note_19 (by decide) (fun hc => absurd hc (by decide)) (fun _ => ?_)
        refine lv_iload hx hb dX9_note_22 (lv_at hl 4 rfl) ?_
        obtain ⟨z33, e34⟩ : ∃ z : Int64, x.toInt64 = z := ⟨_, rfl⟩
        have tz33 : z33.toInt = (x).toInt := by rw [← e34]; exact Int32.toInt_toInt64 _
        refine lv_i2l (v := z33) hx hb dX9_note_24 e34 ?_
        refine lv_lconst (v := 0) hx hb dX9_note_25 (by decide) ?_
        refine lv_ldc2 (v := 40) hx hb hown (hts _ kv_654) dX9_note_26 ?_
        refine n_Si (na := 3) (As := [.long z33, .long 0, .long 40]) (rest := []) X hD hN h (c_M_in l G cI cB cZ cO ad w z33 (0 : Int64) (40 : Int64) ((x).toInt) 0 40 tz33 rfl rfl) ⟨kv_468, kv_469, kv_470, kv_471⟩ ⟨by decide, by decide, by decide⟩ ⟨Nat.le_of_ble_eq_true rfl, Nat.le_of_ble_eq_true rfl⟩ ⟨Nat.zero_le _, Nat.zero_le _⟩ rfl hl.1 rfl (Nat.le_of_ble_eq_true rfl) dX9_note_29 (fun r35 w36 H locs hp37 h => ?_)
        obtain ⟨rfl, hq38⟩ := hp37
        rcases hq38 with ⟨hq39, hq40, rfl⟩ | ⟨hq38, rfl⟩
        · refine lv_if_ne (tgt := 42) hx hb dX9_note_32 (by decide) (fun _ => ?_) (fun hc => absurd hc (by decide))
          refine lv_aload_n hx hb dX9_note_42 rfl (lv_at hl 0 rfl) ?_
          refine r_get kc9 X h 64 0 (by decide) rfl f15 (by decide) kv_467 rfl dX9_note_43 ?_
          refine lv_iconst (v := 2) hx hb dX9_note_46 (by decide) ?_
          obtain ⟨g42, f41, p43⟩ := (show sA cI 177 (alA) (w 65) from ok 65 (by decide))
          have f44 : w 65 = .inl (cI, 177, .inl g42) := f41
          obtain ⟨v45, e46⟩ : ∃ z : Int32, g42 2 = z := ⟨_, rfl⟩
          have h47 := (alA_rd p43 e46).2.2.1 rfl
          refine o_iald (v := v45) X h 65 0 (by decide) rfl f44 rfl (by unfold vp_in; decide) e46 dX9_note_47 ?_
          refine lv_bipush (v := 6) hx hb dX9_note_48 (by decide) ?_
          refine lv_icmp_ne (tgt := 58) hx hb dX9_note_50 (by decide) (fun hc48 => ?_) (fun hc48 => ?_)
          · have hc48 : ¬ (v45).toInt = 6 := i_ne hc48 rfl rfl
            refine lv_aload_n hx hb dX9_note_58 rfl (lv_at hl 0 rfl) ?_
            refine lv_bipush (v := 41) hx hb dX9_note_59 (by decide) ?_
            refine lv_iconst (v := 4) hx hb dX9_note_61 (by decide) ?_
            refine lv_aload_n hx hb dX9_note_62 rfl (lv_at hl 0 rfl) ?_
            refine r_get kc9 X h 64 0 (by decide) rfl f15 (by decide) kv_467 rfl dX9_note_63 ?_
            refine lv_iconst (v := 2) hx hb dX9_note_66 (by decide) ?_
            refine o_iald (v := v45) X h 65 0 (by decide) rfl f44 rfl (by unfold vp_in; decide) e46 dX9_note_67 ?_
            obtain ⟨z51, e49, t50⟩ := x_mul (x := (4 : Int32)) (y := v45) (a := 4) (b := (v45).toInt) rfl rfl (by omega) (by omega)
            refine o_imul (z := z51) hx hb dX9_note_68 e49 ?_
            obtain ⟨z54, e52, t53⟩ := x_add (x := (41 : Int32)) (y := z51) (a := 41) (b := (z51).toInt) rfl rfl (by omega) (by omega)
            refine o_iadd (z := z54) hx hb dX9_note_69 e52 ?_
            refine lv_iload_n hx hb dX9_note_70 rfl (lv_at hl 1 rfl) ?_
            refine lv_iload_n hx hb dX9_note_71 rfl (lv_at hl 2 rfl) ?_
            refine lv_iload_n hx hb dX9_note_72 rfl (lv_at hl 3 rfl) ?_
            refine lv_iload hx hb dX9_note_73 (lv_at hl 4 rfl) ?_
            refine n_Vv (na := 5) (As := [.int z54, .int i, .int q, .int t, .int x]) (rest := []) X hD hN h rfl (c_M_layFour l G cI cB cZ cO ad w g42 ok z54 i q t x (by omega) (by omega) f44 p43) ⟨kv_655, kv_656, kv_657, kv_470, kv_658⟩ rfl ⟨by decide, by decide, by decide⟩ ⟨Nat.le_of_ble_eq_true rfl, Nat.le_of_ble_eq_true rfl⟩ ⟨Nat.zero_le _, Nat.zero_le _⟩ (by decide) f15 rfl rfl hl.1 rfl (Nat.le_of_ble_eq_true rfl) dX9_note_75 (fun w56 H locs hp57 h => ?_)
            obtain ⟨ok58, kk59, g60, f61, p62, h63, h64⟩ := hp57
            have kx65 : KN w w56 := kk59
            have e66 : g60 2 = v45 := h63.trans e46
            refine lv_aload_n hx hb dX9_note_78 rfl (lv_at hl 0 rfl) ?_
            obtain ⟨x68, x69, t70, t71, t72, t73, t74, t75, f67, h76, h77⟩ := (show sM ad (w56 64) from ok58 64 (by decide))
            have f78 : w56 64 = .inr (7, [.ref (ad 65), .ref (ad 66), .ref (ad 67), .ref (ad 68), .long x68, .long x69, .ref (ad 69), .int t70, .ref (ad 70), .ref (ad 71), .int t71, .int t72, .int t73, .int t74, .int t75, .ref (ad 72), .ref (ad 73)]) := f67
            refine r_get kc9 X h 64 0 (by decide) rfl f78 (by decide) kv_467 rfl dX9_note_79 ?_
            refine lv_iconst (v := 2) hx hb dX9_note_82 (by decide) ?_
            refine lv_dup2_11 hx hb dX9_note_83 rfl rfl ?_
            refine o_iald (v := v45) X h 65 0 (by decide) rfl f61 rfl (by unfold vp_in; decide) e66 dX9_note_84 ?_
            refine lv_iconst (v := 1) hx hb dX9_note_85 (by decide) ?_
            obtain ⟨z81, e79, t80⟩ := x_add (x := v45) (y := (1 : Int32)) (a := (v45).toInt) (b := 1) rfl rfl (by omega) (by omega)
            refine o_iadd (z := z81) hx hb dX9_note_86 e79 ?_
            obtain ⟨g82, e83⟩ : ∃ z : Nat → Int32, upd g60 2 z81 = z := ⟨_, rfl⟩
            have p84 : alA g82 := alA_upd5 p62 e83 (by omega) (by first | omega | (simp; omega))
            refine o_iast (f1 := g82) X hD h 65 0 (by decide) rfl f61 rfl (by unfold vp_in; decide) e83 dX9_note_87 (fun H locs w85 e86 h => ?_)
            have f87 : w85 65 = .inl (cI, 177, .inl g82) := (congrFun e86 _).trans (va_up_self _ _ _)
            have ok88 : OK cI cB cZ cO ad w85 := OK.up ok58 e86 (sA_mk p84)
            have kx89 : KN w w85 := KN.up kx65 e86 f61 rfl
            refine lv_aload_n hx hb dX9_note_88 rfl (lv_at hl 0 rfl) ?_
            have f90 : w85 64 = .inr (7, [.ref (ad 65), .ref (ad 66), .ref (ad 67), .ref (ad 68), .long x68, .long x69, .ref (ad 69), .int t70, .ref (ad 70), .ref (ad 71), .int t71, .int t72, .int t73, .int t74, .int t75, .ref (ad 72), .ref (ad 73)]) := by rw [e86, va_up_ne _ _ (by decide)]; exact f78
            refine r_get kc9 X h 64 0 (by decide) rfl f90 (by decide) kv_467 rfl dX9_note_89 ?_
            refine lv_iconst (v := 2) hx hb dX9_note_92 (by decide) ?_
            have e91 : g82 2 = z81 := by rw [← e83, pk_us]
            refine o_iald (v := z81) X h 65 0 (by decide) rfl f87 rfl (by unfold vp_in; decide) e91 dX9_note_93 ?_
            exact e_i X h hr hlk dX9_note_94 ⟨ok88, kx89, trivial⟩
          · have hc48 : (v45).toInt = 6 := i_eq hc48 rfl rfl
            refine lv_aload_n hx hb dX9_note_53 rfl (lv_at hl 0 rfl) ?_
            refine n_Vi (na := 0) (As := []) (rest := []) X hD hN h rfl (c_M_full l G cI cB cZ cO ad w  ok   ) ⟨kv_644, kv_645, kv_646, kv_470, kv_647⟩ rfl ⟨by decide, by decide, by decide⟩ ⟨Nat.le_of_ble_eq_true rfl, Nat.le_of_ble_eq_true rfl⟩ ⟨Nat.zero_le _, Nat.zero_le _⟩ (by decide) f15 rfl rfl hl.1 rfl (Nat.le_of_ble_eq_true rfl) dX9_note_54 (fun r92 w93 H locs hp94 h => ?_)
            obtain ⟨ok96, kk97, hr95⟩ := hp94
            have kx98 : KN w w93 := kk97.n
            subst hr95
            exact e_i X h hr hlk dX9_note_57 ⟨ok96, kx98, trivial⟩
        · refine lv_if_ne (tgt := 42) hx hb dX9_note_32 (by decide) (fun hc => absurd (by decide) hc) (fun _ => ?_)
          refine lv_aload_n hx hb dX9_note_35 rfl (lv_at hl 0 rfl) ?_
          refine lv_bipush (v := (-2)) hx hb dX9_note_36 (by decide) ?_
          refine n_Vi (na := 1) (As := [.int (-2)]) (rest := []) X hD hN h rfl (c_M_bad l G cI cB cZ cO ad w  ok ((-2) : Int32)  ) ⟨kv_553, kv_554, kv_555, kv_470, kv_556⟩ rfl ⟨by decide, by decide, by decide⟩ ⟨Nat.le_of_ble_eq_true rfl, Nat.le_of_ble_eq_true rfl⟩ ⟨Nat.zero_le _, Nat.zero_le _⟩ (by decide) f15 rfl rfl hl.1 rfl (Nat.le_of_ble_eq_true rfl) dX9_note_38 (fun r99 w100 H locs hp101 h => ?_)
          obtain ⟨ok103, kk104, hr102⟩ := hp101
          have kx105 : KN w w100 := kk104.n
          subst hr102
          exact e_i X h hr hlk dX9_note_41 ⟨ok103, kx105, trivial⟩
      · refine lv_if_eq (tgt := 35) hx hb dX9_note_19 (by decide) (fun _ => ?_) (fun hc => absurd (by decide) hc)
        refine lv_aload_n hx hb dX9_note_35 rfl (lv_at hl 0 rfl) ?_
        refine lv_bipush (v := (-2)) hx hb dX9_note_36 (by decide) ?_
        refine n_Vi (na := 1) (As := [.int (-2)]) (rest := []) X hD hN h rfl (c_M_bad l G cI cB cZ cO ad w  ok ((-2) : Int32)  ) ⟨kv_553, kv_554, kv_555, kv_470, kv_556⟩ rfl ⟨by decide, by decide, by decide⟩ ⟨Nat.le_of_ble_eq_true rfl, Nat.le_of_ble_eq_true rfl⟩ ⟨Nat.zero_le _, Nat.zero_le _⟩ (by decide) f15 rfl rfl hl.1 rfl (Nat.le_of_ble_eq_true rfl) dX9_note_38 (fun r106 w107 H locs hp108 h => ?_)
        obtain ⟨ok110, kk111, hr109⟩ := hp108
        have kx112 : KN w w107 := kk111.n
        subst hr109
        exact e_i X h hr hlk dX9_note_41 ⟨ok110, kx112, trivial⟩
    · refine lv_if_eq (tgt := 35) hx hb dX9_note_12 (by decide) (fun _ => ?_) (fun hc => absurd (by decide) hc)
      refine lv_aload_n hx hb dX9_note_35 rfl (lv_at hl 0 rfl) ?_
      refine lv_bipush (v := (-2)) hx hb dX9_note_36 (by decide) ?_
      refine n_Vi (na := 1) (As := [.int (-2)]) (rest := []) X hD hN h rfl (c_M_bad l G cI cB cZ cO ad w  ok ((-2) : Int32)  ) ⟨kv_553, kv_554, kv_555, kv_470, kv_556⟩ rfl ⟨by decide, by decide, by decide⟩ ⟨Nat.le_of_ble_eq_true rfl, Nat.le_of_ble_eq_true rfl⟩ ⟨Nat.zero_le _, Nat.zero_le _⟩ (by decide) f15 rfl rfl hl.1 rfl (Nat.le_of_ble_eq_true rfl) dX9_note_38 (fun r113 w114 H locs hp115 h => ?_)
      obtain ⟨ok117, kk118, hr116⟩ := hp115
      have kx119 : KN w w114 := kk118.n
      subst hr116
      exact e_i X h hr hlk dX9_note_41 ⟨ok117, kx119, trivial⟩
  · refine lv_if_eq (tgt := 35) hx hb dX9_note_5 (by decide) (fun _ => ?_) (fun hc => absurd (by decide) hc)
    refine lv_aload_n hx hb dX9_note_35 rfl (lv_at hl 0 rfl) ?_
    refine lv_bipush (v := (-2)) hx hb dX9_note_36 (by decide) ?_
    refine n_Vi (na := 1) (As := [.int (-2)]) (rest := []) X hD hN h rfl (c_M_bad l G cI cB cZ cO ad w  ok ((-2) : Int32)  ) ⟨kv_553, kv_554, kv_555, kv_470, kv_556⟩ rfl ⟨by decide, by decide, by decide⟩ ⟨Nat.le_of_ble_eq_true rfl, Nat.le_of_ble_eq_true rfl⟩ ⟨Nat.zero_le _, Nat.zero_le _⟩ (by decide) f15 rfl rfl hl.1 rfl (Nat.le_of_ble_eq_true rfl) dX9_note_38 (fun r120 w121 H locs hp122 h => ?_)
    obtain ⟨ok124, kk125, hr123⟩ := hp122
    have kx126 : KN w w121 := kk125.n
    subst hr123
    exact e_i X h hr hlk dX9_note_41 ⟨ok124, kx126, trivial⟩

set_option maxHeartbeats 4000000 in
set_option maxRecDepth 100000 in
theorem c_M_mark_ (l : Launch) (G : va_G) (cI cB cZ cO : ClassId) (ad : Nat → Nat) (w : Nat → va_E)  (ok : OK cI cB cZ cO ad w) (j : Int32) (q : Int32) (t : Int32) (x : Int32)   : NI l G (tyq cI cB cZ cO) yX9_mark cX9_mark 5 (some .int) 2 46 74 ad w [.ref (ad 64), .int j, .int q, .int t, .int x] (fun r w1 => OK cI cB cZ cO ad w1 ∧ KN w w1 ∧ True) := by
  refine nk_i (own := "NoonShadeModel") rfl (by decide) (Nat.le_of_ble_eq_true rfl) ?_
  intro p e s m below meth c ls X hD hN hr hlk h hl
  have hx := X.1.1
  have hb := X.1.2.1
  have hown := X.1.2.2.2.1
  have hts := X.1.2.2.2.2
  have hl : lv_has ls 5 [(0, .ref (ad 64)), (1, .int j), (2, .int q), (3, .int t), (4, .int x)] := hl
  refine lv_aload_n hx hb dX9_mark_0 rfl (lv_at hl 0 rfl) ?_
  refine lv_iload_n hx hb dX9_mark_1 rfl (lv_at hl 1 rfl) ?_
  obtain ⟨x5, x6, t7, t8, t9, t10, t11, t12, f4, h13, h14⟩ := (show sM ad (w 64) from ok 64 (by decide))
  have f15 : w 64 = .inr (7, [.ref (ad 65), .ref (ad 66), .ref (ad 67), .ref (ad 68), .long x5, .long x6, .ref (ad 69), .int t7, .ref (ad 70), .ref (ad 71), .int t8, .int t9, .int t10, .int t11, .int t12, .ref (ad 72), .ref (ad 73)]) := f4
  refine n_Vi (na := 1) (As := [.int j]) (rest := []) X hD hN h rfl (c_M_isJar l G cI cB cZ cO ad w  ok j  ) ⟨kv_541, kv_542, kv_543, kv_470, kv_544⟩ rfl ⟨by decide, by decide, by decide⟩ ⟨Nat.le_of_ble_eq_true rfl, Nat.le_of_ble_eq_true rfl⟩ ⟨Nat.zero_le _, Nat.zero_le _⟩ (by decide) f15 rfl rfl hl.1 rfl (Nat.le_of_ble_eq_true rfl) dX9_mark_2 (fun r1 w2 H locs hp3 h => ?_)
  obtain ⟨rfl, hr16⟩ := hp3
  rcases hr16 with ⟨hq17, hq18, rfl⟩ | rfl
  · refine lv_if_eq (tgt := 30) hx hb dX9_mark_5 (by decide) (fun hc => absurd hc (by decide)) (fun _ => ?_)
    refine lv_iload_n hx hb dX9_mark_8 rfl (lv_at hl 2 rfl) ?_
    refine n_Si (na := 1) (As := [.int q]) (rest := []) X hD hN h (c_M_isCool l G cI cB cZ cO ad w   q  ) ⟨kv_605, kv_606, kv_470, kv_607⟩ ⟨by decide, by decide, by decide⟩ ⟨Nat.le_of_ble_eq_true rfl, Nat.le_of_ble_eq_true rfl⟩ ⟨Nat.zero_le _, Nat.zero_le _⟩ rfl hl.1 rfl (Nat.le_of_ble_eq_true rfl) dX9_mark_9 (fun r19 w20 H locs hp21 h => ?_)
    obtain ⟨rfl, hr22⟩ := hp21
    rcases hr22 with ⟨hq23, hq24, rfl⟩ | ⟨hq25, rfl⟩
    · refine lv_if_eq (tgt := 30) hx hb dX9_mark_12 (by decide) (fun hc => absurd hc (by decide)) (fun _ => ?_)
      refine lv_iload_n hx hb dX9_mark_15 rfl (lv_at hl 3 rfl) ?_
      refine n_Si (na := 1) (As := [.int t]) (rest := []) X hD hN h (c_M_isHour l G cI cB cZ cO ad w   t  ) ⟨kv_651, kv_652, kv_470, kv_653⟩ ⟨by decide, by decide, by decide⟩ ⟨Nat.le_of_ble_eq_true rfl, Nat.le_of_ble_eq_true rfl⟩ ⟨Nat.zero_le _, Nat.zero_le _⟩ rfl hl.1 rfl (Nat.le_of_ble_eq_true rfl) dX9_mark_16 (fun r26 w27 H locs hp28 h => ?_)
      obtain ⟨rfl, hr29⟩ := hp28
      rcases hr29 with ⟨hq30, hq31, rfl⟩ | ⟨hq32, rfl⟩
      · refine lv_if_eq (tgt := 30) hx hb dX9_mark_19 (by decide) (fun hc => absurd hc (by decide)) (fun _ => ?_)
        refine lv_iload hx hb dX9_mark_22 (lv_at hl 4 rfl) ?_
        refine n_Si (na := 1) (As := [.int x]) (rest := []) X hD hN h (c_M_isCool l G cI cB cZ cO ad w   x  ) ⟨kv_605, kv_606, kv_470, kv_607⟩ ⟨by decide, by decide, by decide⟩ ⟨Nat.le_of_ble_eq_true rfl, Nat.le_of_ble_eq_true rfl⟩ ⟨Nat.zero_le _, Nat.zero_le _⟩ rfl hl.1 rfl (Nat.le_of_ble_eq_true rfl) dX9_mark_24 (fun r33 w34 H locs hp35 h => ?_)
        obtain ⟨rfl, hr36⟩ := hp35
        rcases hr36 with ⟨hq37, hq38, rfl⟩ | ⟨hq39, rfl⟩
        · refine lv_if_ne (tgt := 37) hx hb dX9_mark_27 (by decide) (fun _ => ?_) (fun hc => absurd hc (by decide))
          refine lv_aload_n hx hb dX9_mark_37 rfl (lv_at hl 0 rfl) ?_
          refine r_get kc9 X h 64 0 (by decide) rfl f15 (by decide) kv_467 rfl dX9_mark_38 ?_
          refine lv_iconst (v := 3) hx hb dX9_mark_41 (by decide) ?_
          obtain ⟨g41, f40, p42⟩ := (show sA cI 177 (alA) (w 65) from ok 65 (by decide))
          have f43 : w 65 = .inl (cI, 177, .inl g41) := f40
          obtain ⟨v44, e45⟩ : ∃ z : Int32, g41 3 = z := ⟨_, rfl⟩
          have h46 := (alA_rd p42 e45).2.2.2.1 rfl
          refine o_iald (v := v44) X h 65 0 (by decide) rfl f43 rfl (by unfold vp_in; decide) e45 dX9_mark_42 ?_
          refine lv_bipush (v := 6) hx hb dX9_mark_43 (by decide) ?_
          refine lv_icmp_ne (tgt := 53) hx hb dX9_mark_45 (by decide) (fun hc47 => ?_) (fun hc47 => ?_)
          · have hc47 : ¬ (v44).toInt = 6 := i_ne hc47 rfl rfl
            refine lv_aload_n hx hb dX9_mark_53 rfl (lv_at hl 0 rfl) ?_
            refine lv_bipush (v := 65) hx hb dX9_mark_54 (by decide) ?_
            refine lv_iconst (v := 4) hx hb dX9_mark_56 (by decide) ?_
            refine lv_aload_n hx hb dX9_mark_57 rfl (lv_at hl 0 rfl) ?_
            refine r_get kc9 X h 64 0 (by decide) rfl f15 (by decide) kv_467 rfl dX9_mark_58 ?_
            refine lv_iconst (v := 3) hx hb dX9_mark_61 (by decide) ?_
            refine o_iald (v := v44) X h 65 0 (by decide) rfl f43 rfl (by unfold vp_in; decide) e45 dX9_mark_62 ?_
            obtain ⟨z50, e48, t49⟩ := x_mul (x := (4 : Int32)) (y := v44) (a := 4) (b := (v44).toInt) rfl rfl (by omega) (by omega)
            refine o_imul (z := z50) hx hb dX9_mark_63 e48 ?_
            obtain ⟨z53, e51, t52⟩ := x_add (x := (65 : Int32)) (y := z50) (a := 65) (b := (z50).toInt) rfl rfl (by omega) (by omega)
            refine o_iadd (z := z53) hx hb dX9_mark_64 e51 ?_
            refine lv_iload_n hx hb dX9_mark_65 rfl (lv_at hl 1 rfl) ?_
            refine lv_iload_n hx hb dX9_mark_66 rfl (lv_at hl 2 rfl) ?_
            refine lv_iload_n hx hb dX9_mark_67 rfl (lv_at hl 3 rfl) ?_
            refine lv_iload hx hb dX9_mark_68 (lv_at hl 4 rfl) ?_
            refine n_Vv (na := 5) (As := [.int z53, .int j, .int q, .int t, .int x]) (rest := []) X hD hN h rfl (c_M_layFour l G cI cB cZ cO ad w g41 ok z53 j q t x (by omega) (by omega) f43 p42) ⟨kv_655, kv_656, kv_657, kv_470, kv_658⟩ rfl ⟨by decide, by decide, by decide⟩ ⟨Nat.le_of_ble_eq_true rfl, Nat.le_of_ble_eq_true rfl⟩ ⟨Nat.zero_le _, Nat.zero_le _⟩ (by decide) f15 rfl rfl hl.1 rfl (Nat.le_of_ble_eq_true rfl) dX9_mark_70 (fun w55 H locs hp56 h => ?_)
            obtain ⟨ok57, kk58, g59, f60, p61, h62, h63⟩ := hp56
            have kx64 : KN w w55 := kk58
            have e65 : g59 3 = v44 := h63.trans e45
            refine lv_aload_n hx hb dX9_mark_73 rfl (lv_at hl 0 rfl) ?_
            obtain ⟨x67, x68, t69, t70, t71, t72, t73, t74, f66, h75, h76⟩ := (show sM ad (w55 64) from ok57 64 (by decide))
            have f77 : w55 64 = .inr (7, [.ref (ad 65), .ref (ad 66), .ref (ad 67), .ref (ad 68), .long x67, .long x68, .ref (ad 69), .int t69, .ref (ad 70), .ref (ad 71), .int t70, .int t71, .int t72, .int t73, .int t74, .ref (ad 72), .ref (ad 73)]) := f66
            refine r_get kc9 X h 64 0 (by decide) rfl f77 (by decide) kv_467 rfl dX9_mark_74 ?_
            refine lv_iconst (v := 3) hx hb dX9_mark_77 (by decide) ?_
            refine lv_dup2_11 hx hb dX9_mark_78 rfl rfl ?_
            refine o_iald (v := v44) X h 65 0 (by decide) rfl f60 rfl (by unfold vp_in; decide) e65 dX9_mark_79 ?_
            refine lv_iconst (v := 1) hx hb dX9_mark_80 (by decide) ?_
            obtain ⟨z80, e78, t79⟩ := x_add (x := v44) (y := (1 : Int32)) (a := (v44).toInt) (b := 1) rfl rfl (by omega) (by omega)
            refine o_iadd (z := z80) hx hb dX9_mark_81 e78 ?_
            obtain ⟨g81, e82⟩ : ∃ z : Nat → Int32, upd g59 3 z80 = z := ⟨_, rfl⟩
            have p83 : alA g81 := alA_upd5 p61 e82 (by omega) (by first | omega | (simp; omega))
            refine o_iast (f1 := g81) X hD h 65 0 (by decide) rfl f60 rfl (by unfold vp_in; decide) e82 dX9_mark_82 (fun H locs w84 e85 h => ?_)
            have f86 : w84 65 = .inl (cI, 177, .inl g81) := (congrFun e85 _).trans (va_up_self _ _ _)
            have ok87 : OK cI cB cZ cO ad w84 := OK.up ok57 e85 (sA_mk p83)
            have kx88 : KN w w84 := KN.up kx64 e85 f60 rfl
            refine lv_aload_n hx hb dX9_mark_83 rfl (lv_at hl 0 rfl) ?_
            have f89 : w84 64 = .inr (7, [.ref (ad 65), .ref (ad 66), .ref (ad 67), .ref (ad 68), .long x67, .long x68, .ref (ad 69), .int t69, .ref (ad 70), .ref (ad 71), .int t70, .int t71, .int t72, .int t73, .int t74, .ref (ad 72), .ref (ad 73)]) := by rw [e85, va_up_ne _ _ (by decide)]; exact f77
            refine r_get kc9 X h 64 0 (by decide) rfl f89 (by decide) kv_467 rfl dX9_mark_84 ?_
            refine lv_iconst (v := 3) hx hb dX9_mark_87 (by decide) ?_
            have e90 : g81 3 = z80 := by rw [← e82, pk_us]
            refine o_iald (v := z80) X h 65 0 (by decide) rfl f86 rfl (by unfold vp_in; decide) e90 dX9_mark_88 ?_
            exact e_i X h hr hlk dX9_mark_89 ⟨ok87, kx88, trivial⟩
          · have hc47 : (v44).toInt = 6 := i_eq hc47 rfl rfl
            refine lv_aload_n hx hb dX9_mark_48 rfl (lv_at hl 0 rfl) ?_
            refine n_Vi (na := 0) (As := []) (rest := []) X hD hN h rfl (c_M_full l G cI cB cZ cO ad w  ok   ) ⟨kv_644, kv_645, kv_646, kv_470, kv_647⟩ rfl ⟨by decide, by decide, by decide⟩ ⟨Nat.le_of_ble_eq_true rfl, Nat.le_of_ble_eq_true rfl⟩ ⟨Nat.zero_le _, Nat.zero_le _⟩ (by decide) f15 rfl rfl hl.1 rfl (Nat.le_of_ble_eq_true rfl) dX9_mark_49 (fun r91 w92 H locs hp93 h => ?_)
            obtain ⟨ok95, kk96, hr94⟩ := hp93
            have kx97 : KN w w92 := kk96.n
            subst hr94
            exact e_i X h hr hlk dX9_mark_52 ⟨ok95, kx97, trivial⟩
        · refine lv_if_ne (tgt := 37) hx hb dX9_mark_27 (by decide) (fun hc => absurd (by decide) hc) (fun _ => ?_)
          refine lv_aload_n hx hb dX9_mark_30 rfl (lv_at hl 0 rfl) ?_
          refine lv_bipush (v := (-2)) hx hb dX9_mark_31 (by decide) ?_
          refine n_Vi (na := 1) (As := [.int (-2)]) (rest := []) X hD hN h rfl (c_M_bad l G cI cB cZ cO ad w  ok ((-2) : Int32)  ) ⟨kv_553, kv_554, kv_555, kv_470, kv_556⟩ rfl ⟨by decide, by decide, by decide⟩ ⟨Nat.le_of_ble_eq_true rfl, Nat.le_of_ble_eq_true rfl⟩ ⟨Nat.zero_le _, Nat.zero_le _⟩ (by decide) f15 rfl rfl hl.1 rfl (Nat.le_of_ble_eq_true rfl) dX9_mark_33 (fun r98 w99 H locs hp100 h => ?_)
          obtain ⟨ok102, kk103, hr101⟩ := hp100
          have kx104 : KN w w99 := kk103.n
          subst hr101
          exact e_i X h hr hlk dX9_mark_36 ⟨ok102, kx104, trivial⟩
      · refine lv_if_eq (tgt := 30) hx hb dX9_mark_19 (by decide) (fun _ => ?_) (fun hc => absurd (by decide) hc)
        refine lv_aload_n hx hb dX9_mark_30 rfl (lv_at hl 0 rfl) ?_
        refine lv_bipush (v := (-2)) hx hb dX9_mark_31 (by decide) ?_
        refine n_Vi (na := 1) (As := [.int (-2)]) (rest := []) X hD hN h rfl (c_M_bad l G cI cB cZ cO ad w  ok ((-2) : Int32)  ) ⟨kv_553, kv_554, kv_555, kv_470, kv_556⟩ rfl ⟨by decide, by decide, by decide⟩ ⟨Nat.le_of_ble_eq_true rfl, Nat.le_of_ble_eq_true rfl⟩ ⟨Nat.zero_le _, Nat.zero_le _⟩ (by decide) f15 rfl rfl hl.1 rfl (Nat.le_of_ble_eq_true rfl) dX9_mark_33 (fun r105 w106 H locs hp107 h => ?_)
        obtain ⟨ok109, kk110, hr108⟩ := hp107
        have kx111 : KN w w106 := kk110.n
        subst hr108
        exact e_i X h hr hlk dX9_mark_36 ⟨ok109, kx111, trivial⟩
    · refine lv_if_eq (tgt := 30) hx hb dX9_mark_12 (by decide) (fun _ => ?_) (fun hc => absurd (by decide) hc)
      refine lv_aload_n hx hb dX9_mark_30 rfl (lv_at hl 0 rfl) ?_
      refine lv_bipush (v := (-2)) hx hb dX9_mark_31 (by decide) ?_
      refine n_Vi (na := 1) (As := [.int (-2)]) (rest := []) X hD hN h rfl (c_M_bad l G cI cB cZ cO ad w  ok ((-2) : Int32)  ) ⟨kv_553, kv_554, kv_555, kv_470, kv_556⟩ rfl ⟨by decide, by decide, by decide⟩ ⟨Nat.le_of_ble_eq_true rfl, Nat.le_of_ble_eq_true rfl⟩ ⟨Nat.zero_le _, Nat.zero_le _⟩ (by decide) f15 rfl rfl hl.1 rfl (Nat.le_of_ble_eq_true rfl) dX9_mark_33 (fun r112 w113 H locs hp114 h => ?_)
      obtain ⟨ok116, kk117, hr115⟩ := hp114
      have kx118 : KN w w113 := kk117.n
      subst hr115
      exact e_i X h hr hlk dX9_mark_36 ⟨ok116, kx118, trivial⟩
  · refine lv_if_eq (tgt := 30) hx hb dX9_mark_5 (by decide) (fun _ => ?_) (fun hc => absurd (by decide) hc)
    refine lv_aload_n hx hb dX9_mark_30 rfl (lv_at hl 0 rfl) ?_
    refine lv_bipush (v := (-2)) hx hb dX9_mark_31 (by decide) ?_
    refine n_Vi (na := 1) (As := [.int (-2)]) (rest := []) X hD hN h rfl (c_M_bad l G cI cB cZ cO ad w  ok ((-2) : Int32)  ) ⟨kv_553, kv_554, kv_555, kv_470, kv_556⟩ rfl ⟨by decide, by decide, by decide⟩ ⟨Nat.le_of_ble_eq_true rfl, Nat.le_of_ble_eq_true rfl⟩ ⟨Nat.zero_le _, Nat.zero_le _⟩ (by decide) f15 rfl rfl hl.1 rfl (Nat.le_of_ble_eq_true rfl) dX9_mark_33 (fun r119 w120 H locs hp121 h => ?_)
    obtain ⟨ok123, kk124, hr122⟩ := hp121
    have kx125 : KN w w120 := kk124.n
    subst hr122
    exact e_i X h hr hlk dX9_mark_36 ⟨ok123, kx125, trivial⟩

set_option maxHeartbeats 4000000 in
set_option maxRecDepth 100000 in
theorem c_M_forget_ (l : Launch) (G : va_G) (cI cB cZ cO : ClassId) (ad : Nat → Nat) (w : Nat → va_E)  (ok : OK cI cB cZ cO ad w) (u : Int32)   : NI l G (tyq cI cB cZ cO) yX9_forget cX9_forget 3 (some .int) 1 25 74 ad w [.ref (ad 64), .int u] (fun r w1 => OK cI cB cZ cO ad w1 ∧ KN w w1 ∧ True) := by
  refine nk_i (own := "NoonShadeModel") rfl (by decide) (Nat.le_of_ble_eq_true rfl) ?_
  intro p e s m below meth c ls X hD hN hr hlk h hl
  have hx := X.1.1
  have hb := X.1.2.1
  have hown := X.1.2.2.2.1
  have hts := X.1.2.2.2.2
  have hl : lv_has ls 3 [(0, .ref (ad 64)), (1, .int u)] := hl
  refine lv_iload_n hx hb dX9_forget_0 rfl (lv_at hl 1 rfl) ?_
  obtain ⟨z1, e2⟩ : ∃ z : Int64, u.toInt64 = z := ⟨_, rfl⟩
  have tz1 : z1.toInt = (u).toInt := by rw [← e2]; exact Int32.toInt_toInt64 _
  refine lv_i2l (v := z1) hx hb dX9_forget_1 e2 ?_
  refine lv_lconst (v := 0) hx hb dX9_forget_2 (by decide) ?_
  refine lv_lconst (v := 1) hx hb dX9_forget_3 (by decide) ?_
  refine n_Si (na := 3) (As := [.long z1, .long 0, .long 1]) (rest := []) X hD hN h (c_M_in l G cI cB cZ cO ad w z1 (0 : Int64) (1 : Int64) ((u).toInt) 0 1 tz1 rfl rfl) ⟨kv_468, kv_469, kv_470, kv_471⟩ ⟨by decide, by decide, by decide⟩ ⟨Nat.le_of_ble_eq_true rfl, Nat.le_of_ble_eq_true rfl⟩ ⟨Nat.zero_le _, Nat.zero_le _⟩ rfl hl.1 rfl (Nat.le_of_ble_eq_true rfl) dX9_forget_4 (fun r3 w4 H locs hp5 h => ?_)
  obtain ⟨rfl, hq6⟩ := hp5
  rcases hq6 with ⟨hq7, hq8, rfl⟩ | ⟨hq6, rfl⟩
  · refine lv_if_ne (tgt := 17) hx hb dX9_forget_7 (by decide) (fun _ => ?_) (fun hc => absurd hc (by decide))
    refine lv_aload_n hx hb dX9_forget_17 rfl (lv_at hl 0 rfl) ?_
    obtain ⟨x10, x11, t12, t13, t14, t15, t16, t17, f9, h18, h19⟩ := (show sM ad (w 64) from ok 64 (by decide))
    have f20 : w 64 = .inr (7, [.ref (ad 65), .ref (ad 66), .ref (ad 67), .ref (ad 68), .long x10, .long x11, .ref (ad 69), .int t12, .ref (ad 70), .ref (ad 71), .int t13, .int t14, .int t15, .int t16, .int t17, .ref (ad 72), .ref (ad 73)]) := f9
    refine r_get kc9 X h 64 0 (by decide) rfl f20 (by decide) kv_467 rfl dX9_forget_18 ?_
    refine lv_iconst (v := 2) hx hb dX9_forget_21 (by decide) ?_
    refine lv_iload_n hx hb dX9_forget_22 rfl (lv_at hl 1 rfl) ?_
    obtain ⟨z23, e21, t22⟩ := x_add (x := (2 : Int32)) (y := u) (a := 2) (b := (u).toInt) rfl rfl (by omega) (by omega)
    refine o_iadd (z := z23) hx hb dX9_forget_23 e21 ?_
    obtain ⟨g25, f24, p26⟩ := (show sA cI 177 (alA) (w 65) from ok 65 (by decide))
    have f27 : w 65 = .inl (cI, 177, .inl g25) := f24
    obtain ⟨v28, e29⟩ : ∃ z : Int32, g25 (z23).toNatClampNeg = z := ⟨_, rfl⟩
    refine o_iald (v := v28) X h 65 0 (by decide) rfl f27 rfl (in_of (by omega) (by omega)) e29 dX9_forget_24 ?_
    refine lv_istore_n (lv' := [(2, .int v28), (0, .ref (ad 64)), (1, .int u)]) hx hb dX9_forget_25 rfl hl (by decide) rfl (fun ls hl => ?_)
    refine lv_aload_n hx hb dX9_forget_26 rfl (lv_at hl 1 rfl) ?_
    refine r_get kc9 X h 64 0 (by decide) rfl f20 (by decide) kv_467 rfl dX9_forget_27 ?_
    refine lv_iconst (v := 2) hx hb dX9_forget_30 (by decide) ?_
    refine lv_iload_n hx hb dX9_forget_31 rfl (lv_at hl 2 rfl) ?_
    obtain ⟨z33, e31, t32⟩ := x_add (x := (2 : Int32)) (y := u) (a := 2) (b := (u).toInt) rfl rfl (by omega) (by omega)
    refine o_iadd (z := z33) hx hb dX9_forget_32 e31 ?_
    refine lv_iconst (v := 0) hx hb dX9_forget_33 (by decide) ?_
    obtain ⟨g34, e35⟩ : ∃ z : Nat → Int32, upd g25 (z33).toNatClampNeg (0 : Int32) = z := ⟨_, rfl⟩
    have p36 : alA g34 := alA_upd0 p26 e35
    refine o_iast (f1 := g34) X hD h 65 0 (by decide) rfl f27 rfl (in_of (by omega) (by omega)) e35 dX9_forget_34 (fun H locs w37 e38 h => ?_)
    have f39 : w37 65 = .inl (cI, 177, .inl g34) := (congrFun e38 _).trans (va_up_self _ _ _)
    have ok40 : OK cI cB cZ cO ad w37 := OK.up ok e38 (sA_mk p36)
    have kx41 : KN w w37 := KN.up KN.rf e38 f27 rfl
    refine lv_iload_n hx hb dX9_forget_35 rfl (lv_at hl 0 rfl) ?_
    exact e_i X h hr hlk dX9_forget_36 ⟨ok40, kx41, trivial⟩
  · refine lv_if_ne (tgt := 17) hx hb dX9_forget_7 (by decide) (fun hc => absurd (by decide) hc) (fun _ => ?_)
    refine lv_aload_n hx hb dX9_forget_10 rfl (lv_at hl 0 rfl) ?_
    refine lv_bipush (v := (-2)) hx hb dX9_forget_11 (by decide) ?_
    obtain ⟨x46, x47, t48, t49, t50, t51, t52, t53, f45, h54, h55⟩ := (show sM ad (w 64) from ok 64 (by decide))
    have f56 : w 64 = .inr (7, [.ref (ad 65), .ref (ad 66), .ref (ad 67), .ref (ad 68), .long x46, .long x47, .ref (ad 69), .int t48, .ref (ad 70), .ref (ad 71), .int t49, .int t50, .int t51, .int t52, .int t53, .ref (ad 72), .ref (ad 73)]) := f45
    refine n_Vi (na := 1) (As := [.int (-2)]) (rest := []) X hD hN h rfl (c_M_bad l G cI cB cZ cO ad w  ok ((-2) : Int32)  ) ⟨kv_553, kv_554, kv_555, kv_470, kv_556⟩ rfl ⟨by decide, by decide, by decide⟩ ⟨Nat.le_of_ble_eq_true rfl, Nat.le_of_ble_eq_true rfl⟩ ⟨Nat.zero_le _, Nat.zero_le _⟩ (by decide) f56 rfl rfl hl.1 rfl (Nat.le_of_ble_eq_true rfl) dX9_forget_13 (fun r42 w43 H locs hp44 h => ?_)
    obtain ⟨ok58, kk59, hr57⟩ := hp44
    have kx60 : KN w w43 := kk59.n
    subst hr57
    exact e_i X h hr hlk dX9_forget_16 ⟨ok58, kx60, trivial⟩
