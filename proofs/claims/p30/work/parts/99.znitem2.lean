set_option maxHeartbeats 4000000 in
set_option maxRecDepth 100000 in
theorem c_MF_has (l : Launch) (G : va_G) (cI cB cZ cO : ClassId) (ad : Nat → Nat) (w : Nat → va_E)   (x : Int32) (k : Int32)   : NI l G (tyq cI cB cZ cO) yX9_has cX9_has 2 (some .boolean) 0 0 74 ad w [.int x, .int k] (fun r w1 => w = w1 ∧ ((bitF x k = 1 ∧ r = 1) ∨ (¬ bitF x k = 1 ∧ r = 0))) := by
  refine nk_i (own := "NoonShadeModel") rfl (by decide) (Nat.le_of_ble_eq_true rfl) ?_
  intro p e s m below meth c ls X hD hN hr hlk h hl
  have hx := X.1.1
  have hb := X.1.2.1
  have hown := X.1.2.2.2.1
  have hts := X.1.2.2.2.2
  have hl : lv_has ls 2 [(0, .int x), (1, .int k)] := hl
  refine lv_iload_n hx hb dX9_has_0 rfl (lv_at hl 0 rfl) ?_
  refine lv_iload_n hx hb dX9_has_1 rfl (lv_at hl 1 rfl) ?_
  obtain ⟨z3, e1⟩ : ∃ z : Int32, x >>> (k &&& 31) = z := ⟨_, rfl⟩
  refine o_ishr (z := z3) hx hb dX9_has_2 e1 ?_
  refine lv_iconst (v := 1) hx hb dX9_has_3 (by decide) ?_
  obtain ⟨z6, e4⟩ : ∃ z : Int32, z3 &&& (1 : Int32) = z := ⟨_, rfl⟩
  refine o_iand (z := z6) hx hb dX9_has_4 e4 ?_
  refine lv_iconst (v := 1) hx hb dX9_has_5 (by decide) ?_
  refine lv_icmp_ne (tgt := 13) hx hb dX9_has_6 (by decide) (fun hc7 => ?_) (fun hc7 => ?_)
  · have hc7 : ¬ (z6).toInt = 1 := i_ne hc7 rfl rfl
    refine lv_iconst (v := 0) hx hb dX9_has_13 (by decide) ?_
    exact e_n X h hr hlk rfl dX9_has_14 ⟨rfl, Or.inr ⟨by unfold bitF; rw [e1, e4]; omega, rfl⟩⟩
  · have hc7 : (z6).toInt = 1 := i_eq hc7 rfl rfl
    refine lv_iconst (v := 1) hx hb dX9_has_9 (by decide) ?_
    refine lv_goto (tgt := 14) hx hb dX9_has_10 (by decide) ?_
    exact e_n X h hr hlk rfl dX9_has_14 ⟨rfl, Or.inl ⟨by unfold bitF; rw [e1, e4]; omega, rfl⟩⟩

set_option maxHeartbeats 4000000 in
set_option maxRecDepth 100000 in
theorem c_MF_takesLadle (l : Launch) (G : va_G) (cI cB cZ cO : ClassId) (ad : Nat → Nat) (w : Nat → va_E) (x y : Int64) (mb bl ta tl tk va : Int32) (bs : Nat → Int32) (p0 : Nat) (f : Nat → Int32) (ok : OK cI cB cZ cO ad w)   (pf : w 64 = .inr (7, [.ref (ad 65), .ref (ad 66), .ref (ad 67), .ref (ad 68), .long x, .long y, .ref (ad 69), .int mb, .ref (ad 70), .ref (ad 71), .int bl, .int ta, .int tl, .int tk, .int va, .ref (ad 72), .ref (ad 73)])) (hbl0 : 0 ≤ bl.toInt) (hbl1 : bl.toInt ≤ 150) (p71 : w 71 = .inl (cI, 150, .inl bs)) (hta : 0 ≤ ta.toInt) (htl : 0 ≤ tl.toInt) (htb : ta.toInt + tl.toInt ≤ bl.toInt) (hAT : AT bs bl.toNatClampNeg p0 ta tl tk va) (p72 : w 72 = .inl (cI, 89, .inl f)) (pal : alA f) : NI l G (tyq cI cB cZ cO) yX9_takesLadle cX9_takesLadle 2 (some .boolean) 5 112 74 ad w [.ref (ad 64)] (fun r w1 => OK cI cB cZ cO ad w1 ∧ KN w w1 ∧ (w1 65 = w 65 ∧ w1 66 = w 66) ∧ (∃ ta1 tl1 tk1 va1 : Int32, w1 64 = .inr (7, [.ref (ad 65), .ref (ad 66), .ref (ad 67), .ref (ad 68), .long x, .long y, .ref (ad 69), .int mb, .ref (ad 70), .ref (ad 71), .int bl, .int ta1, .int tl1, .int tk1, .int va1, .ref (ad 72), .ref (ad 73)]) ∧ 0 ≤ ta1.toInt ∧ 0 ≤ tl1.toInt ∧ ta1.toInt + tl1.toInt ≤ bl.toInt ∧ (tk1.toInt = 0 ∨ 1 ≤ tl1.toInt) ∧ ((∃ (q : Nat) (f1 : Nat → Int32), AT bs bl.toNatClampNeg q ta1 tl1 tk1 va1 ∧ w1 72 = .inl (cI, 89, .inl f1) ∧ jt3 bs bl.toNatClampNeg (tE bs bl.toNatClampNeg p0) f = .inr (q, f1) ∧ ta.toInt + tl.toInt ≤ ta1.toInt) ∧ r = 1 ∨ jt3 bs bl.toNatClampNeg (tE bs bl.toNatClampNeg p0) f = .inl ta1.toNatClampNeg ∧ r = 0))) := by
  refine nk_i (own := "NoonShadeModel") rfl (by decide) (Nat.le_of_ble_eq_true rfl) ?_
  intro p e s m below meth c ls X hD hN hr hlk h hl
  have hx := X.1.1
  have hb := X.1.2.1
  have hown := X.1.2.2.2.1
  have hts := X.1.2.2.2.2
  have hl : lv_has ls 2 [(0, .ref (ad 64))] := hl
  have kq0 : (0 : Int32).toInt = 0 := rfl
  have kq1 : (1 : Int32).toInt = 1 := rfl
  have kq2 : (2 : Int32).toInt = 2 := rfl
  have kq3 : (3 : Int32).toInt = 3 := rfl
  have kq4 : (4 : Int32).toInt = 4 := rfl
  obtain ⟨v0, ev0⟩ : ∃ z : Int32, f 0 = z := ⟨_, rfl⟩
  have hv0 := (alA_rd pal ev0).1 rfl
  have hw0 := congrArg Int32.toInt ev0
  obtain ⟨v1, ev1⟩ : ∃ z : Int32, f 1 = z := ⟨_, rfl⟩
  have hv1 := (alA_rd pal ev1).2.1 rfl
  have hw1 := congrArg Int32.toInt ev1
  refine lv_aload_n hx hb dX9_takesLadle_0 rfl (lv_at hl 0 rfl) ?_
  refine n_Vv (na := 0) (As := []) (rest := []) X hD hN h rfl (c_MF_goBehind l G cI cB cZ cO ad w x y mb bl ta tl tk va bs p0 ok pf (by omega) (by omega) p71 (by omega) (by omega) (by omega) hAT) ⟨kv_679, kv_680, kv_681, kv_470, kv_682⟩ rfl ⟨by decide, by decide, by decide⟩ ⟨Nat.le_of_ble_eq_true rfl, Nat.le_of_ble_eq_true rfl⟩ ⟨Nat.zero_le _, Nat.zero_le _⟩ (by decide) pf rfl rfl hl.1 rfl (Nat.le_of_ble_eq_true rfl) dX9_takesLadle_1 (fun w2 H locs hp3 h => ?_)
  obtain ⟨ok4, kk5, hr6⟩ := hp3
  obtain ⟨y7, y8, y9, y10, h11, h12, h13, h14, h15, h16⟩ := hr6
  have kx17 : KN w w2 := KN.tr KN.rf (F7.m kk5.f7 pf h11).n
  refine lv_aload_n hx hb dX9_takesLadle_4 rfl (lv_at hl 0 rfl) ?_
  refine r_get kc9 X h 64 13 (by decide) rfl h11 (by decide) kv_665 rfl dX9_takesLadle_5 ?_
  refine lv_iconst (v := 2) hx hb dX9_takesLadle_8 (by decide) ?_
  refine lv_icmp_ne (tgt := 78) hx hb dX9_takesLadle_9 (by decide) (fun hc18 => ?_) (fun hc18 => ?_)
  · have hc18 : ¬ (y9).toInt = 2 := i_ne hc18 rfl rfl
    refine lv_iconst (v := 0) hx hb dX9_takesLadle_78 (by decide) ?_
    have hjt19 : jt3 bs bl.toNatClampNeg (tE bs bl.toNatClampNeg p0) f = .inl y7.toNatClampNeg := by
      unfold jt3
      rw [pick_n (fun q9 => by have a9 := q9.1.1; have b9 := q9.1.2.1; have c9 := q9.1.2.2; rw [← h16.2.2.1] at a9; rw [← h16.2.2.2 a9] at b9 c9; first | omega | (have d9 := q9.2; rw [iv_of (h16.2.2.2 a9).symm] at d9; omega))]
      have t9 := h16.1
      have t8 := cl_of (x := y7) (by omega)
      congr 1; omega
    exact e_n X h hr hlk rfl dX9_takesLadle_79 ⟨ok4, kx17, ⟨⟨kk5 65 (by decide), kk5 66 (by decide)⟩, ⟨_, _, _, _, h11, by omega, by omega, by omega, by omega, Or.inr ⟨hjt19, rfl⟩⟩⟩⟩
  · have hc18 : (y9).toInt = 2 := i_eq hc18 rfl rfl
    refine lv_aload_n hx hb dX9_takesLadle_12 rfl (lv_at hl 0 rfl) ?_
    refine r_get kc9 X h 64 14 (by decide) rfl h11 (by decide) kv_666 rfl dX9_takesLadle_13 ?_
    obtain ⟨z20, e21⟩ : ∃ z : Int64, y10.toInt64 = z := ⟨_, rfl⟩
    have tz20 : z20.toInt = (y10).toInt := by rw [← e21]; exact Int32.toInt_toInt64 _
    refine lv_i2l (v := z20) hx hb dX9_takesLadle_16 e21 ?_
    refine lv_lconst (v := 0) hx hb dX9_takesLadle_17 (by decide) ?_
    refine lv_aload_n hx hb dX9_takesLadle_18 rfl (lv_at hl 0 rfl) ?_
    refine r_get kc9 X h 64 15 (by decide) rfl h11 (by decide) kv_683 rfl dX9_takesLadle_19 ?_
    refine lv_iconst (v := 0) hx hb dX9_takesLadle_22 (by decide) ?_
    have f22 : w2 72 = .inl (cI, 89, .inl f) := (kk5 72 (by decide)).trans p72
    refine o_iald (v := v0) X h 72 0 (by decide) rfl f22 rfl (by unfold vp_in; decide) ev0 dX9_takesLadle_23 ?_
    refine lv_iconst (v := 1) hx hb dX9_takesLadle_24 (by decide) ?_
    obtain ⟨z25, e23, t24⟩ := x_sub (x := v0) (y := (1 : Int32)) (a := (v0).toInt) (b := 1) rfl rfl (by omega) (by omega)
    refine o_isub (z := z25) hx hb dX9_takesLadle_25 e23 ?_
    obtain ⟨z26, e27⟩ : ∃ z : Int64, z25.toInt64 = z := ⟨_, rfl⟩
    have tz26 : z26.toInt = (z25).toInt := by rw [← e27]; exact Int32.toInt_toInt64 _
    refine lv_i2l (v := z26) hx hb dX9_takesLadle_26 e27 ?_
    refine n_Si (na := 3) (As := [.long z20, .long 0, .long z26]) (rest := []) X hD hN h (c_M_in l G cI cB cZ cO ad w2 z20 (0 : Int64) z26 ((y10).toInt) 0 ((z25).toInt) tz20 rfl tz26) ⟨kv_468, kv_469, kv_470, kv_471⟩ ⟨by decide, by decide, by decide⟩ ⟨Nat.le_of_ble_eq_true rfl, Nat.le_of_ble_eq_true rfl⟩ ⟨Nat.zero_le _, Nat.zero_le _⟩ rfl hl.1 rfl (Nat.le_of_ble_eq_true rfl) dX9_takesLadle_27 (fun r28 w29 H locs hp30 h => ?_)
    obtain ⟨rfl, hq31⟩ := hp30
    rcases hq31 with ⟨hq32, hq33, rfl⟩ | ⟨hq31, rfl⟩
    · refine lv_if_eq (tgt := 78) hx hb dX9_takesLadle_30 (by decide) (fun hc => absurd hc (by decide)) (fun _ => ?_)
      refine lv_aload_n hx hb dX9_takesLadle_33 rfl (lv_at hl 0 rfl) ?_
      refine r_get kc9 X h 64 15 (by decide) rfl h11 (by decide) kv_683 rfl dX9_takesLadle_34 ?_
      refine lv_bipush (v := 7) hx hb dX9_takesLadle_37 (by decide) ?_
      obtain ⟨v34, e35⟩ : ∃ z : Int32, f 7 = z := ⟨_, rfl⟩
      refine o_iald (v := v34) X h 72 0 (by decide) rfl f22 rfl (by unfold vp_in; decide) e35 dX9_takesLadle_39 ?_
      refine lv_aload_n hx hb dX9_takesLadle_40 rfl (lv_at hl 0 rfl) ?_
      refine r_get kc9 X h 64 14 (by decide) rfl h11 (by decide) kv_666 rfl dX9_takesLadle_41 ?_
      refine n_Si (na := 2) (As := [.int v34, .int y10]) (rest := []) X hD hN h (c_MF_has l G cI cB cZ cO ad w2   v34 y10  ) ⟨kv_496, kv_497, kv_470, kv_498⟩ ⟨by decide, by decide, by decide⟩ ⟨Nat.le_of_ble_eq_true rfl, Nat.le_of_ble_eq_true rfl⟩ ⟨Nat.zero_le _, Nat.zero_le _⟩ rfl hl.1 rfl (Nat.le_of_ble_eq_true rfl) dX9_takesLadle_44 (fun r37 w38 H locs hp39 h => ?_)
      obtain ⟨rfl, hr40⟩ := hp39
      rcases hr40 with ⟨hq41, rfl⟩ | ⟨hq42, rfl⟩
      · refine lv_if_ne (tgt := 78) hx hb dX9_takesLadle_47 (by decide) (fun _ => ?_) (fun hc => absurd hc (by decide))
        refine lv_iconst (v := 0) hx hb dX9_takesLadle_78 (by decide) ?_
        have hjt43 : jt3 bs bl.toNatClampNeg (tE bs bl.toNatClampNeg p0) f = .inl y7.toNatClampNeg := by
          unfold jt3
          rw [pick_n (fun q9 => by have a9 := q9.1.1; have b9 := q9.1.2.1; have c9 := q9.1.2.2; rw [← h16.2.2.1] at a9; rw [← h16.2.2.2 a9] at b9 c9; first | omega | (have d9 := q9.2; rw [iv_of (h16.2.2.2 a9).symm, e35] at d9; omega))]
          have t9 := h16.1
          have t8 := cl_of (x := y7) (by omega)
          congr 1; omega
        exact e_n X h hr hlk rfl dX9_takesLadle_79 ⟨ok4, kx17, ⟨⟨kk5 65 (by decide), kk5 66 (by decide)⟩, ⟨_, _, _, _, h11, by omega, by omega, by omega, by omega, Or.inr ⟨hjt43, rfl⟩⟩⟩⟩
      · refine lv_if_ne (tgt := 78) hx hb dX9_takesLadle_47 (by decide) (fun hc => absurd (by decide) hc) (fun _ => ?_)
        refine lv_aload_n hx hb dX9_takesLadle_50 rfl (lv_at hl 0 rfl) ?_
        refine lv_iconst (v := 0) hx hb dX9_takesLadle_51 (by decide) ?_
        refine lv_iconst (v := 0) hx hb dX9_takesLadle_52 (by decide) ?_
        refine lv_bipush (v := 6) hx hb dX9_takesLadle_53 (by decide) ?_
        have f44 : w2 71 = .inl (cI, 150, .inl bs) := (kk5 71 (by decide)).trans p71
        obtain ⟨g46, f45, p47⟩ := (show sA cI 3 (anyA) (w2 73) from ok4 73 (by decide))
        have f48 : w2 73 = .inl (cI, 3, .inl g46) := f45
        refine n_Vi (na := 3) (As := [.int 0, .int 0, .int 6]) (rest := []) X hD hN h rfl (c_MF_takes0 l G cI cB cZ cO ad w2 x y mb bl y7 y8 y9 y10 bs (tE bs bl.toNatClampNeg p0) g46 ok4 (0 : Int32) (6 : Int32) h11 (by omega) (by omega) f44 (by omega) (by omega) (by omega) h16 f48) ⟨kv_684, kv_685, kv_686, kv_470, kv_687⟩ rfl ⟨by decide, by decide, by decide⟩ ⟨Nat.le_of_ble_eq_true rfl, Nat.le_of_ble_eq_true rfl⟩ ⟨Nat.zero_le _, Nat.zero_le _⟩ (by decide) h11 rfl rfl hl.1 rfl (Nat.le_of_ble_eq_true rfl) dX9_takesLadle_55 (fun r49 w50 H locs hp51 h => ?_)
        obtain ⟨ok52, kk53, hr54⟩ := hp51
        rcases hr54 with ⟨⟨y55, y56, y57, y58, h59, h60, h61, h62, h63, h64, h65, h66⟩, rfl⟩ | ⟨⟨h67, h68, h69⟩, rfl⟩
        · obtain ⟨g70, e71⟩ : ∃ z : Nat → Int32, upd g46 0 y10 = z := ⟨_, rfl⟩
          rw [e71] at h65
          have p72 : anyA g70 := trivial
          have k73 : (0 : Int32).toInt = 0 := rfl
          have k74 : (6 : Int32).toInt = 6 := rfl
          have q75 : y9.toInt = 2 ∧ (0 : Int32).toInt ≤ y10.toInt ∧ y10.toInt ≤ (6 : Int32).toInt := by have a9 := h66.1; have b9 := h66.2.1; have c9 := h66.2.2; rw [← h16.2.2.1] at a9; rw [← h16.2.2.2 a9] at b9 c9; exact ⟨a9, b9, c9⟩
          have h66 : numK bs bl.toNatClampNeg (tE bs bl.toNatClampNeg p0) 0 6 := h66
          have kx76 : KN w w50 := KN.tr kx17 (F7.m kk53 h11 h59).n
          refine lv_if_eq (tgt := 78) hx hb dX9_takesLadle_58 (by decide) (fun hc => absurd hc (by decide)) (fun _ => ?_)
          refine lv_aload_n hx hb dX9_takesLadle_61 rfl (lv_at hl 0 rfl) ?_
          refine lv_iconst (v := 1) hx hb dX9_takesLadle_62 (by decide) ?_
          refine lv_iconst (v := 0) hx hb dX9_takesLadle_63 (by decide) ?_
          refine lv_aload_n hx hb dX9_takesLadle_64 rfl (lv_at hl 0 rfl) ?_
          refine r_get kc9 X h 64 15 (by decide) rfl h59 (by decide) kv_683 rfl dX9_takesLadle_65 ?_
          refine lv_iconst (v := 1) hx hb dX9_takesLadle_68 (by decide) ?_
          have f77 : w50 72 = .inl (cI, 89, .inl f) := (kk53 72 (by decide) (by decide)).trans f22
          refine o_iald (v := v1) X h 72 0 (by decide) rfl f77 rfl (by unfold vp_in; decide) ev1 dX9_takesLadle_69 ?_
          refine lv_iconst (v := 1) hx hb dX9_takesLadle_70 (by decide) ?_
          obtain ⟨z80, e78, t79⟩ := x_sub (x := v1) (y := (1 : Int32)) (a := (v1).toInt) (b := 1) rfl rfl (by omega) (by omega)
          refine o_isub (z := z80) hx hb dX9_takesLadle_71 e78 ?_
          have f81 : w50 71 = .inl (cI, 150, .inl bs) := (kk53 71 (by decide) (by decide)).trans f44
          refine n_Vi (na := 3) (As := [.int 1, .int 0, .int z80]) (rest := []) X hD hN h rfl (c_MF_takes1 l G cI cB cZ cO ad w50 x y mb bl y55 y56 y57 y58 bs (tE bs bl.toNatClampNeg (tE bs bl.toNatClampNeg p0)) g70 ok52 (0 : Int32) z80 h59 (by omega) (by omega) f81 (by omega) (by omega) (by omega) h64 h65) ⟨kv_684, kv_685, kv_686, kv_470, kv_687⟩ rfl ⟨by decide, by decide, by decide⟩ ⟨Nat.le_of_ble_eq_true rfl, Nat.le_of_ble_eq_true rfl⟩ ⟨Nat.zero_le _, Nat.zero_le _⟩ (by decide) h59 rfl rfl hl.1 rfl (Nat.le_of_ble_eq_true rfl) dX9_takesLadle_72 (fun r82 w83 H locs hp84 h => ?_)
          obtain ⟨ok85, kk86, hr87⟩ := hp84
          rcases hr87 with ⟨⟨y88, y89, y90, y91, h92, h93, h94, h95, h96, h97, h98, h99⟩, rfl⟩ | ⟨⟨h100, h101, h102⟩, rfl⟩
          · obtain ⟨g103, e104⟩ : ∃ z : Nat → Int32, upd g70 1 y58 = z := ⟨_, rfl⟩
            rw [e104] at h98
            have p105 : anyA g103 := trivial
            have k106 : (0 : Int32).toInt = 0 := rfl
            have q107 : y57.toInt = 2 ∧ (0 : Int32).toInt ≤ y58.toInt ∧ y58.toInt ≤ z80.toInt := by have a9 := h99.1; have b9 := h99.2.1; have c9 := h99.2.2; rw [← h64.2.2.1] at a9; rw [← h64.2.2.2 a9] at b9 c9; exact ⟨a9, b9, c9⟩
            have e108 : z80.toInt = (f 1).toInt - 1 := by omega
            have h99 : numK bs bl.toNatClampNeg (tE bs bl.toNatClampNeg (tE bs bl.toNatClampNeg p0)) 0 ((f 1).toInt - 1) := by rw [← e108]; exact h99
            have kx109 : KN w w83 := KN.tr kx76 (F7.m kk86 h59 h92).n
            refine lv_if_ne (tgt := 80) hx hb dX9_takesLadle_75 (by decide) (fun _ => ?_) (fun hc => absurd hc (by decide))
            refine lv_aload_n hx hb dX9_takesLadle_80 rfl (lv_at hl 0 rfl) ?_
            refine r_get kc9 X h 64 15 (by decide) rfl h92 (by decide) kv_683 rfl dX9_takesLadle_81 ?_
            refine lv_aload_n hx hb dX9_takesLadle_84 rfl (lv_at hl 0 rfl) ?_
            refine r_get kc9 X h 64 16 (by decide) rfl h92 (by decide) kv_678 rfl dX9_takesLadle_85 ?_
            refine lv_iconst (v := 0) hx hb dX9_takesLadle_88 (by decide) ?_
            have e110 : g103 0 = y10 := by rw [← e104, pk_un (by decide), ← e71, pk_us]
            refine o_iald (v := y10) X h 73 0 (by decide) rfl h98 rfl (by unfold vp_in; decide) e110 dX9_takesLadle_89 ?_
            refine lv_aload_n hx hb dX9_takesLadle_90 rfl (lv_at hl 0 rfl) ?_
            refine r_get kc9 X h 64 16 (by decide) rfl h92 (by decide) kv_678 rfl dX9_takesLadle_91 ?_
            refine lv_iconst (v := 1) hx hb dX9_takesLadle_94 (by decide) ?_
            have e111 : g103 1 = y58 := by rw [← e104, pk_us]
            refine o_iald (v := y58) X h 73 0 (by decide) rfl h98 rfl (by unfold vp_in; decide) e111 dX9_takesLadle_95 ?_
            have f112 : w83 72 = .inl (cI, 89, .inl f) := (kk86 72 (by decide) (by decide)).trans f77
            refine n_Si (na := 3) (As := [.ref (ad 72), .int y10, .int y58]) (rest := []) X hD hN h (c_MF_goLadle l G cI cB cZ cO ad w83 72 (Or.inr (Or.inr rfl)) 89 f ok85 y10 y58 (by omega) (by omega) (by omega) (by omega) f112 pal (by decide)) ⟨kv_511, kv_512, kv_470, kv_513⟩ ⟨by decide, by decide, by decide⟩ ⟨Nat.le_of_ble_eq_true rfl, Nat.le_of_ble_eq_true rfl⟩ ⟨Nat.zero_le _, Nat.zero_le _⟩ rfl hl.1 rfl (Nat.le_of_ble_eq_true rfl) dX9_takesLadle_96 (fun r113 w114 H locs hp115 h => ?_)
            obtain ⟨ok117, kk118, hr116⟩ := hp115
            have kx119 : KN w w114 := KN.tr kx109 kk118.1.n
            obtain ⟨g120, e121⟩ : ∃ z : Nat → Int32, goLaF f y10 y58.toNatClampNeg = z := ⟨_, rfl⟩
            rw [e121] at hr116
            have p122 : alA g120 := (alA_of65 ok117 (Or.inr (Or.inr rfl)) hr116).1
            refine lv_istore_n (lv' := [(1, .int r113), (0, .ref (ad 64))]) hx hb dX9_takesLadle_99 rfl hl (by decide) rfl (fun ls hl => ?_)
            refine lv_iconst (v := 1) hx hb dX9_takesLadle_100 (by decide) ?_
            have f123 : w114 64 = .inr (7, [.ref (ad 65), .ref (ad 66), .ref (ad 67), .ref (ad 68), .long x, .long y, .ref (ad 69), .int mb, .ref (ad 70), .ref (ad 71), .int bl, .int y88, .int y89, .int y90, .int y91, .ref (ad 72), .ref (ad 73)]) := (kk118.2 64 (by decide)).trans h92
            have i125 : iv (tV bs bl.toNatClampNeg (tE bs bl.toNatClampNeg p0)) = y10 := iv_of (h16.2.2.2 (by omega)).symm
            have i126 : iv (tV bs bl.toNatClampNeg (tE bs bl.toNatClampNeg (tE bs bl.toNatClampNeg p0))) = y58 := iv_of (h64.2.2.2 (by omega)).symm
            have hjt124 : jt3 bs bl.toNatClampNeg (tE bs bl.toNatClampNeg p0) f = .inr ((tE bs bl.toNatClampNeg (tE bs bl.toNatClampNeg (tE bs bl.toNatClampNeg p0))), g120) := by
              unfold jt3
              rw [pick_y ⟨⟨by rw [← h16.2.2.1]; omega, by rw [← h16.2.2.2 (by omega)]; omega, by rw [← h16.2.2.2 (by omega)]; omega⟩, by rw [iv_of (h16.2.2.2 (by omega)).symm, e35]; have := bitF_01 v34 y10; omega⟩, pick_y ⟨by rw [← h64.2.2.1]; omega, by rw [← h64.2.2.2 (by omega)]; omega, by rw [← h64.2.2.2 (by omega)]; omega⟩, i125, i126, e121]
            exact e_n X h hr hlk rfl dX9_takesLadle_101 ⟨ok117, kx119, ⟨⟨(kk118.2 65 (by decide)).trans ((kk86 65 (by decide) (by decide)).trans ((kk53 65 (by decide) (by decide)).trans (kk5 65 (by decide)))), (kk118.2 66 (by decide)).trans ((kk86 66 (by decide) (by decide)).trans ((kk53 66 (by decide) (by decide)).trans (kk5 66 (by decide))))⟩, ⟨_, _, _, _, f123, by omega, by omega, by omega, by omega, Or.inl ⟨⟨_, _, h97, hr116, hjt124, by omega⟩, rfl⟩⟩⟩⟩
          · have f127 : w83 64 = .inr (7, [.ref (ad 65), .ref (ad 66), .ref (ad 67), .ref (ad 68), .long x, .long y, .ref (ad 69), .int mb, .ref (ad 70), .ref (ad 71), .int bl, .int y55, .int y56, .int y57, .int y58, .ref (ad 72), .ref (ad 73)]) := h100.trans h59
            have e128 : z80.toInt = (f 1).toInt - 1 := by omega
            have h102 : ¬ numK bs bl.toNatClampNeg (tE bs bl.toNatClampNeg (tE bs bl.toNatClampNeg p0)) 0 ((f 1).toInt - 1) := by rw [← e128]; exact h102
            have kx129 : KN w w83 := KN.tr kx76 (F7.m kk86 h59 f127).n
            refine lv_if_ne (tgt := 80) hx hb dX9_takesLadle_75 (by decide) (fun hc => absurd (by decide) hc) (fun _ => ?_)
            refine lv_iconst (v := 0) hx hb dX9_takesLadle_78 (by decide) ?_
            have hjt130 : jt3 bs bl.toNatClampNeg (tE bs bl.toNatClampNeg p0) f = .inl y55.toNatClampNeg := by
              unfold jt3
              rw [pick_y ⟨⟨by rw [← h16.2.2.1]; omega, by rw [← h16.2.2.2 (by omega)]; omega, by rw [← h16.2.2.2 (by omega)]; omega⟩, by rw [iv_of (h16.2.2.2 (by omega)).symm, e35]; have := bitF_01 v34 y10; omega⟩, pick_n (fun q9 => h102 q9)]
              have t9 := h64.1
              have t8 := cl_of (x := y55) (by omega)
              congr 1; omega
            exact e_n X h hr hlk rfl dX9_takesLadle_79 ⟨ok85, kx129, ⟨⟨(kk86 65 (by decide) (by decide)).trans ((kk53 65 (by decide) (by decide)).trans (kk5 65 (by decide))), (kk86 66 (by decide) (by decide)).trans ((kk53 66 (by decide) (by decide)).trans (kk5 66 (by decide)))⟩, ⟨_, _, _, _, f127, by omega, by omega, by omega, by omega, Or.inr ⟨hjt130, rfl⟩⟩⟩⟩
        · have f131 : w50 64 = .inr (7, [.ref (ad 65), .ref (ad 66), .ref (ad 67), .ref (ad 68), .long x, .long y, .ref (ad 69), .int mb, .ref (ad 70), .ref (ad 71), .int bl, .int y7, .int y8, .int y9, .int y10, .ref (ad 72), .ref (ad 73)]) := h67.trans h11
          have h69 : ¬ numK bs bl.toNatClampNeg (tE bs bl.toNatClampNeg p0) 0 6 := h69
          have kx132 : KN w w50 := KN.tr kx17 (F7.m kk53 h11 f131).n
          refine lv_if_eq (tgt := 78) hx hb dX9_takesLadle_58 (by decide) (fun _ => ?_) (fun hc => absurd (by decide) hc)
          refine lv_iconst (v := 0) hx hb dX9_takesLadle_78 (by decide) ?_
          exact e_n X h hr hlk rfl dX9_takesLadle_79 ⟨ok52, kx132, ⟨⟨(kk53 65 (by decide) (by decide)).trans (kk5 65 (by decide)), (kk53 66 (by decide) (by decide)).trans (kk5 66 (by decide))⟩, (absurd ⟨by rw [← h16.2.2.1]; omega, by rw [← h16.2.2.2 (by omega)]; omega, by rw [← h16.2.2.2 (by omega)]; omega⟩ h69)⟩⟩
    · refine lv_if_eq (tgt := 78) hx hb dX9_takesLadle_30 (by decide) (fun _ => ?_) (fun hc => absurd (by decide) hc)
      refine lv_iconst (v := 0) hx hb dX9_takesLadle_78 (by decide) ?_
      have hjt134 : jt3 bs bl.toNatClampNeg (tE bs bl.toNatClampNeg p0) f = .inl y7.toNatClampNeg := by
        unfold jt3
        rw [pick_n (fun q9 => by have a9 := q9.1.1; have b9 := q9.1.2.1; have c9 := q9.1.2.2; rw [← h16.2.2.1] at a9; rw [← h16.2.2.2 a9] at b9 c9; first | omega | (have d9 := q9.2; rw [iv_of (h16.2.2.2 a9).symm] at d9; omega))]
        have t9 := h16.1
        have t8 := cl_of (x := y7) (by omega)
        congr 1; omega
      exact e_n X h hr hlk rfl dX9_takesLadle_79 ⟨ok4, kx17, ⟨⟨kk5 65 (by decide), kk5 66 (by decide)⟩, ⟨_, _, _, _, h11, by omega, by omega, by omega, by omega, Or.inr ⟨hjt134, rfl⟩⟩⟩⟩

set_option maxHeartbeats 4000000 in
set_option maxRecDepth 100000 in
theorem c_MF_takesPour (l : Launch) (G : va_G) (cI cB cZ cO : ClassId) (ad : Nat → Nat) (w : Nat → va_E) (x y : Int64) (mb bl ta tl tk va : Int32) (bs : Nat → Int32) (p0 : Nat) (f : Nat → Int32) (ok : OK cI cB cZ cO ad w)   (pf : w 64 = .inr (7, [.ref (ad 65), .ref (ad 66), .ref (ad 67), .ref (ad 68), .long x, .long y, .ref (ad 69), .int mb, .ref (ad 70), .ref (ad 71), .int bl, .int ta, .int tl, .int tk, .int va, .ref (ad 72), .ref (ad 73)])) (hbl0 : 0 ≤ bl.toInt) (hbl1 : bl.toInt ≤ 150) (p71 : w 71 = .inl (cI, 150, .inl bs)) (hta : 0 ≤ ta.toInt) (htl : 0 ≤ tl.toInt) (htb : ta.toInt + tl.toInt ≤ bl.toInt) (hAT : AT bs bl.toNatClampNeg p0 ta tl tk va) (p72 : w 72 = .inl (cI, 89, .inl f)) (pal : alA f) : NI l G (tyq cI cB cZ cO) yX9_takesPour cX9_takesPour 2 (some .boolean) 5 112 74 ad w [.ref (ad 64)] (fun r w1 => OK cI cB cZ cO ad w1 ∧ KN w w1 ∧ (w1 65 = w 65 ∧ w1 66 = w 66) ∧ (∃ ta1 tl1 tk1 va1 : Int32, w1 64 = .inr (7, [.ref (ad 65), .ref (ad 66), .ref (ad 67), .ref (ad 68), .long x, .long y, .ref (ad 69), .int mb, .ref (ad 70), .ref (ad 71), .int bl, .int ta1, .int tl1, .int tk1, .int va1, .ref (ad 72), .ref (ad 73)]) ∧ 0 ≤ ta1.toInt ∧ 0 ≤ tl1.toInt ∧ ta1.toInt + tl1.toInt ≤ bl.toInt ∧ (tk1.toInt = 0 ∨ 1 ≤ tl1.toInt) ∧ ((∃ (q : Nat) (f1 : Nat → Int32), AT bs bl.toNatClampNeg q ta1 tl1 tk1 va1 ∧ w1 72 = .inl (cI, 89, .inl f1) ∧ jt4 bs bl.toNatClampNeg (tE bs bl.toNatClampNeg p0) f = .inr (q, f1) ∧ ta.toInt + tl.toInt ≤ ta1.toInt) ∧ r = 1 ∨ jt4 bs bl.toNatClampNeg (tE bs bl.toNatClampNeg p0) f = .inl ta1.toNatClampNeg ∧ r = 0))) := by
  refine nk_i (own := "NoonShadeModel") rfl (by decide) (Nat.le_of_ble_eq_true rfl) ?_
  intro p e s m below meth c ls X hD hN hr hlk h hl
  have hx := X.1.1
  have hb := X.1.2.1
  have hown := X.1.2.2.2.1
  have hts := X.1.2.2.2.2
  have hl : lv_has ls 2 [(0, .ref (ad 64))] := hl
  have kq0 : (0 : Int32).toInt = 0 := rfl
  have kq1 : (1 : Int32).toInt = 1 := rfl
  have kq2 : (2 : Int32).toInt = 2 := rfl
  have kq3 : (3 : Int32).toInt = 3 := rfl
  have kq4 : (4 : Int32).toInt = 4 := rfl
  obtain ⟨v0, ev0⟩ : ∃ z : Int32, f 0 = z := ⟨_, rfl⟩
  have hv0 := (alA_rd pal ev0).1 rfl
  have hw0 := congrArg Int32.toInt ev0
  obtain ⟨v1, ev1⟩ : ∃ z : Int32, f 1 = z := ⟨_, rfl⟩
  have hv1 := (alA_rd pal ev1).2.1 rfl
  have hw1 := congrArg Int32.toInt ev1
  refine lv_aload_n hx hb dX9_takesPour_0 rfl (lv_at hl 0 rfl) ?_
  refine n_Vv (na := 0) (As := []) (rest := []) X hD hN h rfl (c_MF_goBehind l G cI cB cZ cO ad w x y mb bl ta tl tk va bs p0 ok pf (by omega) (by omega) p71 (by omega) (by omega) (by omega) hAT) ⟨kv_679, kv_680, kv_681, kv_470, kv_682⟩ rfl ⟨by decide, by decide, by decide⟩ ⟨Nat.le_of_ble_eq_true rfl, Nat.le_of_ble_eq_true rfl⟩ ⟨Nat.zero_le _, Nat.zero_le _⟩ (by decide) pf rfl rfl hl.1 rfl (Nat.le_of_ble_eq_true rfl) dX9_takesPour_1 (fun w2 H locs hp3 h => ?_)
  obtain ⟨ok4, kk5, hr6⟩ := hp3
  obtain ⟨y7, y8, y9, y10, h11, h12, h13, h14, h15, h16⟩ := hr6
  have kx17 : KN w w2 := KN.tr KN.rf (F7.m kk5.f7 pf h11).n
  refine lv_aload_n hx hb dX9_takesPour_4 rfl (lv_at hl 0 rfl) ?_
  refine r_get kc9 X h 64 13 (by decide) rfl h11 (by decide) kv_665 rfl dX9_takesPour_5 ?_
  refine lv_iconst (v := 2) hx hb dX9_takesPour_8 (by decide) ?_
  refine lv_icmp_ne (tgt := 96) hx hb dX9_takesPour_9 (by decide) (fun hc18 => ?_) (fun hc18 => ?_)
  · have hc18 : ¬ (y9).toInt = 2 := i_ne hc18 rfl rfl
    refine lv_iconst (v := 0) hx hb dX9_takesPour_96 (by decide) ?_
    have hjt19 : jt4 bs bl.toNatClampNeg (tE bs bl.toNatClampNeg p0) f = .inl y7.toNatClampNeg := by
      unfold jt4
      rw [pick_n (fun q9 => by have a9 := q9.1.1; have b9 := q9.1.2.1; have c9 := q9.1.2.2; rw [← h16.2.2.1] at a9; rw [← h16.2.2.2 a9] at b9 c9; first | omega | (have d9 := q9.2; rw [iv_of (h16.2.2.2 a9).symm] at d9; omega))]
      have t9 := h16.1
      have t8 := cl_of (x := y7) (by omega)
      congr 1; omega
    exact e_n X h hr hlk rfl dX9_takesPour_97 ⟨ok4, kx17, ⟨⟨kk5 65 (by decide), kk5 66 (by decide)⟩, ⟨_, _, _, _, h11, by omega, by omega, by omega, by omega, Or.inr ⟨hjt19, rfl⟩⟩⟩⟩
  · have hc18 : (y9).toInt = 2 := i_eq hc18 rfl rfl
    refine lv_aload_n hx hb dX9_takesPour_12 rfl (lv_at hl 0 rfl) ?_
    refine r_get kc9 X h 64 14 (by decide) rfl h11 (by decide) kv_666 rfl dX9_takesPour_13 ?_
    obtain ⟨z20, e21⟩ : ∃ z : Int64, y10.toInt64 = z := ⟨_, rfl⟩
    have tz20 : z20.toInt = (y10).toInt := by rw [← e21]; exact Int32.toInt_toInt64 _
    refine lv_i2l (v := z20) hx hb dX9_takesPour_16 e21 ?_
    refine lv_lconst (v := 0) hx hb dX9_takesPour_17 (by decide) ?_
    refine lv_aload_n hx hb dX9_takesPour_18 rfl (lv_at hl 0 rfl) ?_
    refine r_get kc9 X h 64 15 (by decide) rfl h11 (by decide) kv_683 rfl dX9_takesPour_19 ?_
    refine lv_iconst (v := 1) hx hb dX9_takesPour_22 (by decide) ?_
    have f22 : w2 72 = .inl (cI, 89, .inl f) := (kk5 72 (by decide)).trans p72
    refine o_iald (v := v1) X h 72 0 (by decide) rfl f22 rfl (by unfold vp_in; decide) ev1 dX9_takesPour_23 ?_
    refine lv_iconst (v := 1) hx hb dX9_takesPour_24 (by decide) ?_
    obtain ⟨z25, e23, t24⟩ := x_sub (x := v1) (y := (1 : Int32)) (a := (v1).toInt) (b := 1) rfl rfl (by omega) (by omega)
    refine o_isub (z := z25) hx hb dX9_takesPour_25 e23 ?_
    obtain ⟨z26, e27⟩ : ∃ z : Int64, z25.toInt64 = z := ⟨_, rfl⟩
    have tz26 : z26.toInt = (z25).toInt := by rw [← e27]; exact Int32.toInt_toInt64 _
    refine lv_i2l (v := z26) hx hb dX9_takesPour_26 e27 ?_
    refine n_Si (na := 3) (As := [.long z20, .long 0, .long z26]) (rest := []) X hD hN h (c_M_in l G cI cB cZ cO ad w2 z20 (0 : Int64) z26 ((y10).toInt) 0 ((z25).toInt) tz20 rfl tz26) ⟨kv_468, kv_469, kv_470, kv_471⟩ ⟨by decide, by decide, by decide⟩ ⟨Nat.le_of_ble_eq_true rfl, Nat.le_of_ble_eq_true rfl⟩ ⟨Nat.zero_le _, Nat.zero_le _⟩ rfl hl.1 rfl (Nat.le_of_ble_eq_true rfl) dX9_takesPour_27 (fun r28 w29 H locs hp30 h => ?_)
    obtain ⟨rfl, hq31⟩ := hp30
    rcases hq31 with ⟨hq32, hq33, rfl⟩ | ⟨hq31, rfl⟩
    · refine lv_if_eq (tgt := 96) hx hb dX9_takesPour_30 (by decide) (fun hc => absurd hc (by decide)) (fun _ => ?_)
      refine lv_aload_n hx hb dX9_takesPour_33 rfl (lv_at hl 0 rfl) ?_
      refine r_get kc9 X h 64 15 (by decide) rfl h11 (by decide) kv_683 rfl dX9_takesPour_34 ?_
      refine lv_bipush (v := 8) hx hb dX9_takesPour_37 (by decide) ?_
      refine lv_aload_n hx hb dX9_takesPour_39 rfl (lv_at hl 0 rfl) ?_
      refine r_get kc9 X h 64 14 (by decide) rfl h11 (by decide) kv_666 rfl dX9_takesPour_40 ?_
      obtain ⟨z36, e34, t35⟩ := x_add (x := (8 : Int32)) (y := y10) (a := 8) (b := (y10).toInt) rfl rfl (by omega) (by omega)
      have n37 : z36.toNatClampNeg = 8 + y10.toNatClampNeg := cl_addn (x := (8 : Int32)) (y := y10) rfl rfl t35 (by decide) (by omega)
      refine o_iadd (z := z36) hx hb dX9_takesPour_43 e34 ?_
      obtain ⟨v38, e39⟩ : ∃ z : Int32, f (8 + y10.toNatClampNeg) = z := ⟨_, rfl⟩
      refine o_iald (v := v38) X h 72 0 (by decide) rfl f22 rfl (in_of (by omega) (by omega)) (by rw [n37]; exact e39) dX9_takesPour_44 ?_
      refine lv_if_eq (tgt := 96) hx hb dX9_takesPour_45 (by decide) (fun hc41 => ?_) (fun hc41 => ?_)
      · have hc41 : (v38).toInt = 0 := i_eq hc41 rfl rfl
        refine lv_iconst (v := 0) hx hb dX9_takesPour_96 (by decide) ?_
        have hjt42 : jt4 bs bl.toNatClampNeg (tE bs bl.toNatClampNeg p0) f = .inl y7.toNatClampNeg := by
          unfold jt4
          rw [pick_n (fun q9 => by have a9 := q9.1.1; have b9 := q9.1.2.1; have c9 := q9.1.2.2; rw [← h16.2.2.1] at a9; rw [← h16.2.2.2 a9] at b9 c9; first | omega | (have d9 := q9.2; rw [iv_of (h16.2.2.2 a9).symm, e39] at d9; omega))]
          have t9 := h16.1
          have t8 := cl_of (x := y7) (by omega)
          congr 1; omega
        exact e_n X h hr hlk rfl dX9_takesPour_97 ⟨ok4, kx17, ⟨⟨kk5 65 (by decide), kk5 66 (by decide)⟩, ⟨_, _, _, _, h11, by omega, by omega, by omega, by omega, Or.inr ⟨hjt42, rfl⟩⟩⟩⟩
      · have hc41 : ¬ (v38).toInt = 0 := i_ne hc41 rfl rfl
        refine lv_aload_n hx hb dX9_takesPour_48 rfl (lv_at hl 0 rfl) ?_
        refine lv_iconst (v := 0) hx hb dX9_takesPour_49 (by decide) ?_
        refine lv_iconst (v := 0) hx hb dX9_takesPour_50 (by decide) ?_
        refine lv_iconst (v := 3) hx hb dX9_takesPour_51 (by decide) ?_
        have f43 : w2 71 = .inl (cI, 150, .inl bs) := (kk5 71 (by decide)).trans p71
        obtain ⟨g45, f44, p46⟩ := (show sA cI 3 (anyA) (w2 73) from ok4 73 (by decide))
        have f47 : w2 73 = .inl (cI, 3, .inl g45) := f44
        refine n_Vi (na := 3) (As := [.int 0, .int 0, .int 3]) (rest := []) X hD hN h rfl (c_MF_takes0 l G cI cB cZ cO ad w2 x y mb bl y7 y8 y9 y10 bs (tE bs bl.toNatClampNeg p0) g45 ok4 (0 : Int32) (3 : Int32) h11 (by omega) (by omega) f43 (by omega) (by omega) (by omega) h16 f47) ⟨kv_684, kv_685, kv_686, kv_470, kv_687⟩ rfl ⟨by decide, by decide, by decide⟩ ⟨Nat.le_of_ble_eq_true rfl, Nat.le_of_ble_eq_true rfl⟩ ⟨Nat.zero_le _, Nat.zero_le _⟩ (by decide) h11 rfl rfl hl.1 rfl (Nat.le_of_ble_eq_true rfl) dX9_takesPour_52 (fun r48 w49 H locs hp50 h => ?_)
        obtain ⟨ok51, kk52, hr53⟩ := hp50
        rcases hr53 with ⟨⟨y54, y55, y56, y57, h58, h59, h60, h61, h62, h63, h64, h65⟩, rfl⟩ | ⟨⟨h66, h67, h68⟩, rfl⟩
        · obtain ⟨g69, e70⟩ : ∃ z : Nat → Int32, upd g45 0 y10 = z := ⟨_, rfl⟩
          rw [e70] at h64
          have p71 : anyA g69 := trivial
          have k72 : (0 : Int32).toInt = 0 := rfl
          have k73 : (3 : Int32).toInt = 3 := rfl
          have q74 : y9.toInt = 2 ∧ (0 : Int32).toInt ≤ y10.toInt ∧ y10.toInt ≤ (3 : Int32).toInt := by have a9 := h65.1; have b9 := h65.2.1; have c9 := h65.2.2; rw [← h16.2.2.1] at a9; rw [← h16.2.2.2 a9] at b9 c9; exact ⟨a9, b9, c9⟩
          have h65 : numK bs bl.toNatClampNeg (tE bs bl.toNatClampNeg p0) 0 3 := h65
          have kx75 : KN w w49 := KN.tr kx17 (F7.m kk52 h11 h58).n
          refine lv_if_eq (tgt := 96) hx hb dX9_takesPour_55 (by decide) (fun hc => absurd hc (by decide)) (fun _ => ?_)
          refine lv_aload_n hx hb dX9_takesPour_58 rfl (lv_at hl 0 rfl) ?_
          refine r_get kc9 X h 64 13 (by decide) rfl h58 (by decide) kv_665 rfl dX9_takesPour_59 ?_
          refine lv_iconst (v := 2) hx hb dX9_takesPour_62 (by decide) ?_
          refine lv_icmp_ne (tgt := 96) hx hb dX9_takesPour_63 (by decide) (fun hc76 => ?_) (fun hc76 => ?_)
          · have hc76 : ¬ (y56).toInt = 2 := i_ne hc76 rfl rfl
            refine lv_iconst (v := 0) hx hb dX9_takesPour_96 (by decide) ?_
            have hjt77 : jt4 bs bl.toNatClampNeg (tE bs bl.toNatClampNeg p0) f = .inl y54.toNatClampNeg := by
              unfold jt4
              rw [pick_y ⟨⟨by rw [← h16.2.2.1]; omega, by rw [← h16.2.2.2 (by omega)]; omega, by rw [← h16.2.2.2 (by omega)]; omega⟩, by rw [iv_of (h16.2.2.2 (by omega)).symm, e39]; omega⟩, pick_n (fun q9 => by have a9 := q9.1.1; have b9 := q9.1.2.1; have c9 := q9.1.2.2; have d9 := q9.2; rw [← h63.2.2.1] at a9; rw [← h63.2.2.2 a9, ← h16.2.2.2 (by omega)] at d9; rw [← h63.2.2.2 a9] at b9 c9; first | omega | exact (fun _ => id) ⟨by rw [← h63.2.2.1]; omega, by rw [← h63.2.2.2 (by omega)]; omega, by rw [← h63.2.2.2 (by omega)]; omega⟩)]
              have t9 := h63.1
              have t8 := cl_of (x := y54) (by omega)
              congr 1; omega
            exact e_n X h hr hlk rfl dX9_takesPour_97 ⟨ok51, kx75, ⟨⟨(kk52 65 (by decide) (by decide)).trans (kk5 65 (by decide)), (kk52 66 (by decide) (by decide)).trans (kk5 66 (by decide))⟩, ⟨_, _, _, _, h58, by omega, by omega, by omega, by omega, Or.inr ⟨hjt77, rfl⟩⟩⟩⟩
          · have hc76 : (y56).toInt = 2 := i_eq hc76 rfl rfl
            refine lv_aload_n hx hb dX9_takesPour_66 rfl (lv_at hl 0 rfl) ?_
            refine r_get kc9 X h 64 14 (by decide) rfl h58 (by decide) kv_666 rfl dX9_takesPour_67 ?_
            refine lv_aload_n hx hb dX9_takesPour_70 rfl (lv_at hl 0 rfl) ?_
            refine r_get kc9 X h 64 16 (by decide) rfl h58 (by decide) kv_678 rfl dX9_takesPour_71 ?_
            refine lv_iconst (v := 0) hx hb dX9_takesPour_74 (by decide) ?_
            have e78 : g69 0 = y10 := by rw [← e70, pk_us]
            refine o_iald (v := y10) X h 73 0 (by decide) rfl h64 rfl (by unfold vp_in; decide) e78 dX9_takesPour_75 ?_
            refine lv_icmp_eq (tgt := 96) hx hb dX9_takesPour_76 (by decide) (fun hc79 => ?_) (fun hc79 => ?_)
            · have hc79 : (y57).toInt = (y10).toInt := i_eq hc79 rfl rfl
              refine lv_iconst (v := 0) hx hb dX9_takesPour_96 (by decide) ?_
              have hjt80 : jt4 bs bl.toNatClampNeg (tE bs bl.toNatClampNeg p0) f = .inl y54.toNatClampNeg := by
                unfold jt4
                rw [pick_y ⟨⟨by rw [← h16.2.2.1]; omega, by rw [← h16.2.2.2 (by omega)]; omega, by rw [← h16.2.2.2 (by omega)]; omega⟩, by rw [iv_of (h16.2.2.2 (by omega)).symm, e39]; omega⟩, pick_n (fun q9 => by have a9 := q9.1.1; have b9 := q9.1.2.1; have c9 := q9.1.2.2; have d9 := q9.2; rw [← h63.2.2.1] at a9; rw [← h63.2.2.2 a9, ← h16.2.2.2 (by omega)] at d9; rw [← h63.2.2.2 a9] at b9 c9; first | omega | exact (fun _ => id) ⟨by rw [← h63.2.2.1]; omega, by rw [← h63.2.2.2 (by omega)]; omega, by rw [← h63.2.2.2 (by omega)]; omega⟩)]
                have t9 := h63.1
                have t8 := cl_of (x := y54) (by omega)
                congr 1; omega
              exact e_n X h hr hlk rfl dX9_takesPour_97 ⟨ok51, kx75, ⟨⟨(kk52 65 (by decide) (by decide)).trans (kk5 65 (by decide)), (kk52 66 (by decide) (by decide)).trans (kk5 66 (by decide))⟩, ⟨_, _, _, _, h58, by omega, by omega, by omega, by omega, Or.inr ⟨hjt80, rfl⟩⟩⟩⟩
            · have hc79 : ¬ (y57).toInt = (y10).toInt := i_ne hc79 rfl rfl
              refine lv_aload_n hx hb dX9_takesPour_79 rfl (lv_at hl 0 rfl) ?_
              refine lv_iconst (v := 1) hx hb dX9_takesPour_80 (by decide) ?_
              refine lv_iconst (v := 0) hx hb dX9_takesPour_81 (by decide) ?_
              refine lv_aload_n hx hb dX9_takesPour_82 rfl (lv_at hl 0 rfl) ?_
              refine r_get kc9 X h 64 15 (by decide) rfl h58 (by decide) kv_683 rfl dX9_takesPour_83 ?_
              refine lv_iconst (v := 1) hx hb dX9_takesPour_86 (by decide) ?_
              have f81 : w49 72 = .inl (cI, 89, .inl f) := (kk52 72 (by decide) (by decide)).trans f22
              refine o_iald (v := v1) X h 72 0 (by decide) rfl f81 rfl (by unfold vp_in; decide) ev1 dX9_takesPour_87 ?_
              refine lv_iconst (v := 1) hx hb dX9_takesPour_88 (by decide) ?_
              obtain ⟨z84, e82, t83⟩ := x_sub (x := v1) (y := (1 : Int32)) (a := (v1).toInt) (b := 1) rfl rfl (by omega) (by omega)
              refine o_isub (z := z84) hx hb dX9_takesPour_89 e82 ?_
              have f85 : w49 71 = .inl (cI, 150, .inl bs) := (kk52 71 (by decide) (by decide)).trans f43
              refine n_Vi (na := 3) (As := [.int 1, .int 0, .int z84]) (rest := []) X hD hN h rfl (c_MF_takes1 l G cI cB cZ cO ad w49 x y mb bl y54 y55 y56 y57 bs (tE bs bl.toNatClampNeg (tE bs bl.toNatClampNeg p0)) g69 ok51 (0 : Int32) z84 h58 (by omega) (by omega) f85 (by omega) (by omega) (by omega) h63 h64) ⟨kv_684, kv_685, kv_686, kv_470, kv_687⟩ rfl ⟨by decide, by decide, by decide⟩ ⟨Nat.le_of_ble_eq_true rfl, Nat.le_of_ble_eq_true rfl⟩ ⟨Nat.zero_le _, Nat.zero_le _⟩ (by decide) h58 rfl rfl hl.1 rfl (Nat.le_of_ble_eq_true rfl) dX9_takesPour_90 (fun r86 w87 H locs hp88 h => ?_)
              obtain ⟨ok89, kk90, hr91⟩ := hp88
              rcases hr91 with ⟨⟨y92, y93, y94, y95, h96, h97, h98, h99, h100, h101, h102, h103⟩, rfl⟩ | ⟨⟨h104, h105, h106⟩, rfl⟩
              · obtain ⟨g107, e108⟩ : ∃ z : Nat → Int32, upd g69 1 y57 = z := ⟨_, rfl⟩
                rw [e108] at h102
                have p109 : anyA g107 := trivial
                have k110 : (0 : Int32).toInt = 0 := rfl
                have q111 : y56.toInt = 2 ∧ (0 : Int32).toInt ≤ y57.toInt ∧ y57.toInt ≤ z84.toInt := by have a9 := h103.1; have b9 := h103.2.1; have c9 := h103.2.2; rw [← h63.2.2.1] at a9; rw [← h63.2.2.2 a9] at b9 c9; exact ⟨a9, b9, c9⟩
                have e112 : z84.toInt = (f 1).toInt - 1 := by omega
                have h103 : numK bs bl.toNatClampNeg (tE bs bl.toNatClampNeg (tE bs bl.toNatClampNeg p0)) 0 ((f 1).toInt - 1) := by rw [← e112]; exact h103
                have kx113 : KN w w87 := KN.tr kx75 (F7.m kk90 h58 h96).n
                refine lv_if_ne (tgt := 98) hx hb dX9_takesPour_93 (by decide) (fun _ => ?_) (fun hc => absurd hc (by decide))
                refine lv_aload_n hx hb dX9_takesPour_98 rfl (lv_at hl 0 rfl) ?_
                refine r_get kc9 X h 64 15 (by decide) rfl h96 (by decide) kv_683 rfl dX9_takesPour_99 ?_
                refine lv_aload_n hx hb dX9_takesPour_102 rfl (lv_at hl 0 rfl) ?_
                refine r_get kc9 X h 64 16 (by decide) rfl h96 (by decide) kv_678 rfl dX9_takesPour_103 ?_
                refine lv_iconst (v := 0) hx hb dX9_takesPour_106 (by decide) ?_
                have e114 : g107 0 = y10 := by rw [← e108, pk_un (by decide)]; exact e78
                refine o_iald (v := y10) X h 73 0 (by decide) rfl h102 rfl (by unfold vp_in; decide) e114 dX9_takesPour_107 ?_
                refine lv_aload_n hx hb dX9_takesPour_108 rfl (lv_at hl 0 rfl) ?_
                refine r_get kc9 X h 64 16 (by decide) rfl h96 (by decide) kv_678 rfl dX9_takesPour_109 ?_
                refine lv_iconst (v := 1) hx hb dX9_takesPour_112 (by decide) ?_
                have e115 : g107 1 = y57 := by rw [← e108, pk_us]
                refine o_iald (v := y57) X h 73 0 (by decide) rfl h102 rfl (by unfold vp_in; decide) e115 dX9_takesPour_113 ?_
                have f116 : w87 72 = .inl (cI, 89, .inl f) := (kk90 72 (by decide) (by decide)).trans f81
                refine n_Si (na := 3) (As := [.ref (ad 72), .int y10, .int y57]) (rest := []) X hD hN h (c_MF_goPour l G cI cB cZ cO ad w87 72 (Or.inr (Or.inr rfl)) 89 f ok89 y10 y57 (by omega) (by omega) (by omega) (by omega) f116 pal (by decide)) ⟨kv_557, kv_558, kv_470, kv_559⟩ ⟨by decide, by decide, by decide⟩ ⟨Nat.le_of_ble_eq_true rfl, Nat.le_of_ble_eq_true rfl⟩ ⟨Nat.zero_le _, Nat.zero_le _⟩ rfl hl.1 rfl (Nat.le_of_ble_eq_true rfl) dX9_takesPour_114 (fun r117 w118 H locs hp119 h => ?_)
                obtain ⟨ok121, kk122, hr120⟩ := hp119
                have kx123 : KN w w118 := KN.tr kx113 kk122.1.n
                obtain ⟨g124, e125⟩ : ∃ z : Nat → Int32, goPoF f y10.toNatClampNeg y57.toNatClampNeg = z := ⟨_, rfl⟩
                rw [e125] at hr120
                have p126 : alA g124 := (alA_of65 ok121 (Or.inr (Or.inr rfl)) hr120).1
                refine lv_istore_n (lv' := [(1, .int r117), (0, .ref (ad 64))]) hx hb dX9_takesPour_117 rfl hl (by decide) rfl (fun ls hl => ?_)
                refine lv_iconst (v := 1) hx hb dX9_takesPour_118 (by decide) ?_
                have f127 : w118 64 = .inr (7, [.ref (ad 65), .ref (ad 66), .ref (ad 67), .ref (ad 68), .long x, .long y, .ref (ad 69), .int mb, .ref (ad 70), .ref (ad 71), .int bl, .int y92, .int y93, .int y94, .int y95, .ref (ad 72), .ref (ad 73)]) := (kk122.2 64 (by decide)).trans h96
                have i129 : iv (tV bs bl.toNatClampNeg (tE bs bl.toNatClampNeg p0)) = y10 := iv_of (h16.2.2.2 (by omega)).symm
                have i130 : iv (tV bs bl.toNatClampNeg (tE bs bl.toNatClampNeg (tE bs bl.toNatClampNeg p0))) = y57 := iv_of (h63.2.2.2 (by omega)).symm
                have hjt128 : jt4 bs bl.toNatClampNeg (tE bs bl.toNatClampNeg p0) f = .inr ((tE bs bl.toNatClampNeg (tE bs bl.toNatClampNeg (tE bs bl.toNatClampNeg p0))), g124) := by
                  unfold jt4
                  rw [pick_y ⟨⟨by rw [← h16.2.2.1]; omega, by rw [← h16.2.2.2 (by omega)]; omega, by rw [← h16.2.2.2 (by omega)]; omega⟩, by rw [iv_of (h16.2.2.2 (by omega)).symm, e39]; omega⟩, pick_y ⟨⟨by rw [← h63.2.2.1]; omega, by rw [← h63.2.2.2 (by omega)]; omega, by rw [← h63.2.2.2 (by omega)]; omega⟩, by rw [← h63.2.2.2 (by omega), ← h16.2.2.2 (by omega)]; omega⟩, i129, i130, e125]
                exact e_n X h hr hlk rfl dX9_takesPour_119 ⟨ok121, kx123, ⟨⟨(kk122.2 65 (by decide)).trans ((kk90 65 (by decide) (by decide)).trans ((kk52 65 (by decide) (by decide)).trans (kk5 65 (by decide)))), (kk122.2 66 (by decide)).trans ((kk90 66 (by decide) (by decide)).trans ((kk52 66 (by decide) (by decide)).trans (kk5 66 (by decide))))⟩, ⟨_, _, _, _, f127, by omega, by omega, by omega, by omega, Or.inl ⟨⟨_, _, h101, hr120, hjt128, by omega⟩, rfl⟩⟩⟩⟩
              · have f131 : w87 64 = .inr (7, [.ref (ad 65), .ref (ad 66), .ref (ad 67), .ref (ad 68), .long x, .long y, .ref (ad 69), .int mb, .ref (ad 70), .ref (ad 71), .int bl, .int y54, .int y55, .int y56, .int y57, .ref (ad 72), .ref (ad 73)]) := h104.trans h58
                have e132 : z84.toInt = (f 1).toInt - 1 := by omega
                have h106 : ¬ numK bs bl.toNatClampNeg (tE bs bl.toNatClampNeg (tE bs bl.toNatClampNeg p0)) 0 ((f 1).toInt - 1) := by rw [← e132]; exact h106
                have kx133 : KN w w87 := KN.tr kx75 (F7.m kk90 h58 f131).n
                refine lv_if_ne (tgt := 98) hx hb dX9_takesPour_93 (by decide) (fun hc => absurd (by decide) hc) (fun _ => ?_)
                refine lv_iconst (v := 0) hx hb dX9_takesPour_96 (by decide) ?_
                have hjt134 : jt4 bs bl.toNatClampNeg (tE bs bl.toNatClampNeg p0) f = .inl y54.toNatClampNeg := by
                  unfold jt4
                  rw [pick_y ⟨⟨by rw [← h16.2.2.1]; omega, by rw [← h16.2.2.2 (by omega)]; omega, by rw [← h16.2.2.2 (by omega)]; omega⟩, by rw [iv_of (h16.2.2.2 (by omega)).symm, e39]; omega⟩, pick_n (fun q9 => by have a9 := q9.1.1; have b9 := q9.1.2.1; have c9 := q9.1.2.2; have d9 := q9.2; rw [← h63.2.2.1] at a9; rw [← h63.2.2.2 a9, ← h16.2.2.2 (by omega)] at d9; rw [← h63.2.2.2 a9] at b9 c9; first | omega | exact h106 ⟨by rw [← h63.2.2.1]; omega, by rw [← h63.2.2.2 (by omega)]; omega, by rw [← h63.2.2.2 (by omega)]; omega⟩)]
                  have t9 := h63.1
                  have t8 := cl_of (x := y54) (by omega)
                  congr 1; omega
                exact e_n X h hr hlk rfl dX9_takesPour_97 ⟨ok89, kx133, ⟨⟨(kk90 65 (by decide) (by decide)).trans ((kk52 65 (by decide) (by decide)).trans (kk5 65 (by decide))), (kk90 66 (by decide) (by decide)).trans ((kk52 66 (by decide) (by decide)).trans (kk5 66 (by decide)))⟩, ⟨_, _, _, _, f131, by omega, by omega, by omega, by omega, Or.inr ⟨hjt134, rfl⟩⟩⟩⟩
        · have f135 : w49 64 = .inr (7, [.ref (ad 65), .ref (ad 66), .ref (ad 67), .ref (ad 68), .long x, .long y, .ref (ad 69), .int mb, .ref (ad 70), .ref (ad 71), .int bl, .int y7, .int y8, .int y9, .int y10, .ref (ad 72), .ref (ad 73)]) := h66.trans h11
          have h68 : ¬ numK bs bl.toNatClampNeg (tE bs bl.toNatClampNeg p0) 0 3 := h68
          have kx136 : KN w w49 := KN.tr kx17 (F7.m kk52 h11 f135).n
          refine lv_if_eq (tgt := 96) hx hb dX9_takesPour_55 (by decide) (fun _ => ?_) (fun hc => absurd (by decide) hc)
          refine lv_iconst (v := 0) hx hb dX9_takesPour_96 (by decide) ?_
          exact e_n X h hr hlk rfl dX9_takesPour_97 ⟨ok51, kx136, ⟨⟨(kk52 65 (by decide) (by decide)).trans (kk5 65 (by decide)), (kk52 66 (by decide) (by decide)).trans (kk5 66 (by decide))⟩, (absurd ⟨by rw [← h16.2.2.1]; omega, by rw [← h16.2.2.2 (by omega)]; omega, by rw [← h16.2.2.2 (by omega)]; omega⟩ h68)⟩⟩
    · refine lv_if_eq (tgt := 96) hx hb dX9_takesPour_30 (by decide) (fun _ => ?_) (fun hc => absurd (by decide) hc)
      refine lv_iconst (v := 0) hx hb dX9_takesPour_96 (by decide) ?_
      have hjt138 : jt4 bs bl.toNatClampNeg (tE bs bl.toNatClampNeg p0) f = .inl y7.toNatClampNeg := by
        unfold jt4
        rw [pick_n (fun q9 => by have a9 := q9.1.1; have b9 := q9.1.2.1; have c9 := q9.1.2.2; rw [← h16.2.2.1] at a9; rw [← h16.2.2.2 a9] at b9 c9; first | omega | (have d9 := q9.2; rw [iv_of (h16.2.2.2 a9).symm] at d9; omega))]
        have t9 := h16.1
        have t8 := cl_of (x := y7) (by omega)
        congr 1; omega
      exact e_n X h hr hlk rfl dX9_takesPour_97 ⟨ok4, kx17, ⟨⟨kk5 65 (by decide), kk5 66 (by decide)⟩, ⟨_, _, _, _, h11, by omega, by omega, by omega, by omega, Or.inr ⟨hjt138, rfl⟩⟩⟩⟩
