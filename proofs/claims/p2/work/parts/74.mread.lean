set_option maxHeartbeats 4000000 in
set_option maxRecDepth 100000 in
theorem c_M_takesCaster (l : Launch) (G : va_G) (cI cB cZ cO : ClassId) (ad : Nat → Nat) (w : Nat → va_E) (x y : Int64) (mb bl ta tl tk va : Int32) (ok : OK cI cB cZ cO ad w)   (pf : w 64 = .inr (7, [.ref (ad 65), .ref (ad 66), .ref (ad 67), .ref (ad 68), .long x, .long y, .ref (ad 69), .int mb, .ref (ad 70), .ref (ad 71), .int bl, .int ta, .int tl, .int tk, .int va, .ref (ad 72), .ref (ad 73)])) (hbl0 : 0 ≤ bl.toInt) (hbl1 : bl.toInt ≤ 150) (hta : 0 ≤ ta.toInt) (htl : 0 ≤ tl.toInt) (htb : ta.toInt + tl.toInt ≤ bl.toInt) (htk : tk.toInt = 0 ∨ 1 ≤ tl.toInt) : NI l G (tyq cI cB cZ cO) yX9_takesCaster cX9_takesCaster 1 (some .boolean) 5 112 74 ad w [.ref (ad 64)] (fun r w1 => OK cI cB cZ cO ad w1 ∧ KN w w1 ∧ ∃ ta1 tl1 tk1 va1 : Int32, w1 64 = .inr (7, [.ref (ad 65), .ref (ad 66), .ref (ad 67), .ref (ad 68), .long x, .long y, .ref (ad 69), .int mb, .ref (ad 70), .ref (ad 71), .int bl, .int ta1, .int tl1, .int tk1, .int va1, .ref (ad 72), .ref (ad 73)]) ∧ 0 ≤ ta1.toInt ∧ 0 ≤ tl1.toInt ∧ ta1.toInt + tl1.toInt ≤ bl.toInt ∧ (tk1.toInt = 0 ∨ 1 ≤ tl1.toInt) ∧ ((ta.toInt + tl.toInt ≤ ta1.toInt ∧ r = 1) ∨ r = 0)) := by
  refine nk_i (own := "NoonShadeModel") rfl (by decide) (Nat.le_of_ble_eq_true rfl) ?_
  intro p e s m below meth c ls X hD hN hr hlk h hl
  have hx := X.1.1
  have hb := X.1.2.1
  have hown := X.1.2.2.2.1
  have hts := X.1.2.2.2.2
  have hl : lv_has ls 1 [(0, .ref (ad 64))] := hl
  have kq0 : (0 : Int32).toInt = 0 := rfl
  have kq1 : (1 : Int32).toInt = 1 := rfl
  have kq2 : (2 : Int32).toInt = 2 := rfl
  have kq3 : (3 : Int32).toInt = 3 := rfl
  have kq4 : (4 : Int32).toInt = 4 := rfl
  refine lv_aload_n hx hb dX9_takesCaster_0 rfl (lv_at hl 0 rfl) ?_
  refine r_get kc9 X h 64 15 (by decide) rfl pf (by decide) kv_683 rfl dX9_takesCaster_1 ?_
  refine lv_iconst (v := 0) hx hb dX9_takesCaster_4 (by decide) ?_
  obtain ⟨g2, f1, p3⟩ := (show sA cI 89 (alA) (w 72) from ok 72 (by decide))
  have f4 : w 72 = .inl (cI, 89, .inl g2) := f1
  obtain ⟨v5, e6⟩ : ∃ z : Int32, g2 0 = z := ⟨_, rfl⟩
  have h7 := (alA_rd p3 e6).1 rfl
  refine o_iald (v := v5) X h 72 0 (by decide) rfl f4 rfl (by unfold vp_in; decide) e6 dX9_takesCaster_5 ?_
  refine lv_bipush (v := 7) hx hb dX9_takesCaster_6 (by decide) ?_
  refine lv_icmp_ne (tgt := 13) hx hb dX9_takesCaster_8 (by decide) (fun hc8 => ?_) (fun hc8 => ?_)
  · have hc8 : ¬ (v5).toInt = 7 := i_ne hc8 rfl rfl
    refine lv_aload_n hx hb dX9_takesCaster_13 rfl (lv_at hl 0 rfl) ?_
    refine n_Vv (na := 0) (As := []) (rest := []) X hD hN h rfl (c_M_goBehind l G cI cB cZ cO ad w x y mb bl ta tl tk va ok   pf (by first | omega | decide | (simp only [k00]; omega)) (by first | omega | decide | (simp only [k00]; omega)) (by first | omega | decide | (simp only [k00]; omega)) (by first | omega | decide | (simp only [k00]; omega)) (by first | omega | decide | (simp only [k00]; omega))) ⟨kv_679, kv_680, kv_681, kv_470, kv_682⟩ rfl ⟨by decide, by decide, by decide⟩ ⟨Nat.le_of_ble_eq_true rfl, Nat.le_of_ble_eq_true rfl⟩ ⟨Nat.zero_le _, Nat.zero_le _⟩ (by decide) pf rfl rfl hl.1 rfl (Nat.le_of_ble_eq_true rfl) dX9_takesCaster_14 (fun w10 H locs hp11 h => ?_)
    obtain ⟨ok12, kk13, hr14⟩ := hp11
    obtain ⟨y15, y16, y17, y18, h19, h20, h21, h22, h23⟩ := hr14
    have kx24 : KN w w10 := KN.tr KN.rf (F7.m kk13.f7 pf h19).n
    refine lv_aload_n hx hb dX9_takesCaster_17 rfl (lv_at hl 0 rfl) ?_
    refine lv_iconst (v := 0) hx hb dX9_takesCaster_18 (by decide) ?_
    refine lv_iconst (v := 0) hx hb dX9_takesCaster_19 (by decide) ?_
    refine lv_iconst (v := 5) hx hb dX9_takesCaster_20 (by decide) ?_
    obtain ⟨g26, f25, p27⟩ := (show sA cI 3 (anyA) (w10 73) from ok12 73 (by decide))
    have f28 : w10 73 = .inl (cI, 3, .inl g26) := f25
    refine n_Vi (na := 3) (As := [.int 0, .int 0, .int 5]) (rest := []) X hD hN h rfl (c_M_takes0 l G cI cB cZ cO ad w10 x y mb bl y15 y16 y17 y18 g26 ok12 (0 : Int32) (5 : Int32) h19 (by first | omega | decide | (simp only [k00]; omega)) (by first | omega | decide | (simp only [k00]; omega)) (by first | omega | decide | (simp only [k00]; omega)) (by first | omega | decide | (simp only [k00]; omega)) (by first | omega | decide | (simp only [k00]; omega)) (by first | omega | decide | (simp only [k00]; omega)) f28) ⟨kv_684, kv_685, kv_686, kv_470, kv_687⟩ rfl ⟨by decide, by decide, by decide⟩ ⟨Nat.le_of_ble_eq_true rfl, Nat.le_of_ble_eq_true rfl⟩ ⟨Nat.zero_le _, Nat.zero_le _⟩ (by decide) h19 rfl rfl hl.1 rfl (Nat.le_of_ble_eq_true rfl) dX9_takesCaster_21 (fun r29 w30 H locs hp31 h => ?_)
    obtain ⟨ok32, kk33, h34, hr35⟩ := hp31
    obtain ⟨y36, y37, y38, y39, h40, h41, h42, h43, h44⟩ := h34
    have kx45 : KN w w30 := KN.tr kx24 (F7.m kk33 h19 h40).n
    rcases hr35 with ⟨⟨v46, h47, h48, e49⟩, rfl⟩ | rfl
    · have k53 : (0 : Int32).toInt = 0 := rfl
      have k54 : (5 : Int32).toInt = 5 := rfl
      obtain ⟨g50, e51⟩ : ∃ z : Nat → Int32, upd g26 0 v46 = z := ⟨_, rfl⟩
      rw [e51] at e49
      have f52 : anyA g50 := trivial
      refine lv_if_eq (tgt := 48) hx hb dX9_takesCaster_24 (by decide) (fun hc => absurd hc (by decide)) (fun _ => ?_)
      refine lv_aload_n hx hb dX9_takesCaster_27 rfl (lv_at hl 0 rfl) ?_
      refine lv_iconst (v := 1) hx hb dX9_takesCaster_28 (by decide) ?_
      refine lv_iconst (v := 1) hx hb dX9_takesCaster_29 (by decide) ?_
      refine lv_bipush (v := 9) hx hb dX9_takesCaster_30 (by decide) ?_
      refine n_Vi (na := 3) (As := [.int 1, .int 1, .int 9]) (rest := []) X hD hN h rfl (c_M_takes1 l G cI cB cZ cO ad w30 x y mb bl y36 y37 y38 y39 g50 ok32 (1 : Int32) (9 : Int32) h40 (by first | omega | decide | (simp only [k00]; omega)) (by first | omega | decide | (simp only [k00]; omega)) (by first | omega | decide | (simp only [k00]; omega)) (by first | omega | decide | (simp only [k00]; omega)) (by first | omega | decide | (simp only [k00]; omega)) (by first | omega | decide | (simp only [k00]; omega)) e49) ⟨kv_684, kv_685, kv_686, kv_470, kv_687⟩ rfl ⟨by decide, by decide, by decide⟩ ⟨Nat.le_of_ble_eq_true rfl, Nat.le_of_ble_eq_true rfl⟩ ⟨Nat.zero_le _, Nat.zero_le _⟩ (by decide) h40 rfl rfl hl.1 rfl (Nat.le_of_ble_eq_true rfl) dX9_takesCaster_32 (fun r55 w56 H locs hp57 h => ?_)
      obtain ⟨ok58, kk59, h60, hr61⟩ := hp57
      obtain ⟨y62, y63, y64, y65, h66, h67, h68, h69, h70⟩ := h60
      have kx71 : KN w w56 := KN.tr kx45 (F7.m kk59 h40 h66).n
      rcases hr61 with ⟨⟨v72, h73, h74, e75⟩, rfl⟩ | rfl
      · have k79 : (1 : Int32).toInt = 1 := rfl
        have k80 : (9 : Int32).toInt = 9 := rfl
        obtain ⟨g76, e77⟩ : ∃ z : Nat → Int32, upd g50 1 v72 = z := ⟨_, rfl⟩
        rw [e77] at e75
        have f78 : anyA g76 := trivial
        refine lv_if_eq (tgt := 48) hx hb dX9_takesCaster_35 (by decide) (fun hc => absurd hc (by decide)) (fun _ => ?_)
        refine lv_aload_n hx hb dX9_takesCaster_38 rfl (lv_at hl 0 rfl) ?_
        refine lv_iconst (v := 2) hx hb dX9_takesCaster_39 (by decide) ?_
        refine lv_iconst (v := 0) hx hb dX9_takesCaster_40 (by decide) ?_
        refine lv_iconst (v := 3) hx hb dX9_takesCaster_41 (by decide) ?_
        refine n_Vi (na := 3) (As := [.int 2, .int 0, .int 3]) (rest := []) X hD hN h rfl (c_M_takes2 l G cI cB cZ cO ad w56 x y mb bl y62 y63 y64 y65 g76 ok58 (0 : Int32) (3 : Int32) h66 (by first | omega | decide | (simp only [k00]; omega)) (by first | omega | decide | (simp only [k00]; omega)) (by first | omega | decide | (simp only [k00]; omega)) (by first | omega | decide | (simp only [k00]; omega)) (by first | omega | decide | (simp only [k00]; omega)) (by first | omega | decide | (simp only [k00]; omega)) e75) ⟨kv_684, kv_685, kv_686, kv_470, kv_687⟩ rfl ⟨by decide, by decide, by decide⟩ ⟨Nat.le_of_ble_eq_true rfl, Nat.le_of_ble_eq_true rfl⟩ ⟨Nat.zero_le _, Nat.zero_le _⟩ (by decide) h66 rfl rfl hl.1 rfl (Nat.le_of_ble_eq_true rfl) dX9_takesCaster_42 (fun r81 w82 H locs hp83 h => ?_)
        obtain ⟨ok84, kk85, h86, hr87⟩ := hp83
        obtain ⟨y88, y89, y90, y91, h92, h93, h94, h95, h96⟩ := h86
        have kx97 : KN w w82 := KN.tr kx71 (F7.m kk85 h66 h92).n
        rcases hr87 with ⟨⟨v98, h99, h100, e101⟩, rfl⟩ | rfl
        · have k105 : (0 : Int32).toInt = 0 := rfl
          have k106 : (3 : Int32).toInt = 3 := rfl
          obtain ⟨g102, e103⟩ : ∃ z : Nat → Int32, upd g76 2 v98 = z := ⟨_, rfl⟩
          rw [e103] at e101
          have f104 : anyA g102 := trivial
          refine lv_if_ne (tgt := 50) hx hb dX9_takesCaster_45 (by decide) (fun _ => ?_) (fun hc => absurd hc (by decide))
          refine lv_aload_n hx hb dX9_takesCaster_50 rfl (lv_at hl 0 rfl) ?_
          refine r_get kc9 X h 64 15 (by decide) rfl h92 (by decide) kv_683 rfl dX9_takesCaster_51 ?_
          refine lv_aload_n hx hb dX9_takesCaster_54 rfl (lv_at hl 0 rfl) ?_
          refine r_get kc9 X h 64 16 (by decide) rfl h92 (by decide) kv_678 rfl dX9_takesCaster_55 ?_
          refine lv_iconst (v := 0) hx hb dX9_takesCaster_58 (by decide) ?_
          have e107 : g102 0 = v46 := by rw [← e103, pk_un (by decide), ← e77, pk_un (by decide), ← e51, pk_us]
          refine o_iald (v := v46) X h 73 0 (by decide) rfl e101 rfl (by unfold vp_in; decide) e107 dX9_takesCaster_59 ?_
          refine lv_aload_n hx hb dX9_takesCaster_60 rfl (lv_at hl 0 rfl) ?_
          refine r_get kc9 X h 64 16 (by decide) rfl h92 (by decide) kv_678 rfl dX9_takesCaster_61 ?_
          refine lv_iconst (v := 1) hx hb dX9_takesCaster_64 (by decide) ?_
          have e108 : g102 1 = v72 := by rw [← e103, pk_un (by decide), ← e77, pk_us]
          refine o_iald (v := v72) X h 73 0 (by decide) rfl e101 rfl (by unfold vp_in; decide) e108 dX9_takesCaster_65 ?_
          refine lv_aload_n hx hb dX9_takesCaster_66 rfl (lv_at hl 0 rfl) ?_
          refine r_get kc9 X h 64 16 (by decide) rfl h92 (by decide) kv_678 rfl dX9_takesCaster_67 ?_
          refine lv_iconst (v := 2) hx hb dX9_takesCaster_70 (by decide) ?_
          have e109 : g102 2 = v98 := by rw [← e103, pk_us]
          refine o_iald (v := v98) X h 73 0 (by decide) rfl e101 rfl (by unfold vp_in; decide) e109 dX9_takesCaster_71 ?_
          have f110 : w10 72 = .inl (cI, 89, .inl g2) := (kk13 72 (by decide)).trans f4
          have f111 : w30 72 = .inl (cI, 89, .inl g2) := (kk33 72 (by decide) (by decide)).trans f110
          have f112 : w56 72 = .inl (cI, 89, .inl g2) := (kk59 72 (by decide) (by decide)).trans f111
          have f113 : w82 72 = .inl (cI, 89, .inl g2) := (kk85 72 (by decide) (by decide)).trans f112
          refine n_Sv (na := 4) (As := [.ref (ad 72), .int v46, .int v72, .int v98]) (rest := []) X hD hN h (c_M_layCaster72 l G cI cB cZ cO ad w82 g2 ok84 v46 v72 v98 f113 p3 (by rw [e6]; omega)) ⟨kv_641, kv_642, kv_470, kv_643⟩ ⟨by decide, by decide, by decide⟩ ⟨Nat.le_of_ble_eq_true rfl, Nat.le_of_ble_eq_true rfl⟩ ⟨Nat.zero_le _, Nat.zero_le _⟩ rfl hl.1 rfl (Nat.le_of_ble_eq_true rfl) dX9_takesCaster_72 (fun w115 H locs hp116 h => ?_)
          obtain ⟨ok117, kk118, hr119⟩ := hp116
          have kx120 : KN w w115 := KN.tr kx97 kk118.1.n
          refine lv_iconst (v := 1) hx hb dX9_takesCaster_75 (by decide) ?_
          have f121 : w115 64 = .inr (7, [.ref (ad 65), .ref (ad 66), .ref (ad 67), .ref (ad 68), .long x, .long y, .ref (ad 69), .int mb, .ref (ad 70), .ref (ad 71), .int bl, .int y88, .int y89, .int y90, .int y91, .ref (ad 72), .ref (ad 73)]) := (kk118.2 64 (by decide)).trans h92
          exact e_n X h hr hlk rfl dX9_takesCaster_76 ⟨ok117, kx120, ⟨_, _, _, _, f121, by omega, by omega, by omega, by omega, Or.inl ⟨by omega, rfl⟩⟩⟩
        · refine lv_if_ne (tgt := 50) hx hb dX9_takesCaster_45 (by decide) (fun hc => absurd (by decide) hc) (fun _ => ?_)
          refine lv_iconst (v := 0) hx hb dX9_takesCaster_48 (by decide) ?_
          exact e_n X h hr hlk rfl dX9_takesCaster_49 ⟨ok84, kx97, ⟨_, _, _, _, h92, by omega, by omega, by omega, by omega, Or.inr rfl⟩⟩
      · refine lv_if_eq (tgt := 48) hx hb dX9_takesCaster_35 (by decide) (fun _ => ?_) (fun hc => absurd (by decide) hc)
        refine lv_iconst (v := 0) hx hb dX9_takesCaster_48 (by decide) ?_
        exact e_n X h hr hlk rfl dX9_takesCaster_49 ⟨ok58, kx71, ⟨_, _, _, _, h66, by omega, by omega, by omega, by omega, Or.inr rfl⟩⟩
    · refine lv_if_eq (tgt := 48) hx hb dX9_takesCaster_24 (by decide) (fun _ => ?_) (fun hc => absurd (by decide) hc)
      refine lv_iconst (v := 0) hx hb dX9_takesCaster_48 (by decide) ?_
      exact e_n X h hr hlk rfl dX9_takesCaster_49 ⟨ok32, kx45, ⟨_, _, _, _, h40, by omega, by omega, by omega, by omega, Or.inr rfl⟩⟩
  · have hc8 : (v5).toInt = 7 := i_eq hc8 rfl rfl
    refine lv_iconst (v := 0) hx hb dX9_takesCaster_11 (by decide) ?_
    exact e_n X h hr hlk rfl dX9_takesCaster_12 ⟨ok, KN.rf, ⟨_, _, _, _, pf, by omega, by omega, by omega, by omega, Or.inr rfl⟩⟩

set_option maxHeartbeats 4000000 in
set_option maxRecDepth 100000 in
theorem c_M_takesJar (l : Launch) (G : va_G) (cI cB cZ cO : ClassId) (ad : Nat → Nat) (w : Nat → va_E) (x y : Int64) (mb bl ta tl tk va : Int32) (ok : OK cI cB cZ cO ad w)   (pf : w 64 = .inr (7, [.ref (ad 65), .ref (ad 66), .ref (ad 67), .ref (ad 68), .long x, .long y, .ref (ad 69), .int mb, .ref (ad 70), .ref (ad 71), .int bl, .int ta, .int tl, .int tk, .int va, .ref (ad 72), .ref (ad 73)])) (hbl0 : 0 ≤ bl.toInt) (hbl1 : bl.toInt ≤ 150) (hta : 0 ≤ ta.toInt) (htl : 0 ≤ tl.toInt) (htb : ta.toInt + tl.toInt ≤ bl.toInt) (htk : tk.toInt = 0 ∨ 1 ≤ tl.toInt) : NI l G (tyq cI cB cZ cO) yX9_takesJar cX9_takesJar 1 (some .boolean) 5 112 74 ad w [.ref (ad 64)] (fun r w1 => OK cI cB cZ cO ad w1 ∧ KN w w1 ∧ ∃ ta1 tl1 tk1 va1 : Int32, w1 64 = .inr (7, [.ref (ad 65), .ref (ad 66), .ref (ad 67), .ref (ad 68), .long x, .long y, .ref (ad 69), .int mb, .ref (ad 70), .ref (ad 71), .int bl, .int ta1, .int tl1, .int tk1, .int va1, .ref (ad 72), .ref (ad 73)]) ∧ 0 ≤ ta1.toInt ∧ 0 ≤ tl1.toInt ∧ ta1.toInt + tl1.toInt ≤ bl.toInt ∧ (tk1.toInt = 0 ∨ 1 ≤ tl1.toInt) ∧ ((ta.toInt + tl.toInt ≤ ta1.toInt ∧ r = 1) ∨ r = 0)) := by
  refine nk_i (own := "NoonShadeModel") rfl (by decide) (Nat.le_of_ble_eq_true rfl) ?_
  intro p e s m below meth c ls X hD hN hr hlk h hl
  have hx := X.1.1
  have hb := X.1.2.1
  have hown := X.1.2.2.2.1
  have hts := X.1.2.2.2.2
  have hl : lv_has ls 1 [(0, .ref (ad 64))] := hl
  have kq0 : (0 : Int32).toInt = 0 := rfl
  have kq1 : (1 : Int32).toInt = 1 := rfl
  have kq2 : (2 : Int32).toInt = 2 := rfl
  have kq3 : (3 : Int32).toInt = 3 := rfl
  have kq4 : (4 : Int32).toInt = 4 := rfl
  refine lv_aload_n hx hb dX9_takesJar_0 rfl (lv_at hl 0 rfl) ?_
  refine r_get kc9 X h 64 15 (by decide) rfl pf (by decide) kv_683 rfl dX9_takesJar_1 ?_
  refine lv_iconst (v := 1) hx hb dX9_takesJar_4 (by decide) ?_
  obtain ⟨g2, f1, p3⟩ := (show sA cI 89 (alA) (w 72) from ok 72 (by decide))
  have f4 : w 72 = .inl (cI, 89, .inl g2) := f1
  obtain ⟨v5, e6⟩ : ∃ z : Int32, g2 1 = z := ⟨_, rfl⟩
  have h7 := (alA_rd p3 e6).2.1 rfl
  refine o_iald (v := v5) X h 72 0 (by decide) rfl f4 rfl (by unfold vp_in; decide) e6 dX9_takesJar_5 ?_
  refine lv_iconst (v := 4) hx hb dX9_takesJar_6 (by decide) ?_
  refine lv_icmp_ne (tgt := 12) hx hb dX9_takesJar_7 (by decide) (fun hc8 => ?_) (fun hc8 => ?_)
  · have hc8 : ¬ (v5).toInt = 4 := i_ne hc8 rfl rfl
    refine lv_aload_n hx hb dX9_takesJar_12 rfl (lv_at hl 0 rfl) ?_
    refine n_Vv (na := 0) (As := []) (rest := []) X hD hN h rfl (c_M_goBehind l G cI cB cZ cO ad w x y mb bl ta tl tk va ok   pf (by first | omega | decide | (simp only [k00]; omega)) (by first | omega | decide | (simp only [k00]; omega)) (by first | omega | decide | (simp only [k00]; omega)) (by first | omega | decide | (simp only [k00]; omega)) (by first | omega | decide | (simp only [k00]; omega))) ⟨kv_679, kv_680, kv_681, kv_470, kv_682⟩ rfl ⟨by decide, by decide, by decide⟩ ⟨Nat.le_of_ble_eq_true rfl, Nat.le_of_ble_eq_true rfl⟩ ⟨Nat.zero_le _, Nat.zero_le _⟩ (by decide) pf rfl rfl hl.1 rfl (Nat.le_of_ble_eq_true rfl) dX9_takesJar_13 (fun w10 H locs hp11 h => ?_)
    obtain ⟨ok12, kk13, hr14⟩ := hp11
    obtain ⟨y15, y16, y17, y18, h19, h20, h21, h22, h23⟩ := hr14
    have kx24 : KN w w10 := KN.tr KN.rf (F7.m kk13.f7 pf h19).n
    refine lv_aload_n hx hb dX9_takesJar_16 rfl (lv_at hl 0 rfl) ?_
    refine lv_iconst (v := 0) hx hb dX9_takesJar_17 (by decide) ?_
    refine lv_iconst (v := 0) hx hb dX9_takesJar_18 (by decide) ?_
    refine lv_iconst (v := 5) hx hb dX9_takesJar_19 (by decide) ?_
    obtain ⟨g26, f25, p27⟩ := (show sA cI 3 (anyA) (w10 73) from ok12 73 (by decide))
    have f28 : w10 73 = .inl (cI, 3, .inl g26) := f25
    refine n_Vi (na := 3) (As := [.int 0, .int 0, .int 5]) (rest := []) X hD hN h rfl (c_M_takes0 l G cI cB cZ cO ad w10 x y mb bl y15 y16 y17 y18 g26 ok12 (0 : Int32) (5 : Int32) h19 (by first | omega | decide | (simp only [k00]; omega)) (by first | omega | decide | (simp only [k00]; omega)) (by first | omega | decide | (simp only [k00]; omega)) (by first | omega | decide | (simp only [k00]; omega)) (by first | omega | decide | (simp only [k00]; omega)) (by first | omega | decide | (simp only [k00]; omega)) f28) ⟨kv_684, kv_685, kv_686, kv_470, kv_687⟩ rfl ⟨by decide, by decide, by decide⟩ ⟨Nat.le_of_ble_eq_true rfl, Nat.le_of_ble_eq_true rfl⟩ ⟨Nat.zero_le _, Nat.zero_le _⟩ (by decide) h19 rfl rfl hl.1 rfl (Nat.le_of_ble_eq_true rfl) dX9_takesJar_20 (fun r29 w30 H locs hp31 h => ?_)
    obtain ⟨ok32, kk33, h34, hr35⟩ := hp31
    obtain ⟨y36, y37, y38, y39, h40, h41, h42, h43, h44⟩ := h34
    have kx45 : KN w w30 := KN.tr kx24 (F7.m kk33 h19 h40).n
    rcases hr35 with ⟨⟨v46, h47, h48, e49⟩, rfl⟩ | rfl
    · have k53 : (0 : Int32).toInt = 0 := rfl
      have k54 : (5 : Int32).toInt = 5 := rfl
      obtain ⟨g50, e51⟩ : ∃ z : Nat → Int32, upd g26 0 v46 = z := ⟨_, rfl⟩
      rw [e51] at e49
      have f52 : anyA g50 := trivial
      refine lv_if_ne (tgt := 28) hx hb dX9_takesJar_23 (by decide) (fun _ => ?_) (fun hc => absurd hc (by decide))
      refine lv_aload_n hx hb dX9_takesJar_28 rfl (lv_at hl 0 rfl) ?_
      refine r_get kc9 X h 64 15 (by decide) rfl h40 (by decide) kv_683 rfl dX9_takesJar_29 ?_
      refine lv_aload_n hx hb dX9_takesJar_32 rfl (lv_at hl 0 rfl) ?_
      refine r_get kc9 X h 64 16 (by decide) rfl h40 (by decide) kv_678 rfl dX9_takesJar_33 ?_
      refine lv_iconst (v := 0) hx hb dX9_takesJar_36 (by decide) ?_
      have e55 : g50 0 = v46 := by rw [← e51, pk_us]
      refine o_iald (v := v46) X h 73 0 (by decide) rfl e49 rfl (by unfold vp_in; decide) e55 dX9_takesJar_37 ?_
      have f56 : w10 72 = .inl (cI, 89, .inl g2) := (kk13 72 (by decide)).trans f4
      have f57 : w30 72 = .inl (cI, 89, .inl g2) := (kk33 72 (by decide) (by decide)).trans f56
      refine n_Sv (na := 2) (As := [.ref (ad 72), .int v46]) (rest := []) X hD hN h (c_M_layJar72 l G cI cB cZ cO ad w30 g2 ok32 v46 f57 p3 (by rw [e6]; omega)) ⟨kv_648, kv_649, kv_470, kv_650⟩ ⟨by decide, by decide, by decide⟩ ⟨Nat.le_of_ble_eq_true rfl, Nat.le_of_ble_eq_true rfl⟩ ⟨Nat.zero_le _, Nat.zero_le _⟩ rfl hl.1 rfl (Nat.le_of_ble_eq_true rfl) dX9_takesJar_38 (fun w59 H locs hp60 h => ?_)
      obtain ⟨ok61, kk62, hr63⟩ := hp60
      have kx64 : KN w w59 := KN.tr kx45 kk62.1.n
      refine lv_iconst (v := 1) hx hb dX9_takesJar_41 (by decide) ?_
      have f65 : w59 64 = .inr (7, [.ref (ad 65), .ref (ad 66), .ref (ad 67), .ref (ad 68), .long x, .long y, .ref (ad 69), .int mb, .ref (ad 70), .ref (ad 71), .int bl, .int y36, .int y37, .int y38, .int y39, .ref (ad 72), .ref (ad 73)]) := (kk62.2 64 (by decide)).trans h40
      exact e_n X h hr hlk rfl dX9_takesJar_42 ⟨ok61, kx64, ⟨_, _, _, _, f65, by omega, by omega, by omega, by omega, Or.inl ⟨by omega, rfl⟩⟩⟩
    · refine lv_if_ne (tgt := 28) hx hb dX9_takesJar_23 (by decide) (fun hc => absurd (by decide) hc) (fun _ => ?_)
      refine lv_iconst (v := 0) hx hb dX9_takesJar_26 (by decide) ?_
      exact e_n X h hr hlk rfl dX9_takesJar_27 ⟨ok32, kx45, ⟨_, _, _, _, h40, by omega, by omega, by omega, by omega, Or.inr rfl⟩⟩
  · have hc8 : (v5).toInt = 4 := i_eq hc8 rfl rfl
    refine lv_iconst (v := 0) hx hb dX9_takesJar_10 (by decide) ?_
    exact e_n X h hr hlk rfl dX9_takesJar_11 ⟨ok, KN.rf, ⟨_, _, _, _, pf, by omega, by omega, by omega, by omega, Or.inr rfl⟩⟩

set_option maxHeartbeats 4000000 in
set_option maxRecDepth 100000 in
theorem c_M_takesLadle (l : Launch) (G : va_G) (cI cB cZ cO : ClassId) (ad : Nat → Nat) (w : Nat → va_E) (x y : Int64) (mb bl ta tl tk va : Int32) (ok : OK cI cB cZ cO ad w)   (pf : w 64 = .inr (7, [.ref (ad 65), .ref (ad 66), .ref (ad 67), .ref (ad 68), .long x, .long y, .ref (ad 69), .int mb, .ref (ad 70), .ref (ad 71), .int bl, .int ta, .int tl, .int tk, .int va, .ref (ad 72), .ref (ad 73)])) (hbl0 : 0 ≤ bl.toInt) (hbl1 : bl.toInt ≤ 150) (hta : 0 ≤ ta.toInt) (htl : 0 ≤ tl.toInt) (htb : ta.toInt + tl.toInt ≤ bl.toInt) (htk : tk.toInt = 0 ∨ 1 ≤ tl.toInt) : NI l G (tyq cI cB cZ cO) yX9_takesLadle cX9_takesLadle 2 (some .boolean) 5 112 74 ad w [.ref (ad 64)] (fun r w1 => OK cI cB cZ cO ad w1 ∧ KN w w1 ∧ ∃ ta1 tl1 tk1 va1 : Int32, w1 64 = .inr (7, [.ref (ad 65), .ref (ad 66), .ref (ad 67), .ref (ad 68), .long x, .long y, .ref (ad 69), .int mb, .ref (ad 70), .ref (ad 71), .int bl, .int ta1, .int tl1, .int tk1, .int va1, .ref (ad 72), .ref (ad 73)]) ∧ 0 ≤ ta1.toInt ∧ 0 ≤ tl1.toInt ∧ ta1.toInt + tl1.toInt ≤ bl.toInt ∧ (tk1.toInt = 0 ∨ 1 ≤ tl1.toInt) ∧ ((ta.toInt + tl.toInt ≤ ta1.toInt ∧ r = 1) ∨ r = 0)) := by
  refine nk_i (own := "NoonShadeModel") rfl (by decide) (Nat.le_of_ble_eq_true rfl) ?_
  intro p e s m below meth c ls X hD hN hr hlk h hl
  have hx := X.1.1
  have hb := X.1.2.1
  have hown := X.1.2.2.2.1
  have hts := X.1.2.2.2.2
  have hl : lv_has ls 2 [(0, .ref (ad 64))] := hl
  have kq0 : (0 : Int32).toInt = 0 := rfl
  have kq1 : (1 : Int32).toInt = 1 := rfl
  have kq2 : (2 : Int32).toInt = 2 := rfl
  have kq3 : (3 : Int32).toInt = 3 := rfl
  have kq4 : (4 : Int32).toInt = 4 := rfl
  refine lv_aload_n hx hb dX9_takesLadle_0 rfl (lv_at hl 0 rfl) ?_
  refine n_Vv (na := 0) (As := []) (rest := []) X hD hN h rfl (c_M_goBehind l G cI cB cZ cO ad w x y mb bl ta tl tk va ok   pf (by first | omega | decide | (simp only [k00]; omega)) (by first | omega | decide | (simp only [k00]; omega)) (by first | omega | decide | (simp only [k00]; omega)) (by first | omega | decide | (simp only [k00]; omega)) (by first | omega | decide | (simp only [k00]; omega))) ⟨kv_679, kv_680, kv_681, kv_470, kv_682⟩ rfl ⟨by decide, by decide, by decide⟩ ⟨Nat.le_of_ble_eq_true rfl, Nat.le_of_ble_eq_true rfl⟩ ⟨Nat.zero_le _, Nat.zero_le _⟩ (by decide) pf rfl rfl hl.1 rfl (Nat.le_of_ble_eq_true rfl) dX9_takesLadle_1 (fun w2 H locs hp3 h => ?_)
  obtain ⟨ok4, kk5, hr6⟩ := hp3
  obtain ⟨y7, y8, y9, y10, h11, h12, h13, h14, h15⟩ := hr6
  have kx16 : KN w w2 := KN.tr KN.rf (F7.m kk5.f7 pf h11).n
  refine lv_aload_n hx hb dX9_takesLadle_4 rfl (lv_at hl 0 rfl) ?_
  refine r_get kc9 X h 64 13 (by decide) rfl h11 (by decide) kv_665 rfl dX9_takesLadle_5 ?_
  refine lv_iconst (v := 2) hx hb dX9_takesLadle_8 (by decide) ?_
  refine lv_icmp_ne (tgt := 78) hx hb dX9_takesLadle_9 (by decide) (fun hc17 => ?_) (fun hc17 => ?_)
  · have hc17 : ¬ (y9).toInt = 2 := i_ne hc17 rfl rfl
    refine lv_iconst (v := 0) hx hb dX9_takesLadle_78 (by decide) ?_
    exact e_n X h hr hlk rfl dX9_takesLadle_79 ⟨ok4, kx16, ⟨_, _, _, _, h11, by omega, by omega, by omega, by omega, Or.inr rfl⟩⟩
  · have hc17 : (y9).toInt = 2 := i_eq hc17 rfl rfl
    refine lv_aload_n hx hb dX9_takesLadle_12 rfl (lv_at hl 0 rfl) ?_
    refine r_get kc9 X h 64 14 (by decide) rfl h11 (by decide) kv_666 rfl dX9_takesLadle_13 ?_
    obtain ⟨z18, e19⟩ : ∃ z : Int64, y10.toInt64 = z := ⟨_, rfl⟩
    have tz18 : z18.toInt = (y10).toInt := by rw [← e19]; exact Int32.toInt_toInt64 _
    refine lv_i2l (v := z18) hx hb dX9_takesLadle_16 e19 ?_
    refine lv_lconst (v := 0) hx hb dX9_takesLadle_17 (by decide) ?_
    refine lv_aload_n hx hb dX9_takesLadle_18 rfl (lv_at hl 0 rfl) ?_
    refine r_get kc9 X h 64 15 (by decide) rfl h11 (by decide) kv_683 rfl dX9_takesLadle_19 ?_
    refine lv_iconst (v := 0) hx hb dX9_takesLadle_22 (by decide) ?_
    obtain ⟨g21, f20, p22⟩ := (show sA cI 89 (alA) (w2 72) from ok4 72 (by decide))
    have f23 : w2 72 = .inl (cI, 89, .inl g21) := f20
    obtain ⟨v24, e25⟩ : ∃ z : Int32, g21 0 = z := ⟨_, rfl⟩
    have h26 := (alA_rd p22 e25).1 rfl
    refine o_iald (v := v24) X h 72 0 (by decide) rfl f23 rfl (by unfold vp_in; decide) e25 dX9_takesLadle_23 ?_
    refine lv_iconst (v := 1) hx hb dX9_takesLadle_24 (by decide) ?_
    obtain ⟨z29, e27, t28⟩ := x_sub (x := v24) (y := (1 : Int32)) (a := (v24).toInt) (b := 1) rfl rfl (by omega) (by omega)
    refine o_isub (z := z29) hx hb dX9_takesLadle_25 e27 ?_
    obtain ⟨z30, e31⟩ : ∃ z : Int64, z29.toInt64 = z := ⟨_, rfl⟩
    have tz30 : z30.toInt = (z29).toInt := by rw [← e31]; exact Int32.toInt_toInt64 _
    refine lv_i2l (v := z30) hx hb dX9_takesLadle_26 e31 ?_
    refine n_Si (na := 3) (As := [.long z18, .long 0, .long z30]) (rest := []) X hD hN h (c_M_in l G cI cB cZ cO ad w2 z18 (0 : Int64) z30 ((y10).toInt) 0 ((z29).toInt) tz18 rfl tz30) ⟨kv_468, kv_469, kv_470, kv_471⟩ ⟨by decide, by decide, by decide⟩ ⟨Nat.le_of_ble_eq_true rfl, Nat.le_of_ble_eq_true rfl⟩ ⟨Nat.zero_le _, Nat.zero_le _⟩ rfl hl.1 rfl (Nat.le_of_ble_eq_true rfl) dX9_takesLadle_27 (fun r32 w33 H locs hp34 h => ?_)
    obtain ⟨rfl, hq35⟩ := hp34
    rcases hq35 with ⟨hq36, hq37, rfl⟩ | ⟨hq35, rfl⟩
    · refine lv_if_eq (tgt := 78) hx hb dX9_takesLadle_30 (by decide) (fun hc => absurd hc (by decide)) (fun _ => ?_)
      refine lv_aload_n hx hb dX9_takesLadle_33 rfl (lv_at hl 0 rfl) ?_
      refine r_get kc9 X h 64 15 (by decide) rfl h11 (by decide) kv_683 rfl dX9_takesLadle_34 ?_
      refine lv_bipush (v := 7) hx hb dX9_takesLadle_37 (by decide) ?_
      obtain ⟨v38, e39⟩ : ∃ z : Int32, g21 7 = z := ⟨_, rfl⟩
      refine o_iald (v := v38) X h 72 0 (by decide) rfl f23 rfl (by unfold vp_in; decide) e39 dX9_takesLadle_39 ?_
      refine lv_aload_n hx hb dX9_takesLadle_40 rfl (lv_at hl 0 rfl) ?_
      refine r_get kc9 X h 64 14 (by decide) rfl h11 (by decide) kv_666 rfl dX9_takesLadle_41 ?_
      refine n_Si (na := 2) (As := [.int v38, .int y10]) (rest := []) X hD hN h (c_M_has l G cI cB cZ cO ad w2   v38 y10  ) ⟨kv_496, kv_497, kv_470, kv_498⟩ ⟨by decide, by decide, by decide⟩ ⟨Nat.le_of_ble_eq_true rfl, Nat.le_of_ble_eq_true rfl⟩ ⟨Nat.zero_le _, Nat.zero_le _⟩ rfl hl.1 rfl (Nat.le_of_ble_eq_true rfl) dX9_takesLadle_44 (fun r41 w42 H locs hp43 h => ?_)
      obtain ⟨rfl, hr44⟩ := hp43
      rcases hr44 with rfl | rfl
      · refine lv_if_ne (tgt := 78) hx hb dX9_takesLadle_47 (by decide) (fun _ => ?_) (fun hc => absurd hc (by decide))
        refine lv_iconst (v := 0) hx hb dX9_takesLadle_78 (by decide) ?_
        exact e_n X h hr hlk rfl dX9_takesLadle_79 ⟨ok4, kx16, ⟨_, _, _, _, h11, by omega, by omega, by omega, by omega, Or.inr rfl⟩⟩
      · refine lv_if_ne (tgt := 78) hx hb dX9_takesLadle_47 (by decide) (fun hc => absurd (by decide) hc) (fun _ => ?_)
        refine lv_aload_n hx hb dX9_takesLadle_50 rfl (lv_at hl 0 rfl) ?_
        refine lv_iconst (v := 0) hx hb dX9_takesLadle_51 (by decide) ?_
        refine lv_iconst (v := 0) hx hb dX9_takesLadle_52 (by decide) ?_
        refine lv_bipush (v := 6) hx hb dX9_takesLadle_53 (by decide) ?_
        obtain ⟨g46, f45, p47⟩ := (show sA cI 3 (anyA) (w2 73) from ok4 73 (by decide))
        have f48 : w2 73 = .inl (cI, 3, .inl g46) := f45
        refine n_Vi (na := 3) (As := [.int 0, .int 0, .int 6]) (rest := []) X hD hN h rfl (c_M_takes0 l G cI cB cZ cO ad w2 x y mb bl y7 y8 y9 y10 g46 ok4 (0 : Int32) (6 : Int32) h11 (by first | omega | decide | (simp only [k00]; omega)) (by first | omega | decide | (simp only [k00]; omega)) (by first | omega | decide | (simp only [k00]; omega)) (by first | omega | decide | (simp only [k00]; omega)) (by first | omega | decide | (simp only [k00]; omega)) (by first | omega | decide | (simp only [k00]; omega)) f48) ⟨kv_684, kv_685, kv_686, kv_470, kv_687⟩ rfl ⟨by decide, by decide, by decide⟩ ⟨Nat.le_of_ble_eq_true rfl, Nat.le_of_ble_eq_true rfl⟩ ⟨Nat.zero_le _, Nat.zero_le _⟩ (by decide) h11 rfl rfl hl.1 rfl (Nat.le_of_ble_eq_true rfl) dX9_takesLadle_55 (fun r49 w50 H locs hp51 h => ?_)
        obtain ⟨ok52, kk53, h54, hr55⟩ := hp51
        obtain ⟨y56, y57, y58, y59, h60, h61, h62, h63, h64⟩ := h54
        have kx65 : KN w w50 := KN.tr kx16 (F7.m kk53 h11 h60).n
        rcases hr55 with ⟨⟨v66, h67, h68, e69⟩, rfl⟩ | rfl
        · have k73 : (0 : Int32).toInt = 0 := rfl
          have k74 : (6 : Int32).toInt = 6 := rfl
          obtain ⟨g70, e71⟩ : ∃ z : Nat → Int32, upd g46 0 v66 = z := ⟨_, rfl⟩
          rw [e71] at e69
          have f72 : anyA g70 := trivial
          refine lv_if_eq (tgt := 78) hx hb dX9_takesLadle_58 (by decide) (fun hc => absurd hc (by decide)) (fun _ => ?_)
          refine lv_aload_n hx hb dX9_takesLadle_61 rfl (lv_at hl 0 rfl) ?_
          refine lv_iconst (v := 1) hx hb dX9_takesLadle_62 (by decide) ?_
          refine lv_iconst (v := 0) hx hb dX9_takesLadle_63 (by decide) ?_
          refine lv_aload_n hx hb dX9_takesLadle_64 rfl (lv_at hl 0 rfl) ?_
          refine r_get kc9 X h 64 15 (by decide) rfl h60 (by decide) kv_683 rfl dX9_takesLadle_65 ?_
          refine lv_iconst (v := 1) hx hb dX9_takesLadle_68 (by decide) ?_
          have f75 : w50 72 = .inl (cI, 89, .inl g21) := (kk53 72 (by decide) (by decide)).trans f23
          obtain ⟨v76, e77⟩ : ∃ z : Int32, g21 1 = z := ⟨_, rfl⟩
          have h78 := (alA_rd p22 e77).2.1 rfl
          refine o_iald (v := v76) X h 72 0 (by decide) rfl f75 rfl (by unfold vp_in; decide) e77 dX9_takesLadle_69 ?_
          refine lv_iconst (v := 1) hx hb dX9_takesLadle_70 (by decide) ?_
          obtain ⟨z81, e79, t80⟩ := x_sub (x := v76) (y := (1 : Int32)) (a := (v76).toInt) (b := 1) rfl rfl (by omega) (by omega)
          refine o_isub (z := z81) hx hb dX9_takesLadle_71 e79 ?_
          refine n_Vi (na := 3) (As := [.int 1, .int 0, .int z81]) (rest := []) X hD hN h rfl (c_M_takes1 l G cI cB cZ cO ad w50 x y mb bl y56 y57 y58 y59 g70 ok52 (0 : Int32) z81 h60 (by first | omega | decide | (simp only [k00]; omega)) (by first | omega | decide | (simp only [k00]; omega)) (by first | omega | decide | (simp only [k00]; omega)) (by first | omega | decide | (simp only [k00]; omega)) (by first | omega | decide | (simp only [k00]; omega)) (by first | omega | decide | (simp only [k00]; omega)) e69) ⟨kv_684, kv_685, kv_686, kv_470, kv_687⟩ rfl ⟨by decide, by decide, by decide⟩ ⟨Nat.le_of_ble_eq_true rfl, Nat.le_of_ble_eq_true rfl⟩ ⟨Nat.zero_le _, Nat.zero_le _⟩ (by decide) h60 rfl rfl hl.1 rfl (Nat.le_of_ble_eq_true rfl) dX9_takesLadle_72 (fun r82 w83 H locs hp84 h => ?_)
          obtain ⟨ok85, kk86, h87, hr88⟩ := hp84
          obtain ⟨y89, y90, y91, y92, h93, h94, h95, h96, h97⟩ := h87
          have kx98 : KN w w83 := KN.tr kx65 (F7.m kk86 h60 h93).n
          rcases hr88 with ⟨⟨v99, h100, h101, e102⟩, rfl⟩ | rfl
          · have k106 : (0 : Int32).toInt = 0 := rfl
            obtain ⟨g103, e104⟩ : ∃ z : Nat → Int32, upd g70 1 v99 = z := ⟨_, rfl⟩
            rw [e104] at e102
            have f105 : anyA g103 := trivial
            refine lv_if_ne (tgt := 80) hx hb dX9_takesLadle_75 (by decide) (fun _ => ?_) (fun hc => absurd hc (by decide))
            refine lv_aload_n hx hb dX9_takesLadle_80 rfl (lv_at hl 0 rfl) ?_
            refine r_get kc9 X h 64 15 (by decide) rfl h93 (by decide) kv_683 rfl dX9_takesLadle_81 ?_
            refine lv_aload_n hx hb dX9_takesLadle_84 rfl (lv_at hl 0 rfl) ?_
            refine r_get kc9 X h 64 16 (by decide) rfl h93 (by decide) kv_678 rfl dX9_takesLadle_85 ?_
            refine lv_iconst (v := 0) hx hb dX9_takesLadle_88 (by decide) ?_
            have e107 : g103 0 = v66 := by rw [← e104, pk_un (by decide), ← e71, pk_us]
            refine o_iald (v := v66) X h 73 0 (by decide) rfl e102 rfl (by unfold vp_in; decide) e107 dX9_takesLadle_89 ?_
            refine lv_aload_n hx hb dX9_takesLadle_90 rfl (lv_at hl 0 rfl) ?_
            refine r_get kc9 X h 64 16 (by decide) rfl h93 (by decide) kv_678 rfl dX9_takesLadle_91 ?_
            refine lv_iconst (v := 1) hx hb dX9_takesLadle_94 (by decide) ?_
            have e108 : g103 1 = v99 := by rw [← e104, pk_us]
            refine o_iald (v := v99) X h 73 0 (by decide) rfl e102 rfl (by unfold vp_in; decide) e108 dX9_takesLadle_95 ?_
            refine n_Si (na := 3) (As := [.ref (ad 72), .int v66, .int v99]) (rest := []) X hD hN h (c_M_goLadle l G cI cB cZ cO ad w83 72 (Or.inr (Or.inr rfl)) ok85 v66 v99 (by omega) (by omega) (by omega) (by omega) ) ⟨kv_511, kv_512, kv_470, kv_513⟩ ⟨by decide, by decide, by decide⟩ ⟨Nat.le_of_ble_eq_true rfl, Nat.le_of_ble_eq_true rfl⟩ ⟨Nat.zero_le _, Nat.zero_le _⟩ rfl hl.1 rfl (Nat.le_of_ble_eq_true rfl) dX9_takesLadle_96 (fun r109 w110 H locs hp111 h => ?_)
            obtain ⟨ok113, kk114, hr112⟩ := hp111
            have kx115 : KN w w110 := KN.tr kx98 kk114.1.n
            refine lv_istore_n (lv' := [(1, .int r109), (0, .ref (ad 64))]) hx hb dX9_takesLadle_99 rfl hl (by decide) rfl (fun ls hl => ?_)
            refine lv_iconst (v := 1) hx hb dX9_takesLadle_100 (by decide) ?_
            have f116 : w110 64 = .inr (7, [.ref (ad 65), .ref (ad 66), .ref (ad 67), .ref (ad 68), .long x, .long y, .ref (ad 69), .int mb, .ref (ad 70), .ref (ad 71), .int bl, .int y89, .int y90, .int y91, .int y92, .ref (ad 72), .ref (ad 73)]) := (kk114.2 64 (by decide)).trans h93
            exact e_n X h hr hlk rfl dX9_takesLadle_101 ⟨ok113, kx115, ⟨_, _, _, _, f116, by omega, by omega, by omega, by omega, Or.inl ⟨by omega, rfl⟩⟩⟩
          · refine lv_if_ne (tgt := 80) hx hb dX9_takesLadle_75 (by decide) (fun hc => absurd (by decide) hc) (fun _ => ?_)
            refine lv_iconst (v := 0) hx hb dX9_takesLadle_78 (by decide) ?_
            exact e_n X h hr hlk rfl dX9_takesLadle_79 ⟨ok85, kx98, ⟨_, _, _, _, h93, by omega, by omega, by omega, by omega, Or.inr rfl⟩⟩
        · refine lv_if_eq (tgt := 78) hx hb dX9_takesLadle_58 (by decide) (fun _ => ?_) (fun hc => absurd (by decide) hc)
          refine lv_iconst (v := 0) hx hb dX9_takesLadle_78 (by decide) ?_
          exact e_n X h hr hlk rfl dX9_takesLadle_79 ⟨ok52, kx65, ⟨_, _, _, _, h60, by omega, by omega, by omega, by omega, Or.inr rfl⟩⟩
    · refine lv_if_eq (tgt := 78) hx hb dX9_takesLadle_30 (by decide) (fun _ => ?_) (fun hc => absurd (by decide) hc)
      refine lv_iconst (v := 0) hx hb dX9_takesLadle_78 (by decide) ?_
      exact e_n X h hr hlk rfl dX9_takesLadle_79 ⟨ok4, kx16, ⟨_, _, _, _, h11, by omega, by omega, by omega, by omega, Or.inr rfl⟩⟩

set_option maxHeartbeats 4000000 in
set_option maxRecDepth 100000 in
theorem c_M_takesPour (l : Launch) (G : va_G) (cI cB cZ cO : ClassId) (ad : Nat → Nat) (w : Nat → va_E) (x y : Int64) (mb bl ta tl tk va : Int32) (ok : OK cI cB cZ cO ad w)   (pf : w 64 = .inr (7, [.ref (ad 65), .ref (ad 66), .ref (ad 67), .ref (ad 68), .long x, .long y, .ref (ad 69), .int mb, .ref (ad 70), .ref (ad 71), .int bl, .int ta, .int tl, .int tk, .int va, .ref (ad 72), .ref (ad 73)])) (hbl0 : 0 ≤ bl.toInt) (hbl1 : bl.toInt ≤ 150) (hta : 0 ≤ ta.toInt) (htl : 0 ≤ tl.toInt) (htb : ta.toInt + tl.toInt ≤ bl.toInt) (htk : tk.toInt = 0 ∨ 1 ≤ tl.toInt) : NI l G (tyq cI cB cZ cO) yX9_takesPour cX9_takesPour 2 (some .boolean) 5 112 74 ad w [.ref (ad 64)] (fun r w1 => OK cI cB cZ cO ad w1 ∧ KN w w1 ∧ ∃ ta1 tl1 tk1 va1 : Int32, w1 64 = .inr (7, [.ref (ad 65), .ref (ad 66), .ref (ad 67), .ref (ad 68), .long x, .long y, .ref (ad 69), .int mb, .ref (ad 70), .ref (ad 71), .int bl, .int ta1, .int tl1, .int tk1, .int va1, .ref (ad 72), .ref (ad 73)]) ∧ 0 ≤ ta1.toInt ∧ 0 ≤ tl1.toInt ∧ ta1.toInt + tl1.toInt ≤ bl.toInt ∧ (tk1.toInt = 0 ∨ 1 ≤ tl1.toInt) ∧ ((ta.toInt + tl.toInt ≤ ta1.toInt ∧ r = 1) ∨ r = 0)) := by
  refine nk_i (own := "NoonShadeModel") rfl (by decide) (Nat.le_of_ble_eq_true rfl) ?_
  intro p e s m below meth c ls X hD hN hr hlk h hl
  have hx := X.1.1
  have hb := X.1.2.1
  have hown := X.1.2.2.2.1
  have hts := X.1.2.2.2.2
  have hl : lv_has ls 2 [(0, .ref (ad 64))] := hl
  have kq0 : (0 : Int32).toInt = 0 := rfl
  have kq1 : (1 : Int32).toInt = 1 := rfl
  have kq2 : (2 : Int32).toInt = 2 := rfl
  have kq3 : (3 : Int32).toInt = 3 := rfl
  have kq4 : (4 : Int32).toInt = 4 := rfl
  refine lv_aload_n hx hb dX9_takesPour_0 rfl (lv_at hl 0 rfl) ?_
  refine n_Vv (na := 0) (As := []) (rest := []) X hD hN h rfl (c_M_goBehind l G cI cB cZ cO ad w x y mb bl ta tl tk va ok   pf (by first | omega | decide | (simp only [k00]; omega)) (by first | omega | decide | (simp only [k00]; omega)) (by first | omega | decide | (simp only [k00]; omega)) (by first | omega | decide | (simp only [k00]; omega)) (by first | omega | decide | (simp only [k00]; omega))) ⟨kv_679, kv_680, kv_681, kv_470, kv_682⟩ rfl ⟨by decide, by decide, by decide⟩ ⟨Nat.le_of_ble_eq_true rfl, Nat.le_of_ble_eq_true rfl⟩ ⟨Nat.zero_le _, Nat.zero_le _⟩ (by decide) pf rfl rfl hl.1 rfl (Nat.le_of_ble_eq_true rfl) dX9_takesPour_1 (fun w2 H locs hp3 h => ?_)
  obtain ⟨ok4, kk5, hr6⟩ := hp3
  obtain ⟨y7, y8, y9, y10, h11, h12, h13, h14, h15⟩ := hr6
  have kx16 : KN w w2 := KN.tr KN.rf (F7.m kk5.f7 pf h11).n
  refine lv_aload_n hx hb dX9_takesPour_4 rfl (lv_at hl 0 rfl) ?_
  refine r_get kc9 X h 64 13 (by decide) rfl h11 (by decide) kv_665 rfl dX9_takesPour_5 ?_
  refine lv_iconst (v := 2) hx hb dX9_takesPour_8 (by decide) ?_
  refine lv_icmp_ne (tgt := 96) hx hb dX9_takesPour_9 (by decide) (fun hc17 => ?_) (fun hc17 => ?_)
  · have hc17 : ¬ (y9).toInt = 2 := i_ne hc17 rfl rfl
    refine lv_iconst (v := 0) hx hb dX9_takesPour_96 (by decide) ?_
    exact e_n X h hr hlk rfl dX9_takesPour_97 ⟨ok4, kx16, ⟨_, _, _, _, h11, by omega, by omega, by omega, by omega, Or.inr rfl⟩⟩
  · have hc17 : (y9).toInt = 2 := i_eq hc17 rfl rfl
    refine lv_aload_n hx hb dX9_takesPour_12 rfl (lv_at hl 0 rfl) ?_
    refine r_get kc9 X h 64 14 (by decide) rfl h11 (by decide) kv_666 rfl dX9_takesPour_13 ?_
    obtain ⟨z18, e19⟩ : ∃ z : Int64, y10.toInt64 = z := ⟨_, rfl⟩
    have tz18 : z18.toInt = (y10).toInt := by rw [← e19]; exact Int32.toInt_toInt64 _
    refine lv_i2l (v := z18) hx hb dX9_takesPour_16 e19 ?_
    refine lv_lconst (v := 0) hx hb dX9_takesPour_17 (by decide) ?_
    refine lv_aload_n hx hb dX9_takesPour_18 rfl (lv_at hl 0 rfl) ?_
    refine r_get kc9 X h 64 15 (by decide) rfl h11 (by decide) kv_683 rfl dX9_takesPour_19 ?_
    refine lv_iconst (v := 1) hx hb dX9_takesPour_22 (by decide) ?_
    obtain ⟨g21, f20, p22⟩ := (show sA cI 89 (alA) (w2 72) from ok4 72 (by decide))
    have f23 : w2 72 = .inl (cI, 89, .inl g21) := f20
    obtain ⟨v24, e25⟩ : ∃ z : Int32, g21 1 = z := ⟨_, rfl⟩
    have h26 := (alA_rd p22 e25).2.1 rfl
    refine o_iald (v := v24) X h 72 0 (by decide) rfl f23 rfl (by unfold vp_in; decide) e25 dX9_takesPour_23 ?_
    refine lv_iconst (v := 1) hx hb dX9_takesPour_24 (by decide) ?_
    obtain ⟨z29, e27, t28⟩ := x_sub (x := v24) (y := (1 : Int32)) (a := (v24).toInt) (b := 1) rfl rfl (by omega) (by omega)
    refine o_isub (z := z29) hx hb dX9_takesPour_25 e27 ?_
    obtain ⟨z30, e31⟩ : ∃ z : Int64, z29.toInt64 = z := ⟨_, rfl⟩
    have tz30 : z30.toInt = (z29).toInt := by rw [← e31]; exact Int32.toInt_toInt64 _
    refine lv_i2l (v := z30) hx hb dX9_takesPour_26 e31 ?_
    refine n_Si (na := 3) (As := [.long z18, .long 0, .long z30]) (rest := []) X hD hN h (c_M_in l G cI cB cZ cO ad w2 z18 (0 : Int64) z30 ((y10).toInt) 0 ((z29).toInt) tz18 rfl tz30) ⟨kv_468, kv_469, kv_470, kv_471⟩ ⟨by decide, by decide, by decide⟩ ⟨Nat.le_of_ble_eq_true rfl, Nat.le_of_ble_eq_true rfl⟩ ⟨Nat.zero_le _, Nat.zero_le _⟩ rfl hl.1 rfl (Nat.le_of_ble_eq_true rfl) dX9_takesPour_27 (fun r32 w33 H locs hp34 h => ?_)
    obtain ⟨rfl, hq35⟩ := hp34
    rcases hq35 with ⟨hq36, hq37, rfl⟩ | ⟨hq35, rfl⟩
    · refine lv_if_eq (tgt := 96) hx hb dX9_takesPour_30 (by decide) (fun hc => absurd hc (by decide)) (fun _ => ?_)
      refine lv_aload_n hx hb dX9_takesPour_33 rfl (lv_at hl 0 rfl) ?_
      refine r_get kc9 X h 64 15 (by decide) rfl h11 (by decide) kv_683 rfl dX9_takesPour_34 ?_
      refine lv_bipush (v := 8) hx hb dX9_takesPour_37 (by decide) ?_
      refine lv_aload_n hx hb dX9_takesPour_39 rfl (lv_at hl 0 rfl) ?_
      refine r_get kc9 X h 64 14 (by decide) rfl h11 (by decide) kv_666 rfl dX9_takesPour_40 ?_
      obtain ⟨z40, e38, t39⟩ := x_add (x := (8 : Int32)) (y := y10) (a := 8) (b := (y10).toInt) rfl rfl (by omega) (by omega)
      refine o_iadd (z := z40) hx hb dX9_takesPour_43 e38 ?_
      obtain ⟨v41, e42⟩ : ∃ z : Int32, g21 (z40).toNatClampNeg = z := ⟨_, rfl⟩
      refine o_iald (v := v41) X h 72 0 (by decide) rfl f23 rfl (in_of (by omega) (by omega)) e42 dX9_takesPour_44 ?_
      refine lv_if_eq (tgt := 96) hx hb dX9_takesPour_45 (by decide) (fun hc44 => ?_) (fun hc44 => ?_)
      · have hc44 : (v41).toInt = 0 := i_eq hc44 rfl rfl
        refine lv_iconst (v := 0) hx hb dX9_takesPour_96 (by decide) ?_
        exact e_n X h hr hlk rfl dX9_takesPour_97 ⟨ok4, kx16, ⟨_, _, _, _, h11, by omega, by omega, by omega, by omega, Or.inr rfl⟩⟩
      · have hc44 : ¬ (v41).toInt = 0 := i_ne hc44 rfl rfl
        refine lv_aload_n hx hb dX9_takesPour_48 rfl (lv_at hl 0 rfl) ?_
        refine lv_iconst (v := 0) hx hb dX9_takesPour_49 (by decide) ?_
        refine lv_iconst (v := 0) hx hb dX9_takesPour_50 (by decide) ?_
        refine lv_iconst (v := 3) hx hb dX9_takesPour_51 (by decide) ?_
        obtain ⟨g46, f45, p47⟩ := (show sA cI 3 (anyA) (w2 73) from ok4 73 (by decide))
        have f48 : w2 73 = .inl (cI, 3, .inl g46) := f45
        refine n_Vi (na := 3) (As := [.int 0, .int 0, .int 3]) (rest := []) X hD hN h rfl (c_M_takes0 l G cI cB cZ cO ad w2 x y mb bl y7 y8 y9 y10 g46 ok4 (0 : Int32) (3 : Int32) h11 (by first | omega | decide | (simp only [k00]; omega)) (by first | omega | decide | (simp only [k00]; omega)) (by first | omega | decide | (simp only [k00]; omega)) (by first | omega | decide | (simp only [k00]; omega)) (by first | omega | decide | (simp only [k00]; omega)) (by first | omega | decide | (simp only [k00]; omega)) f48) ⟨kv_684, kv_685, kv_686, kv_470, kv_687⟩ rfl ⟨by decide, by decide, by decide⟩ ⟨Nat.le_of_ble_eq_true rfl, Nat.le_of_ble_eq_true rfl⟩ ⟨Nat.zero_le _, Nat.zero_le _⟩ (by decide) h11 rfl rfl hl.1 rfl (Nat.le_of_ble_eq_true rfl) dX9_takesPour_52 (fun r49 w50 H locs hp51 h => ?_)
        obtain ⟨ok52, kk53, h54, hr55⟩ := hp51
        obtain ⟨y56, y57, y58, y59, h60, h61, h62, h63, h64⟩ := h54
        have kx65 : KN w w50 := KN.tr kx16 (F7.m kk53 h11 h60).n
        rcases hr55 with ⟨⟨v66, h67, h68, e69⟩, rfl⟩ | rfl
        · have k73 : (0 : Int32).toInt = 0 := rfl
          have k74 : (3 : Int32).toInt = 3 := rfl
          obtain ⟨g70, e71⟩ : ∃ z : Nat → Int32, upd g46 0 v66 = z := ⟨_, rfl⟩
          rw [e71] at e69
          have f72 : anyA g70 := trivial
          refine lv_if_eq (tgt := 96) hx hb dX9_takesPour_55 (by decide) (fun hc => absurd hc (by decide)) (fun _ => ?_)
          refine lv_aload_n hx hb dX9_takesPour_58 rfl (lv_at hl 0 rfl) ?_
          refine r_get kc9 X h 64 13 (by decide) rfl h60 (by decide) kv_665 rfl dX9_takesPour_59 ?_
          refine lv_iconst (v := 2) hx hb dX9_takesPour_62 (by decide) ?_
          refine lv_icmp_ne (tgt := 96) hx hb dX9_takesPour_63 (by decide) (fun hc75 => ?_) (fun hc75 => ?_)
          · have hc75 : ¬ (y58).toInt = 2 := i_ne hc75 rfl rfl
            refine lv_iconst (v := 0) hx hb dX9_takesPour_96 (by decide) ?_
            exact e_n X h hr hlk rfl dX9_takesPour_97 ⟨ok52, kx65, ⟨_, _, _, _, h60, by omega, by omega, by omega, by omega, Or.inr rfl⟩⟩
          · have hc75 : (y58).toInt = 2 := i_eq hc75 rfl rfl
            refine lv_aload_n hx hb dX9_takesPour_66 rfl (lv_at hl 0 rfl) ?_
            refine r_get kc9 X h 64 14 (by decide) rfl h60 (by decide) kv_666 rfl dX9_takesPour_67 ?_
            refine lv_aload_n hx hb dX9_takesPour_70 rfl (lv_at hl 0 rfl) ?_
            refine r_get kc9 X h 64 16 (by decide) rfl h60 (by decide) kv_678 rfl dX9_takesPour_71 ?_
            refine lv_iconst (v := 0) hx hb dX9_takesPour_74 (by decide) ?_
            have e76 : g70 0 = v66 := by rw [← e71, pk_us]
            refine o_iald (v := v66) X h 73 0 (by decide) rfl e69 rfl (by unfold vp_in; decide) e76 dX9_takesPour_75 ?_
            refine lv_icmp_eq (tgt := 96) hx hb dX9_takesPour_76 (by decide) (fun hc77 => ?_) (fun hc77 => ?_)
            · have hc77 : (y59).toInt = (v66).toInt := i_eq hc77 rfl rfl
              refine lv_iconst (v := 0) hx hb dX9_takesPour_96 (by decide) ?_
              exact e_n X h hr hlk rfl dX9_takesPour_97 ⟨ok52, kx65, ⟨_, _, _, _, h60, by omega, by omega, by omega, by omega, Or.inr rfl⟩⟩
            · have hc77 : ¬ (y59).toInt = (v66).toInt := i_ne hc77 rfl rfl
              refine lv_aload_n hx hb dX9_takesPour_79 rfl (lv_at hl 0 rfl) ?_
              refine lv_iconst (v := 1) hx hb dX9_takesPour_80 (by decide) ?_
              refine lv_iconst (v := 0) hx hb dX9_takesPour_81 (by decide) ?_
              refine lv_aload_n hx hb dX9_takesPour_82 rfl (lv_at hl 0 rfl) ?_
              refine r_get kc9 X h 64 15 (by decide) rfl h60 (by decide) kv_683 rfl dX9_takesPour_83 ?_
              refine lv_iconst (v := 1) hx hb dX9_takesPour_86 (by decide) ?_
              have f78 : w50 72 = .inl (cI, 89, .inl g21) := (kk53 72 (by decide) (by decide)).trans f23
              refine o_iald (v := v24) X h 72 0 (by decide) rfl f78 rfl (by unfold vp_in; decide) e25 dX9_takesPour_87 ?_
              refine lv_iconst (v := 1) hx hb dX9_takesPour_88 (by decide) ?_
              obtain ⟨z81, e79, t80⟩ := x_sub (x := v24) (y := (1 : Int32)) (a := (v24).toInt) (b := 1) rfl rfl (by omega) (by omega)
              refine o_isub (z := z81) hx hb dX9_takesPour_89 e79 ?_
              refine n_Vi (na := 3) (As := [.int 1, .int 0, .int z81]) (rest := []) X hD hN h rfl (c_M_takes1 l G cI cB cZ cO ad w50 x y mb bl y56 y57 y58 y59 g70 ok52 (0 : Int32) z81 h60 (by first | omega | decide | (simp only [k00]; omega)) (by first | omega | decide | (simp only [k00]; omega)) (by first | omega | decide | (simp only [k00]; omega)) (by first | omega | decide | (simp only [k00]; omega)) (by first | omega | decide | (simp only [k00]; omega)) (by first | omega | decide | (simp only [k00]; omega)) e69) ⟨kv_684, kv_685, kv_686, kv_470, kv_687⟩ rfl ⟨by decide, by decide, by decide⟩ ⟨Nat.le_of_ble_eq_true rfl, Nat.le_of_ble_eq_true rfl⟩ ⟨Nat.zero_le _, Nat.zero_le _⟩ (by decide) h60 rfl rfl hl.1 rfl (Nat.le_of_ble_eq_true rfl) dX9_takesPour_90 (fun r82 w83 H locs hp84 h => ?_)
              obtain ⟨ok85, kk86, h87, hr88⟩ := hp84
              obtain ⟨y89, y90, y91, y92, h93, h94, h95, h96, h97⟩ := h87
              have kx98 : KN w w83 := KN.tr kx65 (F7.m kk86 h60 h93).n
              rcases hr88 with ⟨⟨v99, h100, h101, e102⟩, rfl⟩ | rfl
              · have k106 : (0 : Int32).toInt = 0 := rfl
                obtain ⟨g103, e104⟩ : ∃ z : Nat → Int32, upd g70 1 v99 = z := ⟨_, rfl⟩
                rw [e104] at e102
                have f105 : anyA g103 := trivial
                refine lv_if_ne (tgt := 98) hx hb dX9_takesPour_93 (by decide) (fun _ => ?_) (fun hc => absurd hc (by decide))
                refine lv_aload_n hx hb dX9_takesPour_98 rfl (lv_at hl 0 rfl) ?_
                refine r_get kc9 X h 64 15 (by decide) rfl h93 (by decide) kv_683 rfl dX9_takesPour_99 ?_
                refine lv_aload_n hx hb dX9_takesPour_102 rfl (lv_at hl 0 rfl) ?_
                refine r_get kc9 X h 64 16 (by decide) rfl h93 (by decide) kv_678 rfl dX9_takesPour_103 ?_
                refine lv_iconst (v := 0) hx hb dX9_takesPour_106 (by decide) ?_
                have e107 : g103 0 = v66 := by rw [← e104, pk_un (by decide)]; exact e76
                refine o_iald (v := v66) X h 73 0 (by decide) rfl e102 rfl (by unfold vp_in; decide) e107 dX9_takesPour_107 ?_
                refine lv_aload_n hx hb dX9_takesPour_108 rfl (lv_at hl 0 rfl) ?_
                refine r_get kc9 X h 64 16 (by decide) rfl h93 (by decide) kv_678 rfl dX9_takesPour_109 ?_
                refine lv_iconst (v := 1) hx hb dX9_takesPour_112 (by decide) ?_
                have e108 : g103 1 = v99 := by rw [← e104, pk_us]
                refine o_iald (v := v99) X h 73 0 (by decide) rfl e102 rfl (by unfold vp_in; decide) e108 dX9_takesPour_113 ?_
                refine n_Si (na := 3) (As := [.ref (ad 72), .int v66, .int v99]) (rest := []) X hD hN h (c_M_goPour l G cI cB cZ cO ad w83 72 (Or.inr (Or.inr rfl)) ok85 v66 v99 (by omega) (by omega) (by omega) (by omega) ) ⟨kv_557, kv_558, kv_470, kv_559⟩ ⟨by decide, by decide, by decide⟩ ⟨Nat.le_of_ble_eq_true rfl, Nat.le_of_ble_eq_true rfl⟩ ⟨Nat.zero_le _, Nat.zero_le _⟩ rfl hl.1 rfl (Nat.le_of_ble_eq_true rfl) dX9_takesPour_114 (fun r109 w110 H locs hp111 h => ?_)
                obtain ⟨ok113, kk114, hr112⟩ := hp111
                have kx115 : KN w w110 := KN.tr kx98 kk114.1.n
                refine lv_istore_n (lv' := [(1, .int r109), (0, .ref (ad 64))]) hx hb dX9_takesPour_117 rfl hl (by decide) rfl (fun ls hl => ?_)
                refine lv_iconst (v := 1) hx hb dX9_takesPour_118 (by decide) ?_
                have f116 : w110 64 = .inr (7, [.ref (ad 65), .ref (ad 66), .ref (ad 67), .ref (ad 68), .long x, .long y, .ref (ad 69), .int mb, .ref (ad 70), .ref (ad 71), .int bl, .int y89, .int y90, .int y91, .int y92, .ref (ad 72), .ref (ad 73)]) := (kk114.2 64 (by decide)).trans h93
                exact e_n X h hr hlk rfl dX9_takesPour_119 ⟨ok113, kx115, ⟨_, _, _, _, f116, by omega, by omega, by omega, by omega, Or.inl ⟨by omega, rfl⟩⟩⟩
              · refine lv_if_ne (tgt := 98) hx hb dX9_takesPour_93 (by decide) (fun hc => absurd (by decide) hc) (fun _ => ?_)
                refine lv_iconst (v := 0) hx hb dX9_takesPour_96 (by decide) ?_
                exact e_n X h hr hlk rfl dX9_takesPour_97 ⟨ok85, kx98, ⟨_, _, _, _, h93, by omega, by omega, by omega, by omega, Or.inr rfl⟩⟩
        · refine lv_if_eq (tgt := 96) hx hb dX9_takesPour_55 (by decide) (fun _ => ?_) (fun hc => absurd (by decide) hc)
          refine lv_iconst (v := 0) hx hb dX9_takesPour_96 (by decide) ?_
          exact e_n X h hr hlk rfl dX9_takesPour_97 ⟨ok52, kx65, ⟨_, _, _, _, h60, by omega, by omega, by omega, by omega, Or.inr rfl⟩⟩
    · refine lv_if_eq (tgt := 96) hx hb dX9_takesPour_30 (by decide) (fun _ => ?_) (fun hc => absurd (by decide) hc)
      refine lv_iconst (v := 0) hx hb dX9_takesPour_96 (by decide) ?_
      exact e_n X h hr hlk rfl dX9_takesPour_97 ⟨ok4, kx16, ⟨_, _, _, _, h11, by omega, by omega, by omega, by omega, Or.inr rfl⟩⟩

set_option maxHeartbeats 4000000 in
set_option maxRecDepth 100000 in
theorem c_M_takesHours (l : Launch) (G : va_G) (cI cB cZ cO : ClassId) (ad : Nat → Nat) (w : Nat → va_E) (x y : Int64) (mb bl ta tl tk va : Int32) (ok : OK cI cB cZ cO ad w)   (pf : w 64 = .inr (7, [.ref (ad 65), .ref (ad 66), .ref (ad 67), .ref (ad 68), .long x, .long y, .ref (ad 69), .int mb, .ref (ad 70), .ref (ad 71), .int bl, .int ta, .int tl, .int tk, .int va, .ref (ad 72), .ref (ad 73)])) (hbl0 : 0 ≤ bl.toInt) (hbl1 : bl.toInt ≤ 150) (hta : 0 ≤ ta.toInt) (htl : 0 ≤ tl.toInt) (htb : ta.toInt + tl.toInt ≤ bl.toInt) (htk : tk.toInt = 0 ∨ 1 ≤ tl.toInt) : NI l G (tyq cI cB cZ cO) yX9_takesHours cX9_takesHours 1 (some .boolean) 5 112 74 ad w [.ref (ad 64)] (fun r w1 => OK cI cB cZ cO ad w1 ∧ KN w w1 ∧ ∃ ta1 tl1 tk1 va1 : Int32, w1 64 = .inr (7, [.ref (ad 65), .ref (ad 66), .ref (ad 67), .ref (ad 68), .long x, .long y, .ref (ad 69), .int mb, .ref (ad 70), .ref (ad 71), .int bl, .int ta1, .int tl1, .int tk1, .int va1, .ref (ad 72), .ref (ad 73)]) ∧ 0 ≤ ta1.toInt ∧ 0 ≤ tl1.toInt ∧ ta1.toInt + tl1.toInt ≤ bl.toInt ∧ (tk1.toInt = 0 ∨ 1 ≤ tl1.toInt) ∧ ((ta.toInt + tl.toInt ≤ ta1.toInt ∧ r = 1) ∨ r = 0)) := by
  refine nk_i (own := "NoonShadeModel") rfl (by decide) (Nat.le_of_ble_eq_true rfl) ?_
  intro p e s m below meth c ls X hD hN hr hlk h hl
  have hx := X.1.1
  have hb := X.1.2.1
  have hown := X.1.2.2.2.1
  have hts := X.1.2.2.2.2
  have hl : lv_has ls 1 [(0, .ref (ad 64))] := hl
  have kq0 : (0 : Int32).toInt = 0 := rfl
  have kq1 : (1 : Int32).toInt = 1 := rfl
  have kq2 : (2 : Int32).toInt = 2 := rfl
  have kq3 : (3 : Int32).toInt = 3 := rfl
  have kq4 : (4 : Int32).toInt = 4 := rfl
  refine lv_aload_n hx hb dX9_takesHours_0 rfl (lv_at hl 0 rfl) ?_
  refine n_Vv (na := 0) (As := []) (rest := []) X hD hN h rfl (c_M_goBehind l G cI cB cZ cO ad w x y mb bl ta tl tk va ok   pf (by first | omega | decide | (simp only [k00]; omega)) (by first | omega | decide | (simp only [k00]; omega)) (by first | omega | decide | (simp only [k00]; omega)) (by first | omega | decide | (simp only [k00]; omega)) (by first | omega | decide | (simp only [k00]; omega))) ⟨kv_679, kv_680, kv_681, kv_470, kv_682⟩ rfl ⟨by decide, by decide, by decide⟩ ⟨Nat.le_of_ble_eq_true rfl, Nat.le_of_ble_eq_true rfl⟩ ⟨Nat.zero_le _, Nat.zero_le _⟩ (by decide) pf rfl rfl hl.1 rfl (Nat.le_of_ble_eq_true rfl) dX9_takesHours_1 (fun w2 H locs hp3 h => ?_)
  obtain ⟨ok4, kk5, hr6⟩ := hp3
  obtain ⟨y7, y8, y9, y10, h11, h12, h13, h14, h15⟩ := hr6
  have kx16 : KN w w2 := KN.tr KN.rf (F7.m kk5.f7 pf h11).n
  refine lv_aload_n hx hb dX9_takesHours_4 rfl (lv_at hl 0 rfl) ?_
  refine lv_iconst (v := 0) hx hb dX9_takesHours_5 (by decide) ?_
  refine lv_iconst (v := 1) hx hb dX9_takesHours_6 (by decide) ?_
  refine lv_bipush (v := 99) hx hb dX9_takesHours_7 (by decide) ?_
  obtain ⟨g18, f17, p19⟩ := (show sA cI 3 (anyA) (w2 73) from ok4 73 (by decide))
  have f20 : w2 73 = .inl (cI, 3, .inl g18) := f17
  refine n_Vi (na := 3) (As := [.int 0, .int 1, .int 99]) (rest := []) X hD hN h rfl (c_M_takes0 l G cI cB cZ cO ad w2 x y mb bl y7 y8 y9 y10 g18 ok4 (1 : Int32) (99 : Int32) h11 (by first | omega | decide | (simp only [k00]; omega)) (by first | omega | decide | (simp only [k00]; omega)) (by first | omega | decide | (simp only [k00]; omega)) (by first | omega | decide | (simp only [k00]; omega)) (by first | omega | decide | (simp only [k00]; omega)) (by first | omega | decide | (simp only [k00]; omega)) f20) ⟨kv_684, kv_685, kv_686, kv_470, kv_687⟩ rfl ⟨by decide, by decide, by decide⟩ ⟨Nat.le_of_ble_eq_true rfl, Nat.le_of_ble_eq_true rfl⟩ ⟨Nat.zero_le _, Nat.zero_le _⟩ (by decide) h11 rfl rfl hl.1 rfl (Nat.le_of_ble_eq_true rfl) dX9_takesHours_9 (fun r21 w22 H locs hp23 h => ?_)
  obtain ⟨ok24, kk25, h26, hr27⟩ := hp23
  obtain ⟨y28, y29, y30, y31, h32, h33, h34, h35, h36⟩ := h26
  have kx37 : KN w w22 := KN.tr kx16 (F7.m kk25 h11 h32).n
  rcases hr27 with ⟨⟨v38, h39, h40, e41⟩, rfl⟩ | rfl
  · have k45 : (1 : Int32).toInt = 1 := rfl
    have k46 : (99 : Int32).toInt = 99 := rfl
    obtain ⟨g42, e43⟩ : ∃ z : Nat → Int32, upd g18 0 v38 = z := ⟨_, rfl⟩
    rw [e43] at e41
    have f44 : anyA g42 := trivial
    refine lv_if_ne (tgt := 17) hx hb dX9_takesHours_12 (by decide) (fun _ => ?_) (fun hc => absurd hc (by decide))
    refine lv_aload_n hx hb dX9_takesHours_17 rfl (lv_at hl 0 rfl) ?_
    refine r_get kc9 X h 64 15 (by decide) rfl h32 (by decide) kv_683 rfl dX9_takesHours_18 ?_
    refine lv_aload_n hx hb dX9_takesHours_21 rfl (lv_at hl 0 rfl) ?_
    refine r_get kc9 X h 64 16 (by decide) rfl h32 (by decide) kv_678 rfl dX9_takesHours_22 ?_
    refine lv_iconst (v := 0) hx hb dX9_takesHours_25 (by decide) ?_
    have e47 : g42 0 = v38 := by rw [← e43, pk_us]
    refine o_iald (v := v38) X h 73 0 (by decide) rfl e41 rfl (by unfold vp_in; decide) e47 dX9_takesHours_26 ?_
    refine n_Sv (na := 2) (As := [.ref (ad 72), .int v38]) (rest := []) X hD hN h (c_M_goHours l G cI cB cZ cO ad w22 72 (Or.inr (Or.inr rfl)) ok24 v38  ) ⟨kv_560, kv_561, kv_470, kv_562⟩ ⟨by decide, by decide, by decide⟩ ⟨Nat.le_of_ble_eq_true rfl, Nat.le_of_ble_eq_true rfl⟩ ⟨Nat.zero_le _, Nat.zero_le _⟩ rfl hl.1 rfl (Nat.le_of_ble_eq_true rfl) dX9_takesHours_27 (fun w49 H locs hp50 h => ?_)
    obtain ⟨ok52, kk53, hr51⟩ := hp50
    have kx54 : KN w w49 := KN.tr kx37 kk53.1.n
    refine lv_iconst (v := 1) hx hb dX9_takesHours_30 (by decide) ?_
    have f55 : w49 64 = .inr (7, [.ref (ad 65), .ref (ad 66), .ref (ad 67), .ref (ad 68), .long x, .long y, .ref (ad 69), .int mb, .ref (ad 70), .ref (ad 71), .int bl, .int y28, .int y29, .int y30, .int y31, .ref (ad 72), .ref (ad 73)]) := (kk53.2 64 (by decide)).trans h32
    exact e_n X h hr hlk rfl dX9_takesHours_31 ⟨ok52, kx54, ⟨_, _, _, _, f55, by omega, by omega, by omega, by omega, Or.inl ⟨by omega, rfl⟩⟩⟩
  · refine lv_if_ne (tgt := 17) hx hb dX9_takesHours_12 (by decide) (fun hc => absurd (by decide) hc) (fun _ => ?_)
    refine lv_iconst (v := 0) hx hb dX9_takesHours_15 (by decide) ?_
    exact e_n X h hr hlk rfl dX9_takesHours_16 ⟨ok24, kx37, ⟨_, _, _, _, h32, by omega, by omega, by omega, by omega, Or.inr rfl⟩⟩

set_option maxHeartbeats 4000000 in
set_option maxRecDepth 100000 in
theorem c_M_takesItem (l : Launch) (G : va_G) (cI cB cZ cO : ClassId) (ad : Nat → Nat) (w : Nat → va_E) (x y : Int64) (mb bl ta tl tk va : Int32) (ok : OK cI cB cZ cO ad w)   (pf : w 64 = .inr (7, [.ref (ad 65), .ref (ad 66), .ref (ad 67), .ref (ad 68), .long x, .long y, .ref (ad 69), .int mb, .ref (ad 70), .ref (ad 71), .int bl, .int ta, .int tl, .int tk, .int va, .ref (ad 72), .ref (ad 73)])) (hbl0 : 0 ≤ bl.toInt) (hbl1 : bl.toInt ≤ 150) (hta : 0 ≤ ta.toInt) (htl : 0 ≤ tl.toInt) (htb : ta.toInt + tl.toInt ≤ bl.toInt) (htk : tk.toInt = 0 ∨ 1 ≤ tl.toInt) : NI l G (tyq cI cB cZ cO) yX9_takesItem cX9_takesItem 1 (some .boolean) 6 133 74 ad w [.ref (ad 64)] (fun r w1 => OK cI cB cZ cO ad w1 ∧ KN w w1 ∧ ∃ ta1 tl1 tk1 va1 : Int32, w1 64 = .inr (7, [.ref (ad 65), .ref (ad 66), .ref (ad 67), .ref (ad 68), .long x, .long y, .ref (ad 69), .int mb, .ref (ad 70), .ref (ad 71), .int bl, .int ta1, .int tl1, .int tk1, .int va1, .ref (ad 72), .ref (ad 73)]) ∧ 0 ≤ ta1.toInt ∧ 0 ≤ tl1.toInt ∧ ta1.toInt + tl1.toInt ≤ bl.toInt ∧ (tk1.toInt = 0 ∨ 1 ≤ tl1.toInt) ∧ ((ta.toInt + tl.toInt ≤ ta1.toInt ∧ r = 1) ∨ r = 0)) := by
  refine nk_i (own := "NoonShadeModel") rfl (by decide) (Nat.le_of_ble_eq_true rfl) ?_
  intro p e s m below meth c ls X hD hN hr hlk h hl
  have hx := X.1.1
  have hb := X.1.2.1
  have hown := X.1.2.2.2.1
  have hts := X.1.2.2.2.2
  have hl : lv_has ls 1 [(0, .ref (ad 64))] := hl
  have kq0 : (0 : Int32).toInt = 0 := rfl
  have kq1 : (1 : Int32).toInt = 1 := rfl
  have kq2 : (2 : Int32).toInt = 2 := rfl
  have kq3 : (3 : Int32).toInt = 3 := rfl
  have kq4 : (4 : Int32).toInt = 4 := rfl
  refine lv_aload_n hx hb dX9_takesItem_0 rfl (lv_at hl 0 rfl) ?_
  refine lv_bipush (v := 6) hx hb dX9_takesItem_1 (by decide) ?_
  refine lv_bipush (v := 99) hx hb dX9_takesItem_3 (by decide) ?_
  refine lv_bipush (v := 97) hx hb dX9_takesItem_5 (by decide) ?_
  refine lv_bipush (v := 115) hx hb dX9_takesItem_7 (by decide) ?_
  refine lv_bipush (v := 116) hx hb dX9_takesItem_9 (by decide) ?_
  refine lv_bipush (v := 101) hx hb dX9_takesItem_11 (by decide) ?_
  refine lv_bipush (v := 114) hx hb dX9_takesItem_13 (by decide) ?_
  refine n_Vi (na := 7) (As := [.int 6, .int 99, .int 97, .int 115, .int 116, .int 101, .int 114]) (rest := []) X hD hN h rfl (c_M_spells l G cI cB cZ cO ad w x y mb bl ta tl tk va ok (6 : Int32) (99 : Int32) (97 : Int32) (115 : Int32) (116 : Int32) (101 : Int32) (114 : Int32) (by decide) (by decide) pf (by first | omega | decide | (simp only [k00]; omega)) (by first | omega | decide | (simp only [k00]; omega)) (by first | omega | decide | (simp only [k00]; omega)) (by first | omega | decide | (simp only [k00]; omega)) (by first | omega | decide | (simp only [k00]; omega))) ⟨kv_688, kv_689, kv_690, kv_470, kv_691⟩ rfl ⟨by decide, by decide, by decide⟩ ⟨Nat.le_of_ble_eq_true rfl, Nat.le_of_ble_eq_true rfl⟩ ⟨Nat.zero_le _, Nat.zero_le _⟩ (by decide) pf rfl rfl hl.1 rfl (Nat.le_of_ble_eq_true rfl) dX9_takesItem_15 (fun r1 w2 H locs hp3 h => ?_)
  obtain ⟨rfl, hr4⟩ := hp3
  rcases hr4 with ⟨hq5, hq6, rfl⟩ | rfl
  · have hq6 : tl.toInt = 6 := hq6
    refine lv_if_eq (tgt := 26) hx hb dX9_takesItem_18 (by decide) (fun hc => absurd hc (by decide)) (fun _ => ?_)
    refine lv_aload_n hx hb dX9_takesItem_21 rfl (lv_at hl 0 rfl) ?_
    refine n_Vi (na := 0) (As := []) (rest := []) X hD hN h rfl (c_M_takesCaster l G cI cB cZ cO ad w x y mb bl ta tl tk va ok pf (by first | omega | decide | (simp only [k00]; omega)) (by first | omega | decide | (simp only [k00]; omega)) (by first | omega | decide | (simp only [k00]; omega)) (by first | omega | decide | (simp only [k00]; omega)) (by first | omega | decide | (simp only [k00]; omega)) (by first | omega | decide | (simp only [k00]; omega))) ⟨kv_692, kv_693, kv_694, kv_470, kv_695⟩ rfl ⟨by decide, by decide, by decide⟩ ⟨Nat.le_of_ble_eq_true rfl, Nat.le_of_ble_eq_true rfl⟩ ⟨Nat.zero_le _, Nat.zero_le _⟩ (by decide) pf rfl rfl hl.1 rfl (Nat.le_of_ble_eq_true rfl) dX9_takesItem_22 (fun r7 w8 H locs hp9 h => ?_)
    obtain ⟨ok10, kk11, hr12⟩ := hp9
    have kx13 : KN w w8 := kk11
    obtain ⟨y14, y15, y16, y17, h18, h19, h20, h21, h22, hq23⟩ := hr12
    rcases hq23 with ⟨hq24, rfl⟩ | rfl
    · exact e_n X h hr hlk rfl dX9_takesItem_25 ⟨ok10, kx13, ⟨_, _, _, _, h18, by omega, by omega, by omega, by omega, Or.inl ⟨by omega, rfl⟩⟩⟩
    · exact e_n X h hr hlk rfl dX9_takesItem_25 ⟨ok10, kx13, ⟨_, _, _, _, h18, by omega, by omega, by omega, by omega, Or.inr rfl⟩⟩
  · refine lv_if_eq (tgt := 26) hx hb dX9_takesItem_18 (by decide) (fun _ => ?_) (fun hc => absurd (by decide) hc)
    refine lv_aload_n hx hb dX9_takesItem_26 rfl (lv_at hl 0 rfl) ?_
    refine lv_iconst (v := 3) hx hb dX9_takesItem_27 (by decide) ?_
    refine lv_bipush (v := 106) hx hb dX9_takesItem_28 (by decide) ?_
    refine lv_bipush (v := 97) hx hb dX9_takesItem_30 (by decide) ?_
    refine lv_bipush (v := 114) hx hb dX9_takesItem_32 (by decide) ?_
    refine lv_iconst (v := 0) hx hb dX9_takesItem_34 (by decide) ?_
    refine lv_iconst (v := 0) hx hb dX9_takesItem_35 (by decide) ?_
    refine lv_iconst (v := 0) hx hb dX9_takesItem_36 (by decide) ?_
    refine n_Vi (na := 7) (As := [.int 3, .int 106, .int 97, .int 114, .int 0, .int 0, .int 0]) (rest := []) X hD hN h rfl (c_M_spells l G cI cB cZ cO ad w x y mb bl ta tl tk va ok (3 : Int32) (106 : Int32) (97 : Int32) (114 : Int32) (0 : Int32) (0 : Int32) (0 : Int32) (by decide) (by decide) pf (by first | omega | decide | (simp only [k00]; omega)) (by first | omega | decide | (simp only [k00]; omega)) (by first | omega | decide | (simp only [k00]; omega)) (by first | omega | decide | (simp only [k00]; omega)) (by first | omega | decide | (simp only [k00]; omega))) ⟨kv_688, kv_689, kv_690, kv_470, kv_691⟩ rfl ⟨by decide, by decide, by decide⟩ ⟨Nat.le_of_ble_eq_true rfl, Nat.le_of_ble_eq_true rfl⟩ ⟨Nat.zero_le _, Nat.zero_le _⟩ (by decide) pf rfl rfl hl.1 rfl (Nat.le_of_ble_eq_true rfl) dX9_takesItem_37 (fun r25 w26 H locs hp27 h => ?_)
    obtain ⟨rfl, hr28⟩ := hp27
    rcases hr28 with ⟨hq29, hq30, rfl⟩ | rfl
    · have hq30 : tl.toInt = 3 := hq30
      refine lv_if_eq (tgt := 48) hx hb dX9_takesItem_40 (by decide) (fun hc => absurd hc (by decide)) (fun _ => ?_)
      refine lv_aload_n hx hb dX9_takesItem_43 rfl (lv_at hl 0 rfl) ?_
      refine n_Vi (na := 0) (As := []) (rest := []) X hD hN h rfl (c_M_takesJar l G cI cB cZ cO ad w x y mb bl ta tl tk va ok pf (by first | omega | decide | (simp only [k00]; omega)) (by first | omega | decide | (simp only [k00]; omega)) (by first | omega | decide | (simp only [k00]; omega)) (by first | omega | decide | (simp only [k00]; omega)) (by first | omega | decide | (simp only [k00]; omega)) (by first | omega | decide | (simp only [k00]; omega))) ⟨kv_696, kv_697, kv_698, kv_470, kv_699⟩ rfl ⟨by decide, by decide, by decide⟩ ⟨Nat.le_of_ble_eq_true rfl, Nat.le_of_ble_eq_true rfl⟩ ⟨Nat.zero_le _, Nat.zero_le _⟩ (by decide) pf rfl rfl hl.1 rfl (Nat.le_of_ble_eq_true rfl) dX9_takesItem_44 (fun r31 w32 H locs hp33 h => ?_)
      obtain ⟨ok34, kk35, hr36⟩ := hp33
      have kx37 : KN w w32 := kk35
      obtain ⟨y38, y39, y40, y41, h42, h43, h44, h45, h46, hq47⟩ := hr36
      rcases hq47 with ⟨hq48, rfl⟩ | rfl
      · exact e_n X h hr hlk rfl dX9_takesItem_47 ⟨ok34, kx37, ⟨_, _, _, _, h42, by omega, by omega, by omega, by omega, Or.inl ⟨by omega, rfl⟩⟩⟩
      · exact e_n X h hr hlk rfl dX9_takesItem_47 ⟨ok34, kx37, ⟨_, _, _, _, h42, by omega, by omega, by omega, by omega, Or.inr rfl⟩⟩
    · refine lv_if_eq (tgt := 48) hx hb dX9_takesItem_40 (by decide) (fun _ => ?_) (fun hc => absurd (by decide) hc)
      refine lv_aload_n hx hb dX9_takesItem_48 rfl (lv_at hl 0 rfl) ?_
      refine lv_iconst (v := 5) hx hb dX9_takesItem_49 (by decide) ?_
      refine lv_bipush (v := 108) hx hb dX9_takesItem_50 (by decide) ?_
      refine lv_bipush (v := 97) hx hb dX9_takesItem_52 (by decide) ?_
      refine lv_bipush (v := 100) hx hb dX9_takesItem_54 (by decide) ?_
      refine lv_bipush (v := 108) hx hb dX9_takesItem_56 (by decide) ?_
      refine lv_bipush (v := 101) hx hb dX9_takesItem_58 (by decide) ?_
      refine lv_iconst (v := 0) hx hb dX9_takesItem_60 (by decide) ?_
      refine n_Vi (na := 7) (As := [.int 5, .int 108, .int 97, .int 100, .int 108, .int 101, .int 0]) (rest := []) X hD hN h rfl (c_M_spells l G cI cB cZ cO ad w x y mb bl ta tl tk va ok (5 : Int32) (108 : Int32) (97 : Int32) (100 : Int32) (108 : Int32) (101 : Int32) (0 : Int32) (by decide) (by decide) pf (by first | omega | decide | (simp only [k00]; omega)) (by first | omega | decide | (simp only [k00]; omega)) (by first | omega | decide | (simp only [k00]; omega)) (by first | omega | decide | (simp only [k00]; omega)) (by first | omega | decide | (simp only [k00]; omega))) ⟨kv_688, kv_689, kv_690, kv_470, kv_691⟩ rfl ⟨by decide, by decide, by decide⟩ ⟨Nat.le_of_ble_eq_true rfl, Nat.le_of_ble_eq_true rfl⟩ ⟨Nat.zero_le _, Nat.zero_le _⟩ (by decide) pf rfl rfl hl.1 rfl (Nat.le_of_ble_eq_true rfl) dX9_takesItem_61 (fun r49 w50 H locs hp51 h => ?_)
      obtain ⟨rfl, hr52⟩ := hp51
      rcases hr52 with ⟨hq53, hq54, rfl⟩ | rfl
      · have hq54 : tl.toInt = 5 := hq54
        refine lv_if_eq (tgt := 72) hx hb dX9_takesItem_64 (by decide) (fun hc => absurd hc (by decide)) (fun _ => ?_)
        refine lv_aload_n hx hb dX9_takesItem_67 rfl (lv_at hl 0 rfl) ?_
        refine n_Vi (na := 0) (As := []) (rest := []) X hD hN h rfl (c_M_takesLadle l G cI cB cZ cO ad w x y mb bl ta tl tk va ok pf (by first | omega | decide | (simp only [k00]; omega)) (by first | omega | decide | (simp only [k00]; omega)) (by first | omega | decide | (simp only [k00]; omega)) (by first | omega | decide | (simp only [k00]; omega)) (by first | omega | decide | (simp only [k00]; omega)) (by first | omega | decide | (simp only [k00]; omega))) ⟨kv_700, kv_701, kv_702, kv_470, kv_703⟩ rfl ⟨by decide, by decide, by decide⟩ ⟨Nat.le_of_ble_eq_true rfl, Nat.le_of_ble_eq_true rfl⟩ ⟨Nat.zero_le _, Nat.zero_le _⟩ (by decide) pf rfl rfl hl.1 rfl (Nat.le_of_ble_eq_true rfl) dX9_takesItem_68 (fun r55 w56 H locs hp57 h => ?_)
        obtain ⟨ok58, kk59, hr60⟩ := hp57
        have kx61 : KN w w56 := kk59
        obtain ⟨y62, y63, y64, y65, h66, h67, h68, h69, h70, hq71⟩ := hr60
        rcases hq71 with ⟨hq72, rfl⟩ | rfl
        · exact e_n X h hr hlk rfl dX9_takesItem_71 ⟨ok58, kx61, ⟨_, _, _, _, h66, by omega, by omega, by omega, by omega, Or.inl ⟨by omega, rfl⟩⟩⟩
        · exact e_n X h hr hlk rfl dX9_takesItem_71 ⟨ok58, kx61, ⟨_, _, _, _, h66, by omega, by omega, by omega, by omega, Or.inr rfl⟩⟩
      · refine lv_if_eq (tgt := 72) hx hb dX9_takesItem_64 (by decide) (fun _ => ?_) (fun hc => absurd (by decide) hc)
        refine lv_aload_n hx hb dX9_takesItem_72 rfl (lv_at hl 0 rfl) ?_
        refine lv_iconst (v := 4) hx hb dX9_takesItem_73 (by decide) ?_
        refine lv_bipush (v := 112) hx hb dX9_takesItem_74 (by decide) ?_
        refine lv_bipush (v := 111) hx hb dX9_takesItem_76 (by decide) ?_
        refine lv_bipush (v := 117) hx hb dX9_takesItem_78 (by decide) ?_
        refine lv_bipush (v := 114) hx hb dX9_takesItem_80 (by decide) ?_
        refine lv_iconst (v := 0) hx hb dX9_takesItem_82 (by decide) ?_
        refine lv_iconst (v := 0) hx hb dX9_takesItem_83 (by decide) ?_
        refine n_Vi (na := 7) (As := [.int 4, .int 112, .int 111, .int 117, .int 114, .int 0, .int 0]) (rest := []) X hD hN h rfl (c_M_spells l G cI cB cZ cO ad w x y mb bl ta tl tk va ok (4 : Int32) (112 : Int32) (111 : Int32) (117 : Int32) (114 : Int32) (0 : Int32) (0 : Int32) (by decide) (by decide) pf (by first | omega | decide | (simp only [k00]; omega)) (by first | omega | decide | (simp only [k00]; omega)) (by first | omega | decide | (simp only [k00]; omega)) (by first | omega | decide | (simp only [k00]; omega)) (by first | omega | decide | (simp only [k00]; omega))) ⟨kv_688, kv_689, kv_690, kv_470, kv_691⟩ rfl ⟨by decide, by decide, by decide⟩ ⟨Nat.le_of_ble_eq_true rfl, Nat.le_of_ble_eq_true rfl⟩ ⟨Nat.zero_le _, Nat.zero_le _⟩ (by decide) pf rfl rfl hl.1 rfl (Nat.le_of_ble_eq_true rfl) dX9_takesItem_84 (fun r73 w74 H locs hp75 h => ?_)
        obtain ⟨rfl, hr76⟩ := hp75
        rcases hr76 with ⟨hq77, hq78, rfl⟩ | rfl
        · have hq78 : tl.toInt = 4 := hq78
          refine lv_if_eq (tgt := 95) hx hb dX9_takesItem_87 (by decide) (fun hc => absurd hc (by decide)) (fun _ => ?_)
          refine lv_aload_n hx hb dX9_takesItem_90 rfl (lv_at hl 0 rfl) ?_
          refine n_Vi (na := 0) (As := []) (rest := []) X hD hN h rfl (c_M_takesPour l G cI cB cZ cO ad w x y mb bl ta tl tk va ok pf (by first | omega | decide | (simp only [k00]; omega)) (by first | omega | decide | (simp only [k00]; omega)) (by first | omega | decide | (simp only [k00]; omega)) (by first | omega | decide | (simp only [k00]; omega)) (by first | omega | decide | (simp only [k00]; omega)) (by first | omega | decide | (simp only [k00]; omega))) ⟨kv_704, kv_705, kv_706, kv_470, kv_707⟩ rfl ⟨by decide, by decide, by decide⟩ ⟨Nat.le_of_ble_eq_true rfl, Nat.le_of_ble_eq_true rfl⟩ ⟨Nat.zero_le _, Nat.zero_le _⟩ (by decide) pf rfl rfl hl.1 rfl (Nat.le_of_ble_eq_true rfl) dX9_takesItem_91 (fun r79 w80 H locs hp81 h => ?_)
          obtain ⟨ok82, kk83, hr84⟩ := hp81
          have kx85 : KN w w80 := kk83
          obtain ⟨y86, y87, y88, y89, h90, h91, h92, h93, h94, hq95⟩ := hr84
          rcases hq95 with ⟨hq96, rfl⟩ | rfl
          · exact e_n X h hr hlk rfl dX9_takesItem_94 ⟨ok82, kx85, ⟨_, _, _, _, h90, by omega, by omega, by omega, by omega, Or.inl ⟨by omega, rfl⟩⟩⟩
          · exact e_n X h hr hlk rfl dX9_takesItem_94 ⟨ok82, kx85, ⟨_, _, _, _, h90, by omega, by omega, by omega, by omega, Or.inr rfl⟩⟩
        · refine lv_if_eq (tgt := 95) hx hb dX9_takesItem_87 (by decide) (fun _ => ?_) (fun hc => absurd (by decide) hc)
          refine lv_aload_n hx hb dX9_takesItem_95 rfl (lv_at hl 0 rfl) ?_
          refine lv_iconst (v := 5) hx hb dX9_takesItem_96 (by decide) ?_
          refine lv_bipush (v := 104) hx hb dX9_takesItem_97 (by decide) ?_
          refine lv_bipush (v := 111) hx hb dX9_takesItem_99 (by decide) ?_
          refine lv_bipush (v := 117) hx hb dX9_takesItem_101 (by decide) ?_
          refine lv_bipush (v := 114) hx hb dX9_takesItem_103 (by decide) ?_
          refine lv_bipush (v := 115) hx hb dX9_takesItem_105 (by decide) ?_
          refine lv_iconst (v := 0) hx hb dX9_takesItem_107 (by decide) ?_
          refine n_Vi (na := 7) (As := [.int 5, .int 104, .int 111, .int 117, .int 114, .int 115, .int 0]) (rest := []) X hD hN h rfl (c_M_spells l G cI cB cZ cO ad w x y mb bl ta tl tk va ok (5 : Int32) (104 : Int32) (111 : Int32) (117 : Int32) (114 : Int32) (115 : Int32) (0 : Int32) (by decide) (by decide) pf (by first | omega | decide | (simp only [k00]; omega)) (by first | omega | decide | (simp only [k00]; omega)) (by first | omega | decide | (simp only [k00]; omega)) (by first | omega | decide | (simp only [k00]; omega)) (by first | omega | decide | (simp only [k00]; omega))) ⟨kv_688, kv_689, kv_690, kv_470, kv_691⟩ rfl ⟨by decide, by decide, by decide⟩ ⟨Nat.le_of_ble_eq_true rfl, Nat.le_of_ble_eq_true rfl⟩ ⟨Nat.zero_le _, Nat.zero_le _⟩ (by decide) pf rfl rfl hl.1 rfl (Nat.le_of_ble_eq_true rfl) dX9_takesItem_108 (fun r97 w98 H locs hp99 h => ?_)
          obtain ⟨rfl, hr100⟩ := hp99
          rcases hr100 with ⟨hq101, hq102, rfl⟩ | rfl
          · have hq102 : tl.toInt = 5 := hq102
            refine lv_if_eq (tgt := 125) hx hb dX9_takesItem_111 (by decide) (fun hc => absurd hc (by decide)) (fun _ => ?_)
            refine lv_aload_n hx hb dX9_takesItem_114 rfl (lv_at hl 0 rfl) ?_
            refine n_Vi (na := 0) (As := []) (rest := []) X hD hN h rfl (c_M_takesHours l G cI cB cZ cO ad w x y mb bl ta tl tk va ok pf (by first | omega | decide | (simp only [k00]; omega)) (by first | omega | decide | (simp only [k00]; omega)) (by first | omega | decide | (simp only [k00]; omega)) (by first | omega | decide | (simp only [k00]; omega)) (by first | omega | decide | (simp only [k00]; omega)) (by first | omega | decide | (simp only [k00]; omega))) ⟨kv_708, kv_709, kv_710, kv_470, kv_711⟩ rfl ⟨by decide, by decide, by decide⟩ ⟨Nat.le_of_ble_eq_true rfl, Nat.le_of_ble_eq_true rfl⟩ ⟨Nat.zero_le _, Nat.zero_le _⟩ (by decide) pf rfl rfl hl.1 rfl (Nat.le_of_ble_eq_true rfl) dX9_takesItem_115 (fun r103 w104 H locs hp105 h => ?_)
            obtain ⟨ok106, kk107, hr108⟩ := hp105
            have kx109 : KN w w104 := kk107
            obtain ⟨y110, y111, y112, y113, h114, h115, h116, h117, h118, hq119⟩ := hr108
            rcases hq119 with ⟨hq120, rfl⟩ | rfl
            · refine lv_if_eq (tgt := 125) hx hb dX9_takesItem_118 (by decide) (fun hc => absurd hc (by decide)) (fun _ => ?_)
              refine lv_iconst (v := 1) hx hb dX9_takesItem_121 (by decide) ?_
              refine lv_goto (tgt := 126) hx hb dX9_takesItem_122 (by decide) ?_
              exact e_n X h hr hlk rfl dX9_takesItem_126 ⟨ok106, kx109, ⟨_, _, _, _, h114, by omega, by omega, by omega, by omega, Or.inl ⟨by omega, rfl⟩⟩⟩
            · refine lv_if_eq (tgt := 125) hx hb dX9_takesItem_118 (by decide) (fun _ => ?_) (fun hc => absurd (by decide) hc)
              refine lv_iconst (v := 0) hx hb dX9_takesItem_125 (by decide) ?_
              exact e_n X h hr hlk rfl dX9_takesItem_126 ⟨ok106, kx109, ⟨_, _, _, _, h114, by omega, by omega, by omega, by omega, Or.inr rfl⟩⟩
          · refine lv_if_eq (tgt := 125) hx hb dX9_takesItem_111 (by decide) (fun _ => ?_) (fun hc => absurd (by decide) hc)
            refine lv_iconst (v := 0) hx hb dX9_takesItem_125 (by decide) ?_
            exact e_n X h hr hlk rfl dX9_takesItem_126 ⟨ok, KN.rf, ⟨_, _, _, _, pf, by omega, by omega, by omega, by omega, Or.inr rfl⟩⟩

set_option maxHeartbeats 4000000 in
set_option maxRecDepth 100000 in
theorem c_M_read_ (l : Launch) (G : va_G) (cI cB cZ cO : ClassId) (ad : Nat → Nat) (w : Nat → va_E)  (ok : OK cI cB cZ cO ad w)    : NI l G (tyq cI cB cZ cO) yX9_read cX9_read 3 (some .int) 7 153 74 ad w [.ref (ad 64)] (fun r w1 => OK cI cB cZ cO ad w1 ∧ KN w w1 ∧ True) := by
  refine nk_i (own := "NoonShadeModel") rfl (by decide) (Nat.le_of_ble_eq_true rfl) ?_
  intro p e s m below meth c ls X hD hN hr hlk h hl
  have hx := X.1.1
  have hb := X.1.2.1
  have hown := X.1.2.2.2.1
  have hts := X.1.2.2.2.2
  have hl : lv_has ls 3 [(0, .ref (ad 64))] := hl
  have kq0 : (0 : Int32).toInt = 0 := rfl
  have kq1 : (1 : Int32).toInt = 1 := rfl
  have kq2 : (2 : Int32).toInt = 2 := rfl
  have kq3 : (3 : Int32).toInt = 3 := rfl
  have kq4 : (4 : Int32).toInt = 4 := rfl
  refine lv_aload_n hx hb dX9_read_0 rfl (lv_at hl 0 rfl) ?_
  refine lv_iconst (v := 0) hx hb dX9_read_1 (by decide) ?_
  obtain ⟨x2, x3, t4, t5, t6, t7, t8, t9, f1, h10, h11⟩ := (show sM ad (w 64) from ok 64 (by decide))
  have f12 : w 64 = .inr (7, [.ref (ad 65), .ref (ad 66), .ref (ad 67), .ref (ad 68), .long x2, .long x3, .ref (ad 69), .int t4, .ref (ad 70), .ref (ad 71), .int t5, .int t6, .int t7, .int t8, .int t9, .ref (ad 72), .ref (ad 73)]) := f1
  refine n_Vv (na := 1) (As := [.int 0]) (rest := []) X hD hN h rfl (c_M_lookAt l G cI cB cZ cO ad w x2 x3 t4 t5 t6 t7 t8 t9 ok (0 : Int32) (by decide) (by decide) f12 (by first | omega | decide | (simp only [k00]; omega)) (by first | omega | decide | (simp only [k00]; omega)) (by first | omega | decide | (simp only [k00]; omega))) ⟨kv_674, kv_675, kv_676, kv_470, kv_677⟩ rfl ⟨by decide, by decide, by decide⟩ ⟨Nat.le_of_ble_eq_true rfl, Nat.le_of_ble_eq_true rfl⟩ ⟨Nat.zero_le _, Nat.zero_le _⟩ (by decide) f12 rfl rfl hl.1 rfl (Nat.le_of_ble_eq_true rfl) dX9_read_2 (fun w14 H locs hp15 h => ?_)
  obtain ⟨ok16, kk17, hr18⟩ := hp15
  obtain ⟨y19, y20, y21, y22, h23, h24, h25, h26, h27⟩ := hr18
  have kx28 : KN w w14 := KN.tr KN.rf (F7.m kk17.f7 f12 h23).n
  refine lv_aload_n hx hb dX9_read_5 rfl (lv_at hl 0 rfl) ?_
  refine lv_bipush (v := 6) hx hb dX9_read_6 (by decide) ?_
  refine lv_bipush (v := 105) hx hb dX9_read_8 (by decide) ?_
  refine lv_bipush (v := 115) hx hb dX9_read_10 (by decide) ?_
  refine lv_bipush (v := 108) hx hb dX9_read_12 (by decide) ?_
  refine lv_bipush (v := 97) hx hb dX9_read_14 (by decide) ?_
  refine lv_bipush (v := 110) hx hb dX9_read_16 (by decide) ?_
  refine lv_bipush (v := 100) hx hb dX9_read_18 (by decide) ?_
  refine n_Vi (na := 7) (As := [.int 6, .int 105, .int 115, .int 108, .int 97, .int 110, .int 100]) (rest := []) X hD hN h rfl (c_M_spells l G cI cB cZ cO ad w14 x2 x3 t4 t5 y19 y20 y21 y22 ok16 (6 : Int32) (105 : Int32) (115 : Int32) (108 : Int32) (97 : Int32) (110 : Int32) (100 : Int32) (by decide) (by decide) h23 (by first | omega | decide | (simp only [k00]; omega)) (by first | omega | decide | (simp only [k00]; omega)) (by first | omega | decide | (simp only [k00]; omega)) (by first | omega | decide | (simp only [k00]; omega)) (by first | omega | decide | (simp only [k00]; omega))) ⟨kv_688, kv_689, kv_690, kv_470, kv_691⟩ rfl ⟨by decide, by decide, by decide⟩ ⟨Nat.le_of_ble_eq_true rfl, Nat.le_of_ble_eq_true rfl⟩ ⟨Nat.zero_le _, Nat.zero_le _⟩ (by decide) h23 rfl rfl hl.1 rfl (Nat.le_of_ble_eq_true rfl) dX9_read_20 (fun r29 w30 H locs hp31 h => ?_)
  obtain ⟨rfl, hr32⟩ := hp31
  rcases hr32 with ⟨hq33, hq34, rfl⟩ | rfl
  · have hq34 : y20.toInt = 6 := hq34
    refine lv_if_ne (tgt := 34) hx hb dX9_read_23 (by decide) (fun _ => ?_) (fun hc => absurd hc (by decide))
    refine lv_aload_n hx hb dX9_read_34 rfl (lv_at hl 0 rfl) ?_
    refine n_Vv (na := 0) (As := []) (rest := []) X hD hN h rfl (c_M_goBehind l G cI cB cZ cO ad w14 x2 x3 t4 t5 y19 y20 y21 y22 ok16   h23 (by first | omega | decide | (simp only [k00]; omega)) (by first | omega | decide | (simp only [k00]; omega)) (by first | omega | decide | (simp only [k00]; omega)) (by first | omega | decide | (simp only [k00]; omega)) (by first | omega | decide | (simp only [k00]; omega))) ⟨kv_679, kv_680, kv_681, kv_470, kv_682⟩ rfl ⟨by decide, by decide, by decide⟩ ⟨Nat.le_of_ble_eq_true rfl, Nat.le_of_ble_eq_true rfl⟩ ⟨Nat.zero_le _, Nat.zero_le _⟩ (by decide) h23 rfl rfl hl.1 rfl (Nat.le_of_ble_eq_true rfl) dX9_read_35 (fun w36 H locs hp37 h => ?_)
    obtain ⟨ok38, kk39, hr40⟩ := hp37
    obtain ⟨y41, y42, y43, y44, h45, h46, h47, h48, h49⟩ := hr40
    have kx50 : KN w w36 := KN.tr kx28 (F7.m kk39.f7 h23 h45).n
    refine lv_aload_n hx hb dX9_read_38 rfl (lv_at hl 0 rfl) ?_
    refine lv_iconst (v := 0) hx hb dX9_read_39 (by decide) ?_
    refine lv_iconst (v := 0) hx hb dX9_read_40 (by decide) ?_
    refine lv_bipush (v := 99) hx hb dX9_read_41 (by decide) ?_
    obtain ⟨g52, f51, p53⟩ := (show sA cI 3 (anyA) (w36 73) from ok38 73 (by decide))
    have f54 : w36 73 = .inl (cI, 3, .inl g52) := f51
    refine n_Vi (na := 3) (As := [.int 0, .int 0, .int 99]) (rest := []) X hD hN h rfl (c_M_takes0 l G cI cB cZ cO ad w36 x2 x3 t4 t5 y41 y42 y43 y44 g52 ok38 (0 : Int32) (99 : Int32) h45 (by first | omega | decide | (simp only [k00]; omega)) (by first | omega | decide | (simp only [k00]; omega)) (by first | omega | decide | (simp only [k00]; omega)) (by first | omega | decide | (simp only [k00]; omega)) (by first | omega | decide | (simp only [k00]; omega)) (by first | omega | decide | (simp only [k00]; omega)) f54) ⟨kv_684, kv_685, kv_686, kv_470, kv_687⟩ rfl ⟨by decide, by decide, by decide⟩ ⟨Nat.le_of_ble_eq_true rfl, Nat.le_of_ble_eq_true rfl⟩ ⟨Nat.zero_le _, Nat.zero_le _⟩ (by decide) h45 rfl rfl hl.1 rfl (Nat.le_of_ble_eq_true rfl) dX9_read_43 (fun r55 w56 H locs hp57 h => ?_)
    obtain ⟨ok58, kk59, h60, hr61⟩ := hp57
    obtain ⟨y62, y63, y64, y65, h66, h67, h68, h69, h70⟩ := h60
    have kx71 : KN w w56 := KN.tr kx50 (F7.m kk59 h45 h66).n
    rcases hr61 with ⟨⟨v72, h73, h74, e75⟩, rfl⟩ | rfl
    · have k79 : (0 : Int32).toInt = 0 := rfl
      have k80 : (99 : Int32).toInt = 99 := rfl
      obtain ⟨g76, e77⟩ : ∃ z : Nat → Int32, upd g52 0 v72 = z := ⟨_, rfl⟩
      rw [e77] at e75
      have f78 : anyA g76 := trivial
      refine lv_if_eq (tgt := 57) hx hb dX9_read_46 (by decide) (fun hc => absurd hc (by decide)) (fun _ => ?_)
      refine lv_aload_n hx hb dX9_read_49 rfl (lv_at hl 0 rfl) ?_
      refine r_get kc9 X h 64 13 (by decide) rfl h66 (by decide) kv_665 rfl dX9_read_50 ?_
      refine lv_iconst (v := 3) hx hb dX9_read_53 (by decide) ?_
      refine lv_icmp_eq (tgt := 65) hx hb dX9_read_54 (by decide) (fun hc81 => ?_) (fun hc81 => ?_)
      · have hc81 : (y64).toInt = 3 := i_eq hc81 rfl rfl
        refine lv_aload_n hx hb dX9_read_65 rfl (lv_at hl 0 rfl) ?_
        refine n_Vv (na := 0) (As := []) (rest := []) X hD hN h rfl (c_M_goBehind l G cI cB cZ cO ad w56 x2 x3 t4 t5 y62 y63 y64 y65 ok58   h66 (by first | omega | decide | (simp only [k00]; omega)) (by first | omega | decide | (simp only [k00]; omega)) (by first | omega | decide | (simp only [k00]; omega)) (by first | omega | decide | (simp only [k00]; omega)) (by first | omega | decide | (simp only [k00]; omega))) ⟨kv_679, kv_680, kv_681, kv_470, kv_682⟩ rfl ⟨by decide, by decide, by decide⟩ ⟨Nat.le_of_ble_eq_true rfl, Nat.le_of_ble_eq_true rfl⟩ ⟨Nat.zero_le _, Nat.zero_le _⟩ (by decide) h66 rfl rfl hl.1 rfl (Nat.le_of_ble_eq_true rfl) dX9_read_66 (fun w83 H locs hp84 h => ?_)
        obtain ⟨ok85, kk86, hr87⟩ := hp84
        obtain ⟨y88, y89, y90, y91, h92, h93, h94, h95, h96⟩ := hr87
        have kx97 : KN w w83 := KN.tr kx71 (F7.m kk86.f7 h66 h92).n
        refine lv_aload_n hx hb dX9_read_69 rfl (lv_at hl 0 rfl) ?_
        refine r_get kc9 X h 64 15 (by decide) rfl h92 (by decide) kv_683 rfl dX9_read_70 ?_
        refine lv_aload_n hx hb dX9_read_73 rfl (lv_at hl 0 rfl) ?_
        refine r_get kc9 X h 64 16 (by decide) rfl h92 (by decide) kv_678 rfl dX9_read_74 ?_
        refine lv_iconst (v := 0) hx hb dX9_read_77 (by decide) ?_
        have f98 : w83 73 = .inl (cI, 3, .inl g76) := (kk86 73 (by decide)).trans e75
        have e99 : g76 0 = v72 := by rw [← e77, pk_us]
        refine o_iald (v := v72) X h 73 0 (by decide) rfl f98 rfl (by unfold vp_in; decide) e99 dX9_read_78 ?_
        refine n_Sv (na := 2) (As := [.ref (ad 72), .int v72]) (rest := []) X hD hN h (c_M_begin72 l G cI cB cZ cO ad w83  ok85 v72 ) ⟨kv_632, kv_633, kv_470, kv_634⟩ ⟨by decide, by decide, by decide⟩ ⟨Nat.le_of_ble_eq_true rfl, Nat.le_of_ble_eq_true rfl⟩ ⟨Nat.zero_le _, Nat.zero_le _⟩ rfl hl.1 rfl (Nat.le_of_ble_eq_true rfl) dX9_read_79 (fun w101 H locs hp102 h => ?_)
        obtain ⟨ok103, kk104, hr105⟩ := hp102
        have kx106 : KN w w101 := KN.tr kx97 kk104.1.n
        refine lv_iconst (v := 1) hx hb dX9_read_82 (by decide) ?_
        refine lv_istore_n (lv' := [(1, .int 1), (0, .ref (ad 64))]) hx hb dX9_read_83 rfl hl (by decide) rfl (fun ls hl => ?_)
        have f107 : w101 64 = .inr (7, [.ref (ad 65), .ref (ad 66), .ref (ad 67), .ref (ad 68), .long x2, .long x3, .ref (ad 69), .int t4, .ref (ad 70), .ref (ad 71), .int t5, .int y88, .int y89, .int y90, .int y91, .ref (ad 72), .ref (ad 73)]) := (kk104.2 64 (by decide)).trans h92
        have hloop114 : ∀ (d115 : Nat) (L108 : Int32) (C110 : Int32) (C111 : Int32) (C112 : Int32) (C113 : Int32) (wL109 : Nat → va_E) (H : Heap) (locs : List Loc) (ls : Array Slot), C110.toInt + C111.toInt ≤ t5.toInt → (C112.toInt = 0 ∨ 1 ≤ C111.toInt) → 0 ≤ C110.toInt → C110.toInt ≤ 150 → 0 ≤ C111.toInt → C111.toInt ≤ 150 → OK cI cB cZ cO ad wL109 → KN w wL109 → wL109 64 = .inr (7, [.ref (ad 65), .ref (ad 66), .ref (ad 67), .ref (ad 68), .long x2, .long x3, .ref (ad 69), .int t4, .ref (ad 70), .ref (ad 71), .int t5, .int C110, .int C111, .int C112, .int C113, .ref (ad 72), .ref (ad 73)]) → t5.toInt - C110.toInt < (d115 : Int) → St G 74 ad (wA 74 ad s.heap.size) s.heap wL109 H locs → lv_has ls 3 [(1, .int L108), (0, .ref (ad 64))] → W p l e { frames := 7, cells := 0, slots := 0, locals := 153 } s m [.ref (ad 64)].toArray below meth c H locs 0 0 (MQ below (va_Qi (fun r w1 => OK cI cB cZ cO ad w1 ∧ KN w w1 ∧ True) (Aft G 74 ad) (wA 74 ad s.heap.size)) [.ref (ad 64)].toArray s 0 0 (wA 74 ad s.heap.size)) (F0 m 84 ls []) := by
          intro d115
          induction d115 with
          | zero => intro L108 C110 C111 C112 C113 wL109 H locs ls hi118 hi119 hi120 hi121 hi122 hi123 ok124 kx125 cf126 hm117 h hl; exfalso; omega
          | succ d115 ih116 =>
            intro L108 C110 C111 C112 C113 wL109 H locs ls hi118 hi119 hi120 hi121 hi122 hi123 ok124 kx125 cf126 hm117 h hl
            refine lv_aload_n hx hb dX9_read_84 rfl (lv_at hl 1 rfl) ?_
            refine r_get kc9 X h 64 13 (by decide) rfl cf126 (by decide) kv_665 rfl dX9_read_85 ?_
            refine lv_if_eq (tgt := 124) hx hb dX9_read_88 (by decide) (fun hc128 => ?_) (fun hc128 => ?_)
            · have hc128 : (C112).toInt = 0 := i_eq hc128 rfl rfl
              refine lv_iconst (v := 0) hx hb dX9_read_124 (by decide) ?_
              refine lv_istore_n (lv' := [(2, .int 0), (1, .int L108), (0, .ref (ad 64))]) hx hb dX9_read_125 rfl hl (by decide) rfl (fun ls hl => ?_)
              have hloop131 : ∀ (d132 : Nat) (L129 : Int32) (wL130 : Nat → va_E) (H : Heap) (locs : List Loc) (ls : Array Slot), 0 ≤ L129.toInt → L129.toInt ≤ 89 → OK cI cB cZ cO ad wL130 → KN w wL130 → 89 - L129.toInt < (d132 : Int) → St G 74 ad (wA 74 ad s.heap.size) s.heap wL130 H locs → lv_has ls 3 [(2, .int L129), (1, .int L108), (0, .ref (ad 64))] → W p l e { frames := 7, cells := 0, slots := 0, locals := 153 } s m [.ref (ad 64)].toArray below meth c H locs 0 0 (MQ below (va_Qi (fun r w1 => OK cI cB cZ cO ad w1 ∧ KN w w1 ∧ True) (Aft G 74 ad) (wA 74 ad s.heap.size)) [.ref (ad 64)].toArray s 0 0 (wA 74 ad s.heap.size)) (F0 m 126 ls []) := by
                intro d132
                induction d132 with
                | zero => intro L129 wL130 H locs ls hi135 hi136 ok137 kx138 hm134 h hl; exfalso; omega
                | succ d132 ih133 =>
                  intro L129 wL130 H locs ls hi135 hi136 ok137 kx138 hm134 h hl
                  refine lv_iload_n hx hb dX9_read_126 rfl (lv_at hl 0 rfl) ?_
                  refine lv_bipush (v := 89) hx hb dX9_read_127 (by decide) ?_
                  refine lv_icmp_ge (tgt := 150) hx hb dX9_read_129 (by decide) (fun hc140 => ?_) (fun hc140 => ?_)
                  · have hc140 : 89 ≤ (L129).toInt := i_le hc140 rfl rfl
                    refine lv_iload_n hx hb dX9_read_150 rfl (lv_at hl 1 rfl) ?_
                    exact e_i X h hr hlk dX9_read_151 ⟨ok137, kx138, trivial⟩
                  · have hc140 : ¬ 89 ≤ (L129).toInt := i_nle hc140 rfl rfl
                    refine lv_aload_n hx hb dX9_read_132 rfl (lv_at hl 2 rfl) ?_
                    obtain ⟨x142, x143, t144, t145, t146, t147, t148, t149, f141, h150, h151⟩ := (show sM ad (wL130 64) from ok137 64 (by decide))
                    have f152 : wL130 64 = .inr (7, [.ref (ad 65), .ref (ad 66), .ref (ad 67), .ref (ad 68), .long x142, .long x143, .ref (ad 69), .int t144, .ref (ad 70), .ref (ad 71), .int t145, .int t146, .int t147, .int t148, .int t149, .ref (ad 72), .ref (ad 73)]) := f141
                    refine r_get kc9 X h 64 0 (by decide) rfl f152 (by decide) kv_467 rfl dX9_read_133 ?_
                    refine lv_iload_n hx hb dX9_read_136 rfl (lv_at hl 0 rfl) ?_
                    refine lv_aload_n hx hb dX9_read_137 rfl (lv_at hl 2 rfl) ?_
                    refine r_get kc9 X h 64 15 (by decide) rfl f152 (by decide) kv_683 rfl dX9_read_138 ?_
                    refine lv_iload_n hx hb dX9_read_141 rfl (lv_at hl 0 rfl) ?_
                    obtain ⟨g154, f153, p155⟩ := (show sA cI 89 (alA) (wL130 72) from ok137 72 (by decide))
                    have f156 : wL130 72 = .inl (cI, 89, .inl g154) := f153
                    obtain ⟨v157, e158⟩ : ∃ z : Int32, g154 (L129).toNatClampNeg = z := ⟨_, rfl⟩
                    refine o_iald (v := v157) X h 72 0 (by decide) rfl f156 rfl (in_of (by omega) (by omega)) e158 dX9_read_142 ?_
                    obtain ⟨g161, f160, p162⟩ := (show sA cI 177 (alA) (wL130 65) from ok137 65 (by decide))
                    have f163 : wL130 65 = .inl (cI, 177, .inl g161) := f160
                    obtain ⟨g164, e165⟩ : ∃ z : Nat → Int32, upd g161 (L129).toNatClampNeg v157 = z := ⟨_, rfl⟩
                    have p166 : alA g164 := alA_updc p155 p162 e158 e165
                    refine o_iast (f1 := g164) X hD h 65 0 (by decide) rfl f163 rfl (in_of (by omega) (by omega)) e165 dX9_read_143 (fun H locs w167 e168 h => ?_)
                    have f169 : w167 65 = .inl (cI, 177, .inl g164) := (congrFun e168 _).trans (va_up_self _ _ _)
                    have ok170 : OK cI cB cZ cO ad w167 := OK.up ok137 e168 (sA_mk p166)
                    have kx171 : KN w w167 := KN.up kx138 e168 f163 rfl
                    obtain ⟨z172, e173, t174⟩ := x_add (x := L129) (y := 1) (a := L129.toInt) (b := 1) rfl rfl (by omega) (by omega)
                    refine lv_iinc (v := z172) (lv' := [(2, .int z172), (1, .int L108), (0, .ref (ad 64))]) hx hb dX9_read_144 hl (k := 0) rfl e173 (by decide) rfl (fun ls hl => ?_)
                    refine lv_goto (tgt := 126) hx hb dX9_read_147 (by decide) ?_
                    exact ih133  z172 w167 _ _ _ (by omega) (by omega) ok170 kx171 (by omega) h (lv_sub hl [0, 1, 2] rfl)
              exact hloop131 90 (0 : Int32) wL109 _ _ _ (by have q0 : (0 : Int32).toInt = 0 := rfl; omega) (by have q0 : (0 : Int32).toInt = 0 := rfl; omega) ok124 kx125 (by have q0 : (0 : Int32).toInt = 0 := rfl; omega) h (lv_sub hl [0, 1, 2] rfl)
            · have hc128 : ¬ (C112).toInt = 0 := i_ne hc128 rfl rfl
              refine lv_aload_n hx hb dX9_read_91 rfl (lv_at hl 1 rfl) ?_
              refine n_Vi (na := 0) (As := []) (rest := []) X hD hN h rfl (c_M_takesItem l G cI cB cZ cO ad wL109 x2 x3 t4 t5 C110 C111 C112 C113 ok124 cf126 (by first | omega | decide | (simp only [k00]; omega)) (by first | omega | decide | (simp only [k00]; omega)) (by first | omega | decide | (simp only [k00]; omega)) (by first | omega | decide | (simp only [k00]; omega)) (by first | omega | decide | (simp only [k00]; omega)) (by first | omega | decide | (simp only [k00]; omega))) ⟨kv_712, kv_713, kv_714, kv_470, kv_715⟩ rfl ⟨by decide, by decide, by decide⟩ ⟨Nat.le_of_ble_eq_true rfl, Nat.le_of_ble_eq_true rfl⟩ ⟨Nat.zero_le _, Nat.zero_le _⟩ (by decide) cf126 rfl rfl hl.1 rfl (Nat.le_of_ble_eq_true rfl) dX9_read_92 (fun r175 w176 H locs hp177 h => ?_)
              obtain ⟨ok178, kk179, hr180⟩ := hp177
              have kx181 : KN w w176 := KN.tr kx125 kk179
              obtain ⟨y182, y183, y184, y185, h186, h187, h188, h189, h190, hq191⟩ := hr180
              rcases hq191 with ⟨hq192, rfl⟩ | rfl
              · refine lv_if_eq (tgt := 106) hx hb dX9_read_95 (by decide) (fun hc => absurd hc (by decide)) (fun _ => ?_)
                refine lv_aload_n hx hb dX9_read_98 rfl (lv_at hl 1 rfl) ?_
                refine r_get kc9 X h 64 13 (by decide) rfl h186 (by decide) kv_665 rfl dX9_read_99 ?_
                refine lv_iconst (v := 3) hx hb dX9_read_102 (by decide) ?_
                refine lv_icmp_eq (tgt := 114) hx hb dX9_read_103 (by decide) (fun hc193 => ?_) (fun hc193 => ?_)
                · have hc193 : (y184).toInt = 3 := i_eq hc193 rfl rfl
                  refine lv_aload_n hx hb dX9_read_114 rfl (lv_at hl 1 rfl) ?_
                  refine n_Vv (na := 0) (As := []) (rest := []) X hD hN h rfl (c_M_goBehind l G cI cB cZ cO ad w176 x2 x3 t4 t5 y182 y183 y184 y185 ok178   h186 (by first | omega | decide | (simp only [k00]; omega)) (by first | omega | decide | (simp only [k00]; omega)) (by first | omega | decide | (simp only [k00]; omega)) (by first | omega | decide | (simp only [k00]; omega)) (by first | omega | decide | (simp only [k00]; omega))) ⟨kv_679, kv_680, kv_681, kv_470, kv_682⟩ rfl ⟨by decide, by decide, by decide⟩ ⟨Nat.le_of_ble_eq_true rfl, Nat.le_of_ble_eq_true rfl⟩ ⟨Nat.zero_le _, Nat.zero_le _⟩ (by decide) h186 rfl rfl hl.1 rfl (Nat.le_of_ble_eq_true rfl) dX9_read_115 (fun w195 H locs hp196 h => ?_)
                  obtain ⟨ok197, kk198, hr199⟩ := hp196
                  obtain ⟨y200, y201, y202, y203, h204, h205, h206, h207, h208⟩ := hr199
                  have kx209 : KN w w195 := KN.tr kx181 (F7.m kk198.f7 h186 h204).n
                  obtain ⟨z210, e211⟩ : ∃ z : Int32, L108 + 1 = z := ⟨_, rfl⟩
                  refine lv_iinc (v := z210) (lv' := [(1, .int z210), (0, .ref (ad 64))]) hx hb dX9_read_118 hl (k := 0) rfl e211 (by decide) rfl (fun ls hl => ?_)
                  refine lv_goto (tgt := 84) hx hb dX9_read_121 (by decide) ?_
                  exact ih116  z210 y200 y201 y202 y203 w195 _ _ _ (by omega) (by omega) (by omega) (by omega) (by omega) (by omega) ok197 kx209 h204 (by omega) h (lv_sub hl [0, 1] rfl)
                · have hc193 : ¬ (y184).toInt = 3 := i_ne hc193 rfl rfl
                  refine lv_bipush (v := (-10)) hx hb dX9_read_106 (by decide) ?_
                  refine lv_aload_n hx hb dX9_read_108 rfl (lv_at hl 1 rfl) ?_
                  refine r_get kc9 X h 64 11 (by decide) rfl h186 (by decide) kv_663 rfl dX9_read_109 ?_
                  obtain ⟨z215, e213, t214⟩ := x_sub (x := ((-10) : Int32)) (y := y182) (a := (-10)) (b := (y182).toInt) rfl rfl (by omega) (by omega)
                  refine o_isub (z := z215) hx hb dX9_read_112 e213 ?_
                  exact e_i X h hr hlk dX9_read_113 ⟨ok178, kx181, trivial⟩
              · refine lv_if_eq (tgt := 106) hx hb dX9_read_95 (by decide) (fun _ => ?_) (fun hc => absurd (by decide) hc)
                refine lv_bipush (v := (-10)) hx hb dX9_read_106 (by decide) ?_
                refine lv_aload_n hx hb dX9_read_108 rfl (lv_at hl 1 rfl) ?_
                refine r_get kc9 X h 64 11 (by decide) rfl h186 (by decide) kv_663 rfl dX9_read_109 ?_
                obtain ⟨z218, e216, t217⟩ := x_sub (x := ((-10) : Int32)) (y := y182) (a := (-10)) (b := (y182).toInt) rfl rfl (by omega) (by omega)
                refine o_isub (z := z218) hx hb dX9_read_112 e216 ?_
                exact e_i X h hr hlk dX9_read_113 ⟨ok178, kx181, trivial⟩
        exact hloop114 151 (1 : Int32) y88 y89 y90 y91 w101 _ _ _ (by have q0 : (1 : Int32).toInt = 1 := rfl; omega) (by have q0 : (1 : Int32).toInt = 1 := rfl; omega) (by have q0 : (1 : Int32).toInt = 1 := rfl; omega) (by have q0 : (1 : Int32).toInt = 1 := rfl; omega) (by have q0 : (1 : Int32).toInt = 1 := rfl; omega) (by have q0 : (1 : Int32).toInt = 1 := rfl; omega) ok103 kx106 f107 (by have q0 : (1 : Int32).toInt = 1 := rfl; omega) h (lv_sub hl [0, 1] rfl)
      · have hc81 : ¬ (y64).toInt = 3 := i_ne hc81 rfl rfl
        refine lv_bipush (v := (-10)) hx hb dX9_read_57 (by decide) ?_
        refine lv_aload_n hx hb dX9_read_59 rfl (lv_at hl 0 rfl) ?_
        refine r_get kc9 X h 64 11 (by decide) rfl h66 (by decide) kv_663 rfl dX9_read_60 ?_
        obtain ⟨z221, e219, t220⟩ := x_sub (x := ((-10) : Int32)) (y := y62) (a := (-10)) (b := (y62).toInt) rfl rfl (by omega) (by omega)
        refine o_isub (z := z221) hx hb dX9_read_63 e219 ?_
        exact e_i X h hr hlk dX9_read_64 ⟨ok58, kx71, trivial⟩
    · refine lv_if_eq (tgt := 57) hx hb dX9_read_46 (by decide) (fun _ => ?_) (fun hc => absurd (by decide) hc)
      refine lv_bipush (v := (-10)) hx hb dX9_read_57 (by decide) ?_
      refine lv_aload_n hx hb dX9_read_59 rfl (lv_at hl 0 rfl) ?_
      refine r_get kc9 X h 64 11 (by decide) rfl h66 (by decide) kv_663 rfl dX9_read_60 ?_
      obtain ⟨z224, e222, t223⟩ := x_sub (x := ((-10) : Int32)) (y := y62) (a := (-10)) (b := (y62).toInt) rfl rfl (by omega) (by omega)
      refine o_isub (z := z224) hx hb dX9_read_63 e222 ?_
      exact e_i X h hr hlk dX9_read_64 ⟨ok58, kx71, trivial⟩
  · refine lv_if_ne (tgt := 34) hx hb dX9_read_23 (by decide) (fun hc => absurd (by decide) hc) (fun _ => ?_)
    refine lv_bipush (v := (-10)) hx hb dX9_read_26 (by decide) ?_
    refine lv_aload_n hx hb dX9_read_28 rfl (lv_at hl 0 rfl) ?_
    refine r_get kc9 X h 64 11 (by decide) rfl h23 (by decide) kv_663 rfl dX9_read_29 ?_
    obtain ⟨z227, e225, t226⟩ := x_sub (x := ((-10) : Int32)) (y := y19) (a := (-10)) (b := (y19).toInt) rfl rfl (by omega) (by omega)
    refine o_isub (z := z227) hx hb dX9_read_32 e225 ?_
    exact e_i X h hr hlk dX9_read_33 ⟨ok16, kx28, trivial⟩
