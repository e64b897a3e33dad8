set_option maxHeartbeats 4000000 in
set_option maxRecDepth 100000 in
theorem c_MF_takesCaster (l : Launch) (G : va_G) (cI cB cZ cO : ClassId) (ad : Nat → Nat) (w : Nat → va_E) (x y : Int64) (mb bl ta tl tk va : Int32) (bs : Nat → Int32) (p0 : Nat) (f : Nat → Int32) (ok : OK cI cB cZ cO ad w)   (pf : w 64 = .inr (7, [.ref (ad 65), .ref (ad 66), .ref (ad 67), .ref (ad 68), .long x, .long y, .ref (ad 69), .int mb, .ref (ad 70), .ref (ad 71), .int bl, .int ta, .int tl, .int tk, .int va, .ref (ad 72), .ref (ad 73)])) (hbl0 : 0 ≤ bl.toInt) (hbl1 : bl.toInt ≤ 150) (p71 : w 71 = .inl (cI, 150, .inl bs)) (hta : 0 ≤ ta.toInt) (htl : 0 ≤ tl.toInt) (htb : ta.toInt + tl.toInt ≤ bl.toInt) (hAT : AT bs bl.toNatClampNeg p0 ta tl tk va) (p72 : w 72 = .inl (cI, 89, .inl f)) (pal : alA f) : NI l G (tyq cI cB cZ cO) yX9_takesCaster cX9_takesCaster 1 (some .boolean) 5 112 74 ad w [.ref (ad 64)] (fun r w1 => OK cI cB cZ cO ad w1 ∧ KN w w1 ∧ (w1 65 = w 65 ∧ w1 66 = w 66) ∧ (((f 0).toInt < 7 ∧ (∃ ta1 tl1 tk1 va1 : Int32, w1 64 = .inr (7, [.ref (ad 65), .ref (ad 66), .ref (ad 67), .ref (ad 68), .long x, .long y, .ref (ad 69), .int mb, .ref (ad 70), .ref (ad 71), .int bl, .int ta1, .int tl1, .int tk1, .int va1, .ref (ad 72), .ref (ad 73)]) ∧ 0 ≤ ta1.toInt ∧ 0 ≤ tl1.toInt ∧ ta1.toInt + tl1.toInt ≤ bl.toInt ∧ (tk1.toInt = 0 ∨ 1 ≤ tl1.toInt) ∧ ((∃ (q : Nat) (f1 : Nat → Int32), AT bs bl.toNatClampNeg q ta1 tl1 tk1 va1 ∧ w1 72 = .inl (cI, 89, .inl f1) ∧ jt1 bs bl.toNatClampNeg (tE bs bl.toNatClampNeg p0) f = .inr (q, f1) ∧ ta.toInt + tl.toInt ≤ ta1.toInt) ∧ r = 1 ∨ jt1 bs bl.toNatClampNeg (tE bs bl.toNatClampNeg p0) f = .inl ta1.toNatClampNeg ∧ r = 0))) ∨ (7 ≤ (f 0).toInt ∧ w1 64 = w 64 ∧ r = 0))) := by
  refine nk_i (own := "NoonShadeModel") rfl (by decide) (Nat.le_of_ble_eq_true rfl) ?_
  intro p e s m below meth c ls X hD hN hr hlk h hl
  have hx := X.1.1
  have hb := X.1.2.1
  have hown := X.1.2.2.2.1
  have hts := X.1.2.2.2.2
  have hl : lv_has ls 1 [(0, .ref (ad 64))] := hl
  have kq0 : (0 : Int32).toInt = 0 := rfl
  have kq1 : (1 : Int32).toInt = 1 := rfl
  have kq2 : (2 : Int32).toInt = 2 := rfl
  have kq3 : (3 : Int32).toInt = 3 := rfl
  have kq4 : (4 : Int32).toInt = 4 := rfl
  obtain ⟨v0, ev0⟩ : ∃ z : Int32, f 0 = z := ⟨_, rfl⟩
  have hv0 := (alA_rd pal ev0).1 rfl
  have hv9 := congrArg Int32.toInt ev0
  refine lv_aload_n hx hb dX9_takesCaster_0 rfl (lv_at hl 0 rfl) ?_
  refine r_get kc9 X h 64 15 (by decide) rfl pf (by decide) kv_683 rfl dX9_takesCaster_1 ?_
  refine lv_iconst (v := 0) hx hb dX9_takesCaster_4 (by decide) ?_
  refine o_iald (v := v0) X h 72 0 (by decide) rfl p72 rfl (by unfold vp_in; decide) ev0 dX9_takesCaster_5 ?_
  refine lv_bipush (v := 7) hx hb dX9_takesCaster_6 (by decide) ?_
  refine lv_icmp_ne (tgt := 13) hx hb dX9_takesCaster_8 (by decide) (fun hc1 => ?_) (fun hc1 => ?_)
  · have hc1 : ¬ (v0).toInt = 7 := i_ne hc1 rfl rfl
    refine lv_aload_n hx hb dX9_takesCaster_13 rfl (lv_at hl 0 rfl) ?_
    refine n_Vv (na := 0) (As := []) (rest := []) X hD hN h rfl (c_MF_goBehind l G cI cB cZ cO ad w x y mb bl ta tl tk va bs p0 ok pf (by omega) (by omega) p71 (by omega) (by omega) (by omega) hAT) ⟨kv_679, kv_680, kv_681, kv_470, kv_682⟩ rfl ⟨by decide, by decide, by decide⟩ ⟨Nat.le_of_ble_eq_true rfl, Nat.le_of_ble_eq_true rfl⟩ ⟨Nat.zero_le _, Nat.zero_le _⟩ (by decide) pf rfl rfl hl.1 rfl (Nat.le_of_ble_eq_true rfl) dX9_takesCaster_14 (fun w3 H locs hp4 h => ?_)
    obtain ⟨ok5, kk6, hr7⟩ := hp4
    obtain ⟨y8, y9, y10, y11, h12, h13, h14, h15, h16, h17⟩ := hr7
    have kx18 : KN w w3 := KN.tr KN.rf (F7.m kk6.f7 pf h12).n
    refine lv_aload_n hx hb dX9_takesCaster_17 rfl (lv_at hl 0 rfl) ?_
    refine lv_iconst (v := 0) hx hb dX9_takesCaster_18 (by decide) ?_
    refine lv_iconst (v := 0) hx hb dX9_takesCaster_19 (by decide) ?_
    refine lv_iconst (v := 5) hx hb dX9_takesCaster_20 (by decide) ?_
    have f19 : w3 71 = .inl (cI, 150, .inl bs) := (kk6 71 (by decide)).trans p71
    obtain ⟨g21, f20, p22⟩ := (show sA cI 3 (anyA) (w3 73) from ok5 73 (by decide))
    have f23 : w3 73 = .inl (cI, 3, .inl g21) := f20
    refine n_Vi (na := 3) (As := [.int 0, .int 0, .int 5]) (rest := []) X hD hN h rfl (c_MF_takes0 l G cI cB cZ cO ad w3 x y mb bl y8 y9 y10 y11 bs (tE bs bl.toNatClampNeg p0) g21 ok5 (0 : Int32) (5 : Int32) h12 (by omega) (by omega) f19 (by omega) (by omega) (by omega) h17 f23) ⟨kv_684, kv_685, kv_686, kv_470, kv_687⟩ rfl ⟨by decide, by decide, by decide⟩ ⟨Nat.le_of_ble_eq_true rfl, Nat.le_of_ble_eq_true rfl⟩ ⟨Nat.zero_le _, Nat.zero_le _⟩ (by decide) h12 rfl rfl hl.1 rfl (Nat.le_of_ble_eq_true rfl) dX9_takesCaster_21 (fun r24 w25 H locs hp26 h => ?_)
    obtain ⟨ok27, kk28, hr29⟩ := hp26
    rcases hr29 with ⟨⟨y30, y31, y32, y33, h34, h35, h36, h37, h38, h39, h40, h41⟩, rfl⟩ | ⟨⟨h42, h43, h44⟩, rfl⟩
    · obtain ⟨g45, e46⟩ : ∃ z : Nat → Int32, upd g21 0 y11 = z := ⟨_, rfl⟩
      rw [e46] at h40
      have p47 : anyA g45 := trivial
      have k48 : (0 : Int32).toInt = 0 := rfl
      have k49 : (5 : Int32).toInt = 5 := rfl
      have q50 : y10.toInt = 2 ∧ (0 : Int32).toInt ≤ y11.toInt ∧ y11.toInt ≤ (5 : Int32).toInt := by have a9 := h41.1; have b9 := h41.2.1; have c9 := h41.2.2; rw [← h17.2.2.1] at a9; rw [← h17.2.2.2 a9] at b9 c9; exact ⟨a9, b9, c9⟩
      have h41 : numK bs bl.toNatClampNeg (tE bs bl.toNatClampNeg p0) 0 5 := h41
      have kx51 : KN w w25 := KN.tr kx18 (F7.m kk28 h12 h34).n
      refine lv_if_eq (tgt := 48) hx hb dX9_takesCaster_24 (by decide) (fun hc => absurd hc (by decide)) (fun _ => ?_)
      refine lv_aload_n hx hb dX9_takesCaster_27 rfl (lv_at hl 0 rfl) ?_
      refine lv_iconst (v := 1) hx hb dX9_takesCaster_28 (by decide) ?_
      refine lv_iconst (v := 1) hx hb dX9_takesCaster_29 (by decide) ?_
      refine lv_bipush (v := 9) hx hb dX9_takesCaster_30 (by decide) ?_
      have f52 : w25 71 = .inl (cI, 150, .inl bs) := (kk28 71 (by decide) (by decide)).trans f19
      refine n_Vi (na := 3) (As := [.int 1, .int 1, .int 9]) (rest := []) X hD hN h rfl (c_MF_takes1 l G cI cB cZ cO ad w25 x y mb bl y30 y31 y32 y33 bs (tE bs bl.toNatClampNeg (tE bs bl.toNatClampNeg p0)) g45 ok27 (1 : Int32) (9 : Int32) h34 (by omega) (by omega) f52 (by omega) (by omega) (by omega) h39 h40) ⟨kv_684, kv_685, kv_686, kv_470, kv_687⟩ rfl ⟨by decide, by decide, by decide⟩ ⟨Nat.le_of_ble_eq_true rfl, Nat.le_of_ble_eq_true rfl⟩ ⟨Nat.zero_le _, Nat.zero_le _⟩ (by decide) h34 rfl rfl hl.1 rfl (Nat.le_of_ble_eq_true rfl) dX9_takesCaster_32 (fun r53 w54 H locs hp55 h => ?_)
      obtain ⟨ok56, kk57, hr58⟩ := hp55
      rcases hr58 with ⟨⟨y59, y60, y61, y62, h63, h64, h65, h66, h67, h68, h69, h70⟩, rfl⟩ | ⟨⟨h71, h72, h73⟩, rfl⟩
      · obtain ⟨g74, e75⟩ : ∃ z : Nat → Int32, upd g45 1 y33 = z := ⟨_, rfl⟩
        rw [e75] at h69
        have p76 : anyA g74 := trivial
        have k77 : (1 : Int32).toInt = 1 := rfl
        have k78 : (9 : Int32).toInt = 9 := rfl
        have q79 : y32.toInt = 2 ∧ (1 : Int32).toInt ≤ y33.toInt ∧ y33.toInt ≤ (9 : Int32).toInt := by have a9 := h70.1; have b9 := h70.2.1; have c9 := h70.2.2; rw [← h39.2.2.1] at a9; rw [← h39.2.2.2 a9] at b9 c9; exact ⟨a9, b9, c9⟩
        have h70 : numK bs bl.toNatClampNeg (tE bs bl.toNatClampNeg (tE bs bl.toNatClampNeg p0)) 1 9 := h70
        have kx80 : KN w w54 := KN.tr kx51 (F7.m kk57 h34 h63).n
        refine lv_if_eq (tgt := 48) hx hb dX9_takesCaster_35 (by decide) (fun hc => absurd hc (by decide)) (fun _ => ?_)
        refine lv_aload_n hx hb dX9_takesCaster_38 rfl (lv_at hl 0 rfl) ?_
        refine lv_iconst (v := 2) hx hb dX9_takesCaster_39 (by decide) ?_
        refine lv_iconst (v := 0) hx hb dX9_takesCaster_40 (by decide) ?_
        refine lv_iconst (v := 3) hx hb dX9_takesCaster_41 (by decide) ?_
        have f81 : w54 71 = .inl (cI, 150, .inl bs) := (kk57 71 (by decide) (by decide)).trans f52
        refine n_Vi (na := 3) (As := [.int 2, .int 0, .int 3]) (rest := []) X hD hN h rfl (c_MF_takes2 l G cI cB cZ cO ad w54 x y mb bl y59 y60 y61 y62 bs (tE bs bl.toNatClampNeg (tE bs bl.toNatClampNeg (tE bs bl.toNatClampNeg p0))) g74 ok56 (0 : Int32) (3 : Int32) h63 (by omega) (by omega) f81 (by omega) (by omega) (by omega) h68 h69) ⟨kv_684, kv_685, kv_686, kv_470, kv_687⟩ rfl ⟨by decide, by decide, by decide⟩ ⟨Nat.le_of_ble_eq_true rfl, Nat.le_of_ble_eq_true rfl⟩ ⟨Nat.zero_le _, Nat.zero_le _⟩ (by decide) h63 rfl rfl hl.1 rfl (Nat.le_of_ble_eq_true rfl) dX9_takesCaster_42 (fun r82 w83 H locs hp84 h => ?_)
        obtain ⟨ok85, kk86, hr87⟩ := hp84
        rcases hr87 with ⟨⟨y88, y89, y90, y91, h92, h93, h94, h95, h96, h97, h98, h99⟩, rfl⟩ | ⟨⟨h100, h101, h102⟩, rfl⟩
        · obtain ⟨g103, e104⟩ : ∃ z : Nat → Int32, upd g74 2 y62 = z := ⟨_, rfl⟩
          rw [e104] at h98
          have p105 : anyA g103 := trivial
          have k106 : (0 : Int32).toInt = 0 := rfl
          have k107 : (3 : Int32).toInt = 3 := rfl
          have q108 : y61.toInt = 2 ∧ (0 : Int32).toInt ≤ y62.toInt ∧ y62.toInt ≤ (3 : Int32).toInt := by have a9 := h99.1; have b9 := h99.2.1; have c9 := h99.2.2; rw [← h68.2.2.1] at a9; rw [← h68.2.2.2 a9] at b9 c9; exact ⟨a9, b9, c9⟩
          have h99 : numK bs bl.toNatClampNeg (tE bs bl.toNatClampNeg (tE bs bl.toNatClampNeg (tE bs bl.toNatClampNeg p0))) 0 3 := h99
          have kx109 : KN w w83 := KN.tr kx80 (F7.m kk86 h63 h92).n
          refine lv_if_ne (tgt := 50) hx hb dX9_takesCaster_45 (by decide) (fun _ => ?_) (fun hc => absurd hc (by decide))
          refine lv_aload_n hx hb dX9_takesCaster_50 rfl (lv_at hl 0 rfl) ?_
          refine r_get kc9 X h 64 15 (by decide) rfl h92 (by decide) kv_683 rfl dX9_takesCaster_51 ?_
          refine lv_aload_n hx hb dX9_takesCaster_54 rfl (lv_at hl 0 rfl) ?_
          refine r_get kc9 X h 64 16 (by decide) rfl h92 (by decide) kv_678 rfl dX9_takesCaster_55 ?_
          refine lv_iconst (v := 0) hx hb dX9_takesCaster_58 (by decide) ?_
          have e110 : g103 0 = y11 := by rw [← e104, pk_un (by decide), ← e75, pk_un (by decide), ← e46, pk_us]
          refine o_iald (v := y11) X h 73 0 (by decide) rfl h98 rfl (by unfold vp_in; decide) e110 dX9_takesCaster_59 ?_
          refine lv_aload_n hx hb dX9_takesCaster_60 rfl (lv_at hl 0 rfl) ?_
          refine r_get kc9 X h 64 16 (by decide) rfl h92 (by decide) kv_678 rfl dX9_takesCaster_61 ?_
          refine lv_iconst (v := 1) hx hb dX9_takesCaster_64 (by decide) ?_
          have e111 : g103 1 = y33 := by rw [← e104, pk_un (by decide), ← e75, pk_us]
          refine o_iald (v := y33) X h 73 0 (by decide) rfl h98 rfl (by unfold vp_in; decide) e111 dX9_takesCaster_65 ?_
          refine lv_aload_n hx hb dX9_takesCaster_66 rfl (lv_at hl 0 rfl) ?_
          refine r_get kc9 X h 64 16 (by decide) rfl h92 (by decide) kv_678 rfl dX9_takesCaster_67 ?_
          refine lv_iconst (v := 2) hx hb dX9_takesCaster_70 (by decide) ?_
          have e112 : g103 2 = y62 := by rw [← e104, pk_us]
          refine o_iald (v := y62) X h 73 0 (by decide) rfl h98 rfl (by unfold vp_in; decide) e112 dX9_takesCaster_71 ?_
          have f113 : w3 72 = .inl (cI, 89, .inl f) := (kk6 72 (by decide)).trans p72
          have f114 : w25 72 = .inl (cI, 89, .inl f) := (kk28 72 (by decide) (by decide)).trans f113
          have f115 : w54 72 = .inl (cI, 89, .inl f) := (kk57 72 (by decide) (by decide)).trans f114
          have f116 : w83 72 = .inl (cI, 89, .inl f) := (kk86 72 (by decide) (by decide)).trans f115
          refine n_Sv (na := 4) (As := [.ref (ad 72), .int y11, .int y33, .int y62]) (rest := []) X hD hN h (c_MF_layCaster72 l G cI cB cZ cO ad w83 f ok85 y11 y33 y62  f116 pal (by rw [ev0]; omega)) ⟨kv_641, kv_642, kv_470, kv_643⟩ ⟨by decide, by decide, by decide⟩ ⟨Nat.le_of_ble_eq_true rfl, Nat.le_of_ble_eq_true rfl⟩ ⟨Nat.zero_le _, Nat.zero_le _⟩ rfl hl.1 rfl (Nat.le_of_ble_eq_true rfl) dX9_takesCaster_72 (fun w118 H locs hp119 h => ?_)
          obtain ⟨ok121, kk122, hr120⟩ := hp119
          have kx123 : KN w w118 := KN.tr kx109 kk122.1.n
          obtain ⟨g124, e125⟩ : ∃ z : Nat → Int32, layCF f y11 y33 y62 = z := ⟨_, rfl⟩
          rw [e125] at hr120
          have p126 : alA g124 := (alA_of65 ok121 (Or.inr (Or.inr rfl)) hr120).1
          refine lv_iconst (v := 1) hx hb dX9_takesCaster_75 (by decide) ?_
          have f127 : w118 64 = .inr (7, [.ref (ad 65), .ref (ad 66), .ref (ad 67), .ref (ad 68), .long x, .long y, .ref (ad 69), .int mb, .ref (ad 70), .ref (ad 71), .int bl, .int y88, .int y89, .int y90, .int y91, .ref (ad 72), .ref (ad 73)]) := (kk122.2 64 (by decide)).trans h92
          have i129 : iv (tV bs bl.toNatClampNeg (tE bs bl.toNatClampNeg p0)) = y11 := iv_of (h17.2.2.2 (by omega)).symm
          have i130 : iv (tV bs bl.toNatClampNeg (tE bs bl.toNatClampNeg (tE bs bl.toNatClampNeg p0))) = y33 := iv_of (h39.2.2.2 (by omega)).symm
          have i131 : iv (tV bs bl.toNatClampNeg (tE bs bl.toNatClampNeg (tE bs bl.toNatClampNeg (tE bs bl.toNatClampNeg p0)))) = y62 := iv_of (h68.2.2.2 (by omega)).symm
          have hjt128 : jt1 bs bl.toNatClampNeg (tE bs bl.toNatClampNeg p0) f = .inr ((tE bs bl.toNatClampNeg (tE bs bl.toNatClampNeg (tE bs bl.toNatClampNeg (tE bs bl.toNatClampNeg p0)))), g124) := by
            unfold jt1
            rw [pick_y h41, pick_y h70, pick_y h99, i129, i130, i131, e125]
          exact e_n X h hr hlk rfl dX9_takesCaster_76 ⟨ok121, kx123, ⟨⟨(kk122.2 65 (by decide)).trans ((kk86 65 (by decide) (by decide)).trans ((kk57 65 (by decide) (by decide)).trans ((kk28 65 (by decide) (by decide)).trans (kk6 65 (by decide))))), (kk122.2 66 (by decide)).trans ((kk86 66 (by decide) (by decide)).trans ((kk57 66 (by decide) (by decide)).trans ((kk28 66 (by decide) (by decide)).trans (kk6 66 (by decide)))))⟩, Or.inl ⟨by omega, ⟨_, _, _, _, f127, by omega, by omega, by omega, by omega, Or.inl ⟨⟨_, _, h97, hr120, hjt128, by omega⟩, rfl⟩⟩⟩⟩⟩
        · have f132 : w83 64 = .inr (7, [.ref (ad 65), .ref (ad 66), .ref (ad 67), .ref (ad 68), .long x, .long y, .ref (ad 69), .int mb, .ref (ad 70), .ref (ad 71), .int bl, .int y59, .int y60, .int y61, .int y62, .ref (ad 72), .ref (ad 73)]) := h100.trans h63
          have h102 : ¬ numK bs bl.toNatClampNeg (tE bs bl.toNatClampNeg (tE bs bl.toNatClampNeg (tE bs bl.toNatClampNeg p0))) 0 3 := h102
          have kx133 : KN w w83 := KN.tr kx80 (F7.m kk86 h63 f132).n
          refine lv_if_ne (tgt := 50) hx hb dX9_takesCaster_45 (by decide) (fun hc => absurd (by decide) hc) (fun _ => ?_)
          refine lv_iconst (v := 0) hx hb dX9_takesCaster_48 (by decide) ?_
          have hjt134 : jt1 bs bl.toNatClampNeg (tE bs bl.toNatClampNeg p0) f = .inl y59.toNatClampNeg := by
            unfold jt1
            rw [pick_y h41, pick_y h70, pick_n h102]
            have t9 := h68.1
            have t8 := cl_of (x := y59) (by omega)
            congr 1; omega
          exact e_n X h hr hlk rfl dX9_takesCaster_49 ⟨ok85, kx133, ⟨⟨(kk86 65 (by decide) (by decide)).trans ((kk57 65 (by decide) (by decide)).trans ((kk28 65 (by decide) (by decide)).trans (kk6 65 (by decide)))), (kk86 66 (by decide) (by decide)).trans ((kk57 66 (by decide) (by decide)).trans ((kk28 66 (by decide) (by decide)).trans (kk6 66 (by decide))))⟩, Or.inl ⟨by omega, ⟨_, _, _, _, f132, by omega, by omega, by omega, by omega, Or.inr ⟨hjt134, rfl⟩⟩⟩⟩⟩
      · have f135 : w54 64 = .inr (7, [.ref (ad 65), .ref (ad 66), .ref (ad 67), .ref (ad 68), .long x, .long y, .ref (ad 69), .int mb, .ref (ad 70), .ref (ad 71), .int bl, .int y30, .int y31, .int y32, .int y33, .ref (ad 72), .ref (ad 73)]) := h71.trans h34
        have h73 : ¬ numK bs bl.toNatClampNeg (tE bs bl.toNatClampNeg (tE bs bl.toNatClampNeg p0)) 1 9 := h73
        have kx136 : KN w w54 := KN.tr kx51 (F7.m kk57 h34 f135).n
        refine lv_if_eq (tgt := 48) hx hb dX9_takesCaster_35 (by decide) (fun _ => ?_) (fun hc => absurd (by decide) hc)
        refine lv_iconst (v := 0) hx hb dX9_takesCaster_48 (by decide) ?_
        have hjt137 : jt1 bs bl.toNatClampNeg (tE bs bl.toNatClampNeg p0) f = .inl y30.toNatClampNeg := by
          unfold jt1
          rw [pick_y h41, pick_n h73]
          have t9 := h39.1
          have t8 := cl_of (x := y30) (by omega)
          congr 1; omega
        exact e_n X h hr hlk rfl dX9_takesCaster_49 ⟨ok56, kx136, ⟨⟨(kk57 65 (by decide) (by decide)).trans ((kk28 65 (by decide) (by decide)).trans (kk6 65 (by decide))), (kk57 66 (by decide) (by decide)).trans ((kk28 66 (by decide) (by decide)).trans (kk6 66 (by decide)))⟩, Or.inl ⟨by omega, ⟨_, _, _, _, f135, by omega, by omega, by omega, by omega, Or.inr ⟨hjt137, rfl⟩⟩⟩⟩⟩
    · have f138 : w25 64 = .inr (7, [.ref (ad 65), .ref (ad 66), .ref (ad 67), .ref (ad 68), .long x, .long y, .ref (ad 69), .int mb, .ref (ad 70), .ref (ad 71), .int bl, .int y8, .int y9, .int y10, .int y11, .ref (ad 72), .ref (ad 73)]) := h42.trans h12
      have h44 : ¬ numK bs bl.toNatClampNeg (tE bs bl.toNatClampNeg p0) 0 5 := h44
      have kx139 : KN w w25 := KN.tr kx18 (F7.m kk28 h12 f138).n
      refine lv_if_eq (tgt := 48) hx hb dX9_takesCaster_24 (by decide) (fun _ => ?_) (fun hc => absurd (by decide) hc)
      refine lv_iconst (v := 0) hx hb dX9_takesCaster_48 (by decide) ?_
      have hjt140 : jt1 bs bl.toNatClampNeg (tE bs bl.toNatClampNeg p0) f = .inl y8.toNatClampNeg := by
        unfold jt1
        rw [pick_n h44]
        have t9 := h17.1
        have t8 := cl_of (x := y8) (by omega)
        congr 1; omega
      exact e_n X h hr hlk rfl dX9_takesCaster_49 ⟨ok27, kx139, ⟨⟨(kk28 65 (by decide) (by decide)).trans (kk6 65 (by decide)), (kk28 66 (by decide) (by decide)).trans (kk6 66 (by decide))⟩, Or.inl ⟨by omega, ⟨_, _, _, _, f138, by omega, by omega, by omega, by omega, Or.inr ⟨hjt140, rfl⟩⟩⟩⟩⟩
  · have hc1 : (v0).toInt = 7 := i_eq hc1 rfl rfl
    refine lv_iconst (v := 0) hx hb dX9_takesCaster_11 (by decide) ?_
    exact e_n X h hr hlk rfl dX9_takesCaster_12 ⟨ok, KN.rf, ⟨⟨rfl, rfl⟩, Or.inr ⟨by omega, rfl, rfl⟩⟩⟩

set_option maxHeartbeats 4000000 in
set_option maxRecDepth 100000 in
theorem c_MF_takesJar (l : Launch) (G : va_G) (cI cB cZ cO : ClassId) (ad : Nat → Nat) (w : Nat → va_E) (x y : Int64) (mb bl ta tl tk va : Int32) (bs : Nat → Int32) (p0 : Nat) (f : Nat → Int32) (ok : OK cI cB cZ cO ad w)   (pf : w 64 = .inr (7, [.ref (ad 65), .ref (ad 66), .ref (ad 67), .ref (ad 68), .long x, .long y, .ref (ad 69), .int mb, .ref (ad 70), .ref (ad 71), .int bl, .int ta, .int tl, .int tk, .int va, .ref (ad 72), .ref (ad 73)])) (hbl0 : 0 ≤ bl.toInt) (hbl1 : bl.toInt ≤ 150) (p71 : w 71 = .inl (cI, 150, .inl bs)) (hta : 0 ≤ ta.toInt) (htl : 0 ≤ tl.toInt) (htb : ta.toInt + tl.toInt ≤ bl.toInt) (hAT : AT bs bl.toNatClampNeg p0 ta tl tk va) (p72 : w 72 = .inl (cI, 89, .inl f)) (pal : alA f) : NI l G (tyq cI cB cZ cO) yX9_takesJar cX9_takesJar 1 (some .boolean) 5 112 74 ad w [.ref (ad 64)] (fun r w1 => OK cI cB cZ cO ad w1 ∧ KN w w1 ∧ (w1 65 = w 65 ∧ w1 66 = w 66) ∧ (((f 1).toInt < 4 ∧ (∃ ta1 tl1 tk1 va1 : Int32, w1 64 = .inr (7, [.ref (ad 65), .ref (ad 66), .ref (ad 67), .ref (ad 68), .long x, .long y, .ref (ad 69), .int mb, .ref (ad 70), .ref (ad 71), .int bl, .int ta1, .int tl1, .int tk1, .int va1, .ref (ad 72), .ref (ad 73)]) ∧ 0 ≤ ta1.toInt ∧ 0 ≤ tl1.toInt ∧ ta1.toInt + tl1.toInt ≤ bl.toInt ∧ (tk1.toInt = 0 ∨ 1 ≤ tl1.toInt) ∧ ((∃ (q : Nat) (f1 : Nat → Int32), AT bs bl.toNatClampNeg q ta1 tl1 tk1 va1 ∧ w1 72 = .inl (cI, 89, .inl f1) ∧ jt2 bs bl.toNatClampNeg (tE bs bl.toNatClampNeg p0) f = .inr (q, f1) ∧ ta.toInt + tl.toInt ≤ ta1.toInt) ∧ r = 1 ∨ jt2 bs bl.toNatClampNeg (tE bs bl.toNatClampNeg p0) f = .inl ta1.toNatClampNeg ∧ r = 0))) ∨ (4 ≤ (f 1).toInt ∧ w1 64 = w 64 ∧ r = 0))) := by
  refine nk_i (own := "NoonShadeModel") rfl (by decide) (Nat.le_of_ble_eq_true rfl) ?_
  intro p e s m below meth c ls X hD hN hr hlk h hl
  have hx := X.1.1
  have hb := X.1.2.1
  have hown := X.1.2.2.2.1
  have hts := X.1.2.2.2.2
  have hl : lv_has ls 1 [(0, .ref (ad 64))] := hl
  have kq0 : (0 : Int32).toInt = 0 := rfl
  have kq1 : (1 : Int32).toInt = 1 := rfl
  have kq2 : (2 : Int32).toInt = 2 := rfl
  have kq3 : (3 : Int32).toInt = 3 := rfl
  have kq4 : (4 : Int32).toInt = 4 := rfl
  obtain ⟨v0, ev0⟩ : ∃ z : Int32, f 1 = z := ⟨_, rfl⟩
  have hv0 := (alA_rd pal ev0).2.1 rfl
  have hv9 := congrArg Int32.toInt ev0
  refine lv_aload_n hx hb dX9_takesJar_0 rfl (lv_at hl 0 rfl) ?_
  refine r_get kc9 X h 64 15 (by decide) rfl pf (by decide) kv_683 rfl dX9_takesJar_1 ?_
  refine lv_iconst (v := 1) hx hb dX9_takesJar_4 (by decide) ?_
  refine o_iald (v := v0) X h 72 0 (by decide) rfl p72 rfl (by unfold vp_in; decide) ev0 dX9_takesJar_5 ?_
  refine lv_iconst (v := 4) hx hb dX9_takesJar_6 (by decide) ?_
  refine lv_icmp_ne (tgt := 12) hx hb dX9_takesJar_7 (by decide) (fun hc1 => ?_) (fun hc1 => ?_)
  · have hc1 : ¬ (v0).toInt = 4 := i_ne hc1 rfl rfl
    refine lv_aload_n hx hb dX9_takesJar_12 rfl (lv_at hl 0 rfl) ?_
    refine n_Vv (na := 0) (As := []) (rest := []) X hD hN h rfl (c_MF_goBehind l G cI cB cZ cO ad w x y mb bl ta tl tk va bs p0 ok pf (by omega) (by omega) p71 (by omega) (by omega) (by omega) hAT) ⟨kv_679, kv_680, kv_681, kv_470, kv_682⟩ rfl ⟨by decide, by decide, by decide⟩ ⟨Nat.le_of_ble_eq_true rfl, Nat.le_of_ble_eq_true rfl⟩ ⟨Nat.zero_le _, Nat.zero_le _⟩ (by decide) pf rfl rfl hl.1 rfl (Nat.le_of_ble_eq_true rfl) dX9_takesJar_13 (fun w3 H locs hp4 h => ?_)
    obtain ⟨ok5, kk6, hr7⟩ := hp4
    obtain ⟨y8, y9, y10, y11, h12, h13, h14, h15, h16, h17⟩ := hr7
    have kx18 : KN w w3 := KN.tr KN.rf (F7.m kk6.f7 pf h12).n
    refine lv_aload_n hx hb dX9_takesJar_16 rfl (lv_at hl 0 rfl) ?_
    refine lv_iconst (v := 0) hx hb dX9_takesJar_17 (by decide) ?_
    refine lv_iconst (v := 0) hx hb dX9_takesJar_18 (by decide) ?_
    refine lv_iconst (v := 5) hx hb dX9_takesJar_19 (by decide) ?_
    have f19 : w3 71 = .inl (cI, 150, .inl bs) := (kk6 71 (by decide)).trans p71
    obtain ⟨g21, f20, p22⟩ := (show sA cI 3 (anyA) (w3 73) from ok5 73 (by decide))
    have f23 : w3 73 = .inl (cI, 3, .inl g21) := f20
    refine n_Vi (na := 3) (As := [.int 0, .int 0, .int 5]) (rest := []) X hD hN h rfl (c_MF_takes0 l G cI cB cZ cO ad w3 x y mb bl y8 y9 y10 y11 bs (tE bs bl.toNatClampNeg p0) g21 ok5 (0 : Int32) (5 : Int32) h12 (by omega) (by omega) f19 (by omega) (by omega) (by omega) h17 f23) ⟨kv_684, kv_685, kv_686, kv_470, kv_687⟩ rfl ⟨by decide, by decide, by decide⟩ ⟨Nat.le_of_ble_eq_true rfl, Nat.le_of_ble_eq_true rfl⟩ ⟨Nat.zero_le _, Nat.zero_le _⟩ (by decide) h12 rfl rfl hl.1 rfl (Nat.le_of_ble_eq_true rfl) dX9_takesJar_20 (fun r24 w25 H locs hp26 h => ?_)
    obtain ⟨ok27, kk28, hr29⟩ := hp26
    rcases hr29 with ⟨⟨y30, y31, y32, y33, h34, h35, h36, h37, h38, h39, h40, h41⟩, rfl⟩ | ⟨⟨h42, h43, h44⟩, rfl⟩
    · obtain ⟨g45, e46⟩ : ∃ z : Nat → Int32, upd g21 0 y11 = z := ⟨_, rfl⟩
      rw [e46] at h40
      have p47 : anyA g45 := trivial
      have k48 : (0 : Int32).toInt = 0 := rfl
      have k49 : (5 : Int32).toInt = 5 := rfl
      have q50 : y10.toInt = 2 ∧ (0 : Int32).toInt ≤ y11.toInt ∧ y11.toInt ≤ (5 : Int32).toInt := by have a9 := h41.1; have b9 := h41.2.1; have c9 := h41.2.2; rw [← h17.2.2.1] at a9; rw [← h17.2.2.2 a9] at b9 c9; exact ⟨a9, b9, c9⟩
      have h41 : numK bs bl.toNatClampNeg (tE bs bl.toNatClampNeg p0) 0 5 := h41
      have kx51 : KN w w25 := KN.tr kx18 (F7.m kk28 h12 h34).n
      refine lv_if_ne (tgt := 28) hx hb dX9_takesJar_23 (by decide) (fun _ => ?_) (fun hc => absurd hc (by decide))
      refine lv_aload_n hx hb dX9_takesJar_28 rfl (lv_at hl 0 rfl) ?_
      refine r_get kc9 X h 64 15 (by decide) rfl h34 (by decide) kv_683 rfl dX9_takesJar_29 ?_
      refine lv_aload_n hx hb dX9_takesJar_32 rfl (lv_at hl 0 rfl) ?_
      refine r_get kc9 X h 64 16 (by decide) rfl h34 (by decide) kv_678 rfl dX9_takesJar_33 ?_
      refine lv_iconst (v := 0) hx hb dX9_takesJar_36 (by decide) ?_
      have e52 : g45 0 = y11 := by rw [← e46, pk_us]
      refine o_iald (v := y11) X h 73 0 (by decide) rfl h40 rfl (by unfold vp_in; decide) e52 dX9_takesJar_37 ?_
      have f53 : w3 72 = .inl (cI, 89, .inl f) := (kk6 72 (by decide)).trans p72
      have f54 : w25 72 = .inl (cI, 89, .inl f) := (kk28 72 (by decide) (by decide)).trans f53
      refine n_Sv (na := 2) (As := [.ref (ad 72), .int y11]) (rest := []) X hD hN h (c_MF_layJar72 l G cI cB cZ cO ad w25 f ok27 y11  f54 pal (by rw [ev0]; omega)) ⟨kv_648, kv_649, kv_470, kv_650⟩ ⟨by decide, by decide, by decide⟩ ⟨Nat.le_of_ble_eq_true rfl, Nat.le_of_ble_eq_true rfl⟩ ⟨Nat.zero_le _, Nat.zero_le _⟩ rfl hl.1 rfl (Nat.le_of_ble_eq_true rfl) dX9_takesJar_38 (fun w56 H locs hp57 h => ?_)
      obtain ⟨ok59, kk60, hr58⟩ := hp57
      have kx61 : KN w w56 := KN.tr kx51 kk60.1.n
      obtain ⟨g62, e63⟩ : ∃ z : Nat → Int32, layJF f y11 = z := ⟨_, rfl⟩
      rw [e63] at hr58
      have p64 : alA g62 := (alA_of65 ok59 (Or.inr (Or.inr rfl)) hr58).1
      refine lv_iconst (v := 1) hx hb dX9_takesJar_41 (by decide) ?_
      have f65 : w56 64 = .inr (7, [.ref (ad 65), .ref (ad 66), .ref (ad 67), .ref (ad 68), .long x, .long y, .ref (ad 69), .int mb, .ref (ad 70), .ref (ad 71), .int bl, .int y30, .int y31, .int y32, .int y33, .ref (ad 72), .ref (ad 73)]) := (kk60.2 64 (by decide)).trans h34
      have i67 : iv (tV bs bl.toNatClampNeg (tE bs bl.toNatClampNeg p0)) = y11 := iv_of (h17.2.2.2 (by omega)).symm
      have hjt66 : jt2 bs bl.toNatClampNeg (tE bs bl.toNatClampNeg p0) f = .inr ((tE bs bl.toNatClampNeg (tE bs bl.toNatClampNeg p0)), g62) := by
        unfold jt2
        rw [pick_y h41, i67, e63]
      exact e_n X h hr hlk rfl dX9_takesJar_42 ⟨ok59, kx61, ⟨⟨(kk60.2 65 (by decide)).trans ((kk28 65 (by decide) (by decide)).trans (kk6 65 (by decide))), (kk60.2 66 (by decide)).trans ((kk28 66 (by decide) (by decide)).trans (kk6 66 (by decide)))⟩, Or.inl ⟨by omega, ⟨_, _, _, _, f65, by omega, by omega, by omega, by omega, Or.inl ⟨⟨_, _, h39, hr58, hjt66, by omega⟩, rfl⟩⟩⟩⟩⟩
    · have f68 : w25 64 = .inr (7, [.ref (ad 65), .ref (ad 66), .ref (ad 67), .ref (ad 68), .long x, .long y, .ref (ad 69), .int mb, .ref (ad 70), .ref (ad 71), .int bl, .int y8, .int y9, .int y10, .int y11, .ref (ad 72), .ref (ad 73)]) := h42.trans h12
      have h44 : ¬ numK bs bl.toNatClampNeg (tE bs bl.toNatClampNeg p0) 0 5 := h44
      have kx69 : KN w w25 := KN.tr kx18 (F7.m kk28 h12 f68).n
      refine lv_if_ne (tgt := 28) hx hb dX9_takesJar_23 (by decide) (fun hc => absurd (by decide) hc) (fun _ => ?_)
      refine lv_iconst (v := 0) hx hb dX9_takesJar_26 (by decide) ?_
      have hjt70 : jt2 bs bl.toNatClampNeg (tE bs bl.toNatClampNeg p0) f = .inl y8.toNatClampNeg := by
        unfold jt2
        rw [pick_n h44]
        have t9 := h17.1
        have t8 := cl_of (x := y8) (by omega)
        congr 1; omega
      exact e_n X h hr hlk rfl dX9_takesJar_27 ⟨ok27, kx69, ⟨⟨(kk28 65 (by decide) (by decide)).trans (kk6 65 (by decide)), (kk28 66 (by decide) (by decide)).trans (kk6 66 (by decide))⟩, Or.inl ⟨by omega, ⟨_, _, _, _, f68, by omega, by omega, by omega, by omega, Or.inr ⟨hjt70, rfl⟩⟩⟩⟩⟩
  · have hc1 : (v0).toInt = 4 := i_eq hc1 rfl rfl
    refine lv_iconst (v := 0) hx hb dX9_takesJar_10 (by decide) ?_
    exact e_n X h hr hlk rfl dX9_takesJar_11 ⟨ok, KN.rf, ⟨⟨rfl, rfl⟩, Or.inr ⟨by omega, rfl, rfl⟩⟩⟩

set_option maxHeartbeats 4000000 in
set_option maxRecDepth 100000 in
theorem c_MF_takesHours (l : Launch) (G : va_G) (cI cB cZ cO : ClassId) (ad : Nat → Nat) (w : Nat → va_E) (x y : Int64) (mb bl ta tl tk va : Int32) (bs : Nat → Int32) (p0 : Nat) (f : Nat → Int32) (ok : OK cI cB cZ cO ad w)   (pf : w 64 = .inr (7, [.ref (ad 65), .ref (ad 66), .ref (ad 67), .ref (ad 68), .long x, .long y, .ref (ad 69), .int mb, .ref (ad 70), .ref (ad 71), .int bl, .int ta, .int tl, .int tk, .int va, .ref (ad 72), .ref (ad 73)])) (hbl0 : 0 ≤ bl.toInt) (hbl1 : bl.toInt ≤ 150) (p71 : w 71 = .inl (cI, 150, .inl bs)) (hta : 0 ≤ ta.toInt) (htl : 0 ≤ tl.toInt) (htb : ta.toInt + tl.toInt ≤ bl.toInt) (hAT : AT bs bl.toNatClampNeg p0 ta tl tk va) (p72 : w 72 = .inl (cI, 89, .inl f)) (pal : alA f) : NI l G (tyq cI cB cZ cO) yX9_takesHours cX9_takesHours 1 (some .boolean) 5 112 74 ad w [.ref (ad 64)] (fun r w1 => OK cI cB cZ cO ad w1 ∧ KN w w1 ∧ (w1 65 = w 65 ∧ w1 66 = w 66) ∧ (∃ ta1 tl1 tk1 va1 : Int32, w1 64 = .inr (7, [.ref (ad 65), .ref (ad 66), .ref (ad 67), .ref (ad 68), .long x, .long y, .ref (ad 69), .int mb, .ref (ad 70), .ref (ad 71), .int bl, .int ta1, .int tl1, .int tk1, .int va1, .ref (ad 72), .ref (ad 73)]) ∧ 0 ≤ ta1.toInt ∧ 0 ≤ tl1.toInt ∧ ta1.toInt + tl1.toInt ≤ bl.toInt ∧ (tk1.toInt = 0 ∨ 1 ≤ tl1.toInt) ∧ ((∃ (q : Nat) (f1 : Nat → Int32), AT bs bl.toNatClampNeg q ta1 tl1 tk1 va1 ∧ w1 72 = .inl (cI, 89, .inl f1) ∧ jt5 bs bl.toNatClampNeg (tE bs bl.toNatClampNeg p0) f = .inr (q, f1) ∧ ta.toInt + tl.toInt ≤ ta1.toInt) ∧ r = 1 ∨ jt5 bs bl.toNatClampNeg (tE bs bl.toNatClampNeg p0) f = .inl ta1.toNatClampNeg ∧ r = 0))) := by
  refine nk_i (own := "NoonShadeModel") rfl (by decide) (Nat.le_of_ble_eq_true rfl) ?_
  intro p e s m below meth c ls X hD hN hr hlk h hl
  have hx := X.1.1
  have hb := X.1.2.1
  have hown := X.1.2.2.2.1
  have hts := X.1.2.2.2.2
  have hl : lv_has ls 1 [(0, .ref (ad 64))] := hl
  have kq0 : (0 : Int32).toInt = 0 := rfl
  have kq1 : (1 : Int32).toInt = 1 := rfl
  have kq2 : (2 : Int32).toInt = 2 := rfl
  have kq3 : (3 : Int32).toInt = 3 := rfl
  have kq4 : (4 : Int32).toInt = 4 := rfl
  refine lv_aload_n hx hb dX9_takesHours_0 rfl (lv_at hl 0 rfl) ?_
  refine n_Vv (na := 0) (As := []) (rest := []) X hD hN h rfl (c_MF_goBehind l G cI cB cZ cO ad w x y mb bl ta tl tk va bs p0 ok pf (by omega) (by omega) p71 (by omega) (by omega) (by omega) hAT) ⟨kv_679, kv_680, kv_681, kv_470, kv_682⟩ rfl ⟨by decide, by decide, by decide⟩ ⟨Nat.le_of_ble_eq_true rfl, Nat.le_of_ble_eq_true rfl⟩ ⟨Nat.zero_le _, Nat.zero_le _⟩ (by decide) pf rfl rfl hl.1 rfl (Nat.le_of_ble_eq_true rfl) dX9_takesHours_1 (fun w2 H locs hp3 h => ?_)
  obtain ⟨ok4, kk5, hr6⟩ := hp3
  obtain ⟨y7, y8, y9, y10, h11, h12, h13, h14, h15, h16⟩ := hr6
  have kx17 : KN w w2 := KN.tr KN.rf (F7.m kk5.f7 pf h11).n
  refine lv_aload_n hx hb dX9_takesHours_4 rfl (lv_at hl 0 rfl) ?_
  refine lv_iconst (v := 0) hx hb dX9_takesHours_5 (by decide) ?_
  refine lv_iconst (v := 1) hx hb dX9_takesHours_6 (by decide) ?_
  refine lv_bipush (v := 99) hx hb dX9_takesHours_7 (by decide) ?_
  have f18 : w2 71 = .inl (cI, 150, .inl bs) := (kk5 71 (by decide)).trans p71
  obtain ⟨g20, f19, p21⟩ := (show sA cI 3 (anyA) (w2 73) from ok4 73 (by decide))
  have f22 : w2 73 = .inl (cI, 3, .inl g20) := f19
  refine n_Vi (na := 3) (As := [.int 0, .int 1, .int 99]) (rest := []) X hD hN h rfl (c_MF_takes0 l G cI cB cZ cO ad w2 x y mb bl y7 y8 y9 y10 bs (tE bs bl.toNatClampNeg p0) g20 ok4 (1 : Int32) (99 : Int32) h11 (by omega) (by omega) f18 (by omega) (by omega) (by omega) h16 f22) ⟨kv_684, kv_685, kv_686, kv_470, kv_687⟩ rfl ⟨by decide, by decide, by decide⟩ ⟨Nat.le_of_ble_eq_true rfl, Nat.le_of_ble_eq_true rfl⟩ ⟨Nat.zero_le _, Nat.zero_le _⟩ (by decide) h11 rfl rfl hl.1 rfl (Nat.le_of_ble_eq_true rfl) dX9_takesHours_9 (fun r23 w24 H locs hp25 h => ?_)
  obtain ⟨ok26, kk27, hr28⟩ := hp25
  rcases hr28 with ⟨⟨y29, y30, y31, y32, h33, h34, h35, h36, h37, h38, h39, h40⟩, rfl⟩ | ⟨⟨h41, h42, h43⟩, rfl⟩
  · obtain ⟨g44, e45⟩ : ∃ z : Nat → Int32, upd g20 0 y10 = z := ⟨_, rfl⟩
    rw [e45] at h39
    have p46 : anyA g44 := trivial
    have k47 : (1 : Int32).toInt = 1 := rfl
    have k48 : (99 : Int32).toInt = 99 := rfl
    have q49 : y9.toInt = 2 ∧ (1 : Int32).toInt ≤ y10.toInt ∧ y10.toInt ≤ (99 : Int32).toInt := by have a9 := h40.1; have b9 := h40.2.1; have c9 := h40.2.2; rw [← h16.2.2.1] at a9; rw [← h16.2.2.2 a9] at b9 c9; exact ⟨a9, b9, c9⟩
    have h40 : numK bs bl.toNatClampNeg (tE bs bl.toNatClampNeg p0) 1 99 := h40
    have kx50 : KN w w24 := KN.tr kx17 (F7.m kk27 h11 h33).n
    refine lv_if_ne (tgt := 17) hx hb dX9_takesHours_12 (by decide) (fun _ => ?_) (fun hc => absurd hc (by decide))
    refine lv_aload_n hx hb dX9_takesHours_17 rfl (lv_at hl 0 rfl) ?_
    refine r_get kc9 X h 64 15 (by decide) rfl h33 (by decide) kv_683 rfl dX9_takesHours_18 ?_
    refine lv_aload_n hx hb dX9_takesHours_21 rfl (lv_at hl 0 rfl) ?_
    refine r_get kc9 X h 64 16 (by decide) rfl h33 (by decide) kv_678 rfl dX9_takesHours_22 ?_
    refine lv_iconst (v := 0) hx hb dX9_takesHours_25 (by decide) ?_
    have e51 : g44 0 = y10 := by rw [← e45, pk_us]
    refine o_iald (v := y10) X h 73 0 (by decide) rfl h39 rfl (by unfold vp_in; decide) e51 dX9_takesHours_26 ?_
    have f52 : w2 72 = .inl (cI, 89, .inl f) := (kk5 72 (by decide)).trans p72
    have f53 : w24 72 = .inl (cI, 89, .inl f) := (kk27 72 (by decide) (by decide)).trans f52
    refine n_Sv (na := 2) (As := [.ref (ad 72), .int y10]) (rest := []) X hD hN h (c_MF_goHours l G cI cB cZ cO ad w24 72 (Or.inr (Or.inr rfl)) 89 f ok26 y10  f53 pal (by decide)) ⟨kv_560, kv_561, kv_470, kv_562⟩ ⟨by decide, by decide, by decide⟩ ⟨Nat.le_of_ble_eq_true rfl, Nat.le_of_ble_eq_true rfl⟩ ⟨Nat.zero_le _, Nat.zero_le _⟩ rfl hl.1 rfl (Nat.le_of_ble_eq_true rfl) dX9_takesHours_27 (fun w55 H locs hp56 h => ?_)
    obtain ⟨ok58, kk59, hr57⟩ := hp56
    have kx60 : KN w w55 := KN.tr kx50 kk59.1.n
    obtain ⟨g61, e62⟩ : ∃ z : Nat → Int32, goHsF y10.toNatClampNeg f = z := ⟨_, rfl⟩
    rw [e62] at hr57
    have p63 : alA g61 := (alA_of65 ok58 (Or.inr (Or.inr rfl)) hr57).1
    refine lv_iconst (v := 1) hx hb dX9_takesHours_30 (by decide) ?_
    have f64 : w55 64 = .inr (7, [.ref (ad 65), .ref (ad 66), .ref (ad 67), .ref (ad 68), .long x, .long y, .ref (ad 69), .int mb, .ref (ad 70), .ref (ad 71), .int bl, .int y29, .int y30, .int y31, .int y32, .ref (ad 72), .ref (ad 73)]) := (kk59.2 64 (by decide)).trans h33
    have i66 : iv (tV bs bl.toNatClampNeg (tE bs bl.toNatClampNeg p0)) = y10 := iv_of (h16.2.2.2 (by omega)).symm
    have hjt65 : jt5 bs bl.toNatClampNeg (tE bs bl.toNatClampNeg p0) f = .inr ((tE bs bl.toNatClampNeg (tE bs bl.toNatClampNeg p0)), g61) := by
      unfold jt5
      rw [pick_y h40, i66, e62]
    exact e_n X h hr hlk rfl dX9_takesHours_31 ⟨ok58, kx60, ⟨⟨(kk59.2 65 (by decide)).trans ((kk27 65 (by decide) (by decide)).trans (kk5 65 (by decide))), (kk59.2 66 (by decide)).trans ((kk27 66 (by decide) (by decide)).trans (kk5 66 (by decide)))⟩, ⟨_, _, _, _, f64, by omega, by omega, by omega, by omega, Or.inl ⟨⟨_, _, h38, hr57, hjt65, by omega⟩, rfl⟩⟩⟩⟩
  · have f67 : w24 64 = .inr (7, [.ref (ad 65), .ref (ad 66), .ref (ad 67), .ref (ad 68), .long x, .long y, .ref (ad 69), .int mb, .ref (ad 70), .ref (ad 71), .int bl, .int y7, .int y8, .int y9, .int y10, .ref (ad 72), .ref (ad 73)]) := h41.trans h11
    have h43 : ¬ numK bs bl.toNatClampNeg (tE bs bl.toNatClampNeg p0) 1 99 := h43
    have kx68 : KN w w24 := KN.tr kx17 (F7.m kk27 h11 f67).n
    refine lv_if_ne (tgt := 17) hx hb dX9_takesHours_12 (by decide) (fun hc => absurd (by decide) hc) (fun _ => ?_)
    refine lv_iconst (v := 0) hx hb dX9_takesHours_15 (by decide) ?_
    have hjt69 : jt5 bs bl.toNatClampNeg (tE bs bl.toNatClampNeg p0) f = .inl y7.toNatClampNeg := by
      unfold jt5
      rw [pick_n h43]
      have t9 := h16.1
      have t8 := cl_of (x := y7) (by omega)
      congr 1; omega
    exact e_n X h hr hlk rfl dX9_takesHours_16 ⟨ok26, kx68, ⟨⟨(kk27 65 (by decide) (by decide)).trans (kk5 65 (by decide)), (kk27 66 (by decide) (by decide)).trans (kk5 66 (by decide))⟩, ⟨_, _, _, _, f67, by omega, by omega, by omega, by omega, Or.inr ⟨hjt69, rfl⟩⟩⟩⟩
