set_option maxHeartbeats 4000000 in
set_option maxRecDepth 100000 in
theorem c_MF_takesItem (l : Launch) (G : va_G) (cI cB cZ cO : ClassId) (ad : Nat → Nat) (w : Nat → va_E) (x y : Int64) (mb bl ta tl tk va : Int32) (bs : Nat → Int32) (p0 : Nat) (f : Nat → Int32) (ok : OK cI cB cZ cO ad w)   (pf : w 64 = .inr (7, [.ref (ad 65), .ref (ad 66), .ref (ad 67), .ref (ad 68), .long x, .long y, .ref (ad 69), .int mb, .ref (ad 70), .ref (ad 71), .int bl, .int ta, .int tl, .int tk, .int va, .ref (ad 72), .ref (ad 73)])) (hbl0 : 0 ≤ bl.toInt) (hbl1 : bl.toInt ≤ 150) (p71 : w 71 = .inl (cI, 150, .inl bs)) (hta : 0 ≤ ta.toInt) (htl : 0 ≤ tl.toInt) (htb : ta.toInt + tl.toInt ≤ bl.toInt) (hAT : AT bs bl.toNatClampNeg p0 ta tl tk va) (p72 : w 72 = .inl (cI, 89, .inl f)) (pal : alA f) (htk : tk.toInt = 0 ∨ 1 ≤ tl.toInt) : NI l G (tyq cI cB cZ cO) yX9_takesItem cX9_takesItem 1 (some .boolean) 6 133 74 ad w [.ref (ad 64)] (fun r w1 => OK cI cB cZ cO ad w1 ∧ KN w w1 ∧ (w1 65 = w 65 ∧ w1 66 = w 66) ∧ (∃ ta1 tl1 tk1 va1 : Int32, w1 64 = .inr (7, [.ref (ad 65), .ref (ad 66), .ref (ad 67), .ref (ad 68), .long x, .long y, .ref (ad 69), .int mb, .ref (ad 70), .ref (ad 71), .int bl, .int ta1, .int tl1, .int tk1, .int va1, .ref (ad 72), .ref (ad 73)]) ∧ 0 ≤ ta1.toInt ∧ 0 ≤ tl1.toInt ∧ ta1.toInt + tl1.toInt ≤ bl.toInt ∧ (tk1.toInt = 0 ∨ 1 ≤ tl1.toInt) ∧ ((∃ (q : Nat) (f1 : Nat → Int32), AT bs bl.toNatClampNeg q ta1 tl1 tk1 va1 ∧ w1 72 = .inl (cI, 89, .inl f1) ∧ jtemF bs bl.toNatClampNeg p0 f = .inr (q, f1) ∧ ta.toInt + tl.toInt ≤ ta1.toInt) ∧ r = 1 ∨ jtemF bs bl.toNatClampNeg p0 f = .inl ta1.toNatClampNeg ∧ r = 0))) := by
  refine nk_i (own := "NoonShadeModel") rfl (by decide) (Nat.le_of_ble_eq_true rfl) ?_
  intro p e s m below meth c ls X hD hN hr hlk h hl
  have hx := X.1.1
  have hb := X.1.2.1
  have hown := X.1.2.2.2.1
  have hts := X.1.2.2.2.2
  have hl : lv_has ls 1 [(0, .ref (ad 64))] := hl
  have kq0 : (0 : Int32).toInt = 0 := rfl
  have kq1 : (1 : Int32).toInt = 1 := rfl
  have kq2 : (2 : Int32).toInt = 2 := rfl
  have kq3 : (3 : Int32).toInt = 3 := rfl
  have kq4 : (4 : Int32).toInt = 4 := rfl
  refine lv_aload_n hx hb dX9_takesItem_0 rfl (lv_at hl 0 rfl) ?_
  refine lv_bipush (v := 6) hx hb dX9_takesItem_1 (by decide) ?_
  refine lv_bipush (v := 99) hx hb dX9_takesItem_3 (by decide) ?_
  refine lv_bipush (v := 97) hx hb dX9_takesItem_5 (by decide) ?_
  refine lv_bipush (v := 115) hx hb dX9_takesItem_7 (by decide) ?_
  refine lv_bipush (v := 116) hx hb dX9_takesItem_9 (by decide) ?_
  refine lv_bipush (v := 101) hx hb dX9_takesItem_11 (by decide) ?_
  refine lv_bipush (v := 114) hx hb dX9_takesItem_13 (by decide) ?_
  refine n_Vi (na := 7) (As := [.int 6, .int 99, .int 97, .int 115, .int 116, .int 101, .int 114]) (rest := []) X hD hN h rfl (c_MF_spells l G cI cB cZ cO ad w x y mb bl ta tl tk va bs ok (6 : Int32) (99 : Int32) (97 : Int32) (115 : Int32) (116 : Int32) (101 : Int32) (114 : Int32) (by decide) (by decide) pf (by omega) (by omega) p71 (by omega) (by omega) (by omega)) ⟨kv_688, kv_689, kv_690, kv_470, kv_691⟩ rfl ⟨by decide, by decide, by decide⟩ ⟨Nat.le_of_ble_eq_true rfl, Nat.le_of_ble_eq_true rfl⟩ ⟨Nat.zero_le _, Nat.zero_le _⟩ (by decide) pf rfl rfl hl.1 rfl (Nat.le_of_ble_eq_true rfl) dX9_takesItem_15 (fun r1 w2 H locs hp3 h => ?_)
  obtain ⟨rfl, hr4⟩ := hp3
  have hi6 : SPTP bs ta tl tk (6 : Int32) (99 : Int32) (97 : Int32) (115 : Int32) (116 : Int32) (101 : Int32) (114 : Int32) ↔ wdAt bs bl.toNatClampNeg p0 = 1 := (sp_w (i := 1) (by decide) (by decide)).trans (AT.wd hAT (i := 1) (by decide))
  rcases hr4 with ⟨hw5, rfl⟩ | ⟨hw5, rfl⟩
  · have hw5 : wdAt bs bl.toNatClampNeg p0 = 1 := hi6.mp hw5
    have q7 : tk.toInt = 1 ∧ tl.toInt = 6 := by have a9 := (hi6.mpr hw5); exact ⟨a9.1, a9.2.1⟩
    refine lv_if_eq (tgt := 26) hx hb dX9_takesItem_18 (by decide) (fun hc => absurd hc (by decide)) (fun _ => ?_)
    refine lv_aload_n hx hb dX9_takesItem_21 rfl (lv_at hl 0 rfl) ?_
    refine n_Vi (na := 0) (As := []) (rest := []) X hD hN h rfl (c_MF_takesCaster l G cI cB cZ cO ad w x y mb bl ta tl tk va bs p0 f ok pf (by omega) (by omega) p71 (by omega) (by omega) (by omega) hAT p72 pal) ⟨kv_692, kv_693, kv_694, kv_470, kv_695⟩ rfl ⟨by decide, by decide, by decide⟩ ⟨Nat.le_of_ble_eq_true rfl, Nat.le_of_ble_eq_true rfl⟩ ⟨Nat.zero_le _, Nat.zero_le _⟩ (by decide) pf rfl rfl hl.1 rfl (Nat.le_of_ble_eq_true rfl) dX9_takesItem_22 (fun r8 w9 H locs hp10 h => ?_)
    obtain ⟨ok11, kk12, h6513, hr14⟩ := hp10
    have kx15 : KN w w9 := kk12
    rcases hr14 with ⟨hlt16, hm17⟩ | ⟨hge18, hw19, rfl⟩
    · obtain ⟨y20, y21, y22, y23, h24, h25, h26, h27, h28, hq29⟩ := hm17
      rcases hq29 with ⟨⟨Q30, g31, hat32, f33, hj34, h35⟩, rfl⟩ | ⟨hj36, rfl⟩
      · have hjt37 : jtemF bs bl.toNatClampNeg p0 f = .inr (Q30, g31) := by unfold jtemF; rw [pick_y ⟨by omega, hlt16⟩]; exact hj34
        exact e_n X h hr hlk rfl dX9_takesItem_25 ⟨ok11, kx15, ⟨h6513, ⟨_, _, _, _, h24, by omega, by omega, by omega, by omega, Or.inl ⟨⟨_, _, hat32, f33, hjt37, by omega⟩, rfl⟩⟩⟩⟩
      · have hjt38 : jtemF bs bl.toNatClampNeg p0 f = .inl y20.toNatClampNeg := by
          unfold jtemF
          rw [pick_y ⟨by omega, hlt16⟩]
          exact hj36
        exact e_n X h hr hlk rfl dX9_takesItem_25 ⟨ok11, kx15, ⟨h6513, ⟨_, _, _, _, h24, by omega, by omega, by omega, by omega, Or.inr ⟨hjt38, rfl⟩⟩⟩⟩
    · have f39 : w9 64 = .inr (7, [.ref (ad 65), .ref (ad 66), .ref (ad 67), .ref (ad 68), .long x, .long y, .ref (ad 69), .int mb, .ref (ad 70), .ref (ad 71), .int bl, .int ta, .int tl, .int tk, .int va, .ref (ad 72), .ref (ad 73)]) := hw19.trans pf
      have hjt40 : jtemF bs bl.toNatClampNeg p0 f = .inl ta.toNatClampNeg := by
        unfold jtemF
        rw [pick_n (by omega), pick_n (by omega), pick_n (by omega), pick_n (by omega), pick_n (by omega)]
        have t9 := hAT.1
        have t8 := cl_of (x := ta) (by omega)
        congr 1; omega
      exact e_n X h hr hlk rfl dX9_takesItem_25 ⟨ok11, kx15, ⟨h6513, ⟨_, _, _, _, f39, by omega, by omega, by omega, by omega, Or.inr ⟨hjt40, rfl⟩⟩⟩⟩
  · have hw5 : ¬ wdAt bs bl.toNatClampNeg p0 = 1 := fun q9 => hw5 (hi6.mpr q9)
    refine lv_if_eq (tgt := 26) hx hb dX9_takesItem_18 (by decide) (fun _ => ?_) (fun hc => absurd (by decide) hc)
    refine lv_aload_n hx hb dX9_takesItem_26 rfl (lv_at hl 0 rfl) ?_
    refine lv_iconst (v := 3) hx hb dX9_takesItem_27 (by decide) ?_
    refine lv_bipush (v := 106) hx hb dX9_takesItem_28 (by decide) ?_
    refine lv_bipush (v := 97) hx hb dX9_takesItem_30 (by decide) ?_
    refine lv_bipush (v := 114) hx hb dX9_takesItem_32 (by decide) ?_
    refine lv_iconst (v := 0) hx hb dX9_takesItem_34 (by decide) ?_
    refine lv_iconst (v := 0) hx hb dX9_takesItem_35 (by decide) ?_
    refine lv_iconst (v := 0) hx hb dX9_takesItem_36 (by decide) ?_
    refine n_Vi (na := 7) (As := [.int 3, .int 106, .int 97, .int 114, .int 0, .int 0, .int 0]) (rest := []) X hD hN h rfl (c_MF_spells l G cI cB cZ cO ad w x y mb bl ta tl tk va bs ok (3 : Int32) (106 : Int32) (97 : Int32) (114 : Int32) (0 : Int32) (0 : Int32) (0 : Int32) (by decide) (by decide) pf (by omega) (by omega) p71 (by omega) (by omega) (by omega)) ⟨kv_688, kv_689, kv_690, kv_470, kv_691⟩ rfl ⟨by decide, by decide, by decide⟩ ⟨Nat.le_of_ble_eq_true rfl, Nat.le_of_ble_eq_true rfl⟩ ⟨Nat.zero_le _, Nat.zero_le _⟩ (by decide) pf rfl rfl hl.1 rfl (Nat.le_of_ble_eq_true rfl) dX9_takesItem_37 (fun r41 w42 H locs hp43 h => ?_)
    obtain ⟨rfl, hr44⟩ := hp43
    have hi46 : SPTP bs ta tl tk (3 : Int32) (106 : Int32) (97 : Int32) (114 : Int32) (0 : Int32) (0 : Int32) (0 : Int32) ↔ wdAt bs bl.toNatClampNeg p0 = 2 := (sp_w (i := 2) (by decide) (by decide)).trans (AT.wd hAT (i := 2) (by decide))
    rcases hr44 with ⟨hw45, rfl⟩ | ⟨hw45, rfl⟩
    · have hw45 : wdAt bs bl.toNatClampNeg p0 = 2 := hi46.mp hw45
      have q47 : tk.toInt = 1 ∧ tl.toInt = 3 := by have a9 := (hi46.mpr hw45); exact ⟨a9.1, a9.2.1⟩
      refine lv_if_eq (tgt := 48) hx hb dX9_takesItem_40 (by decide) (fun hc => absurd hc (by decide)) (fun _ => ?_)
      refine lv_aload_n hx hb dX9_takesItem_43 rfl (lv_at hl 0 rfl) ?_
      refine n_Vi (na := 0) (As := []) (rest := []) X hD hN h rfl (c_MF_takesJar l G cI cB cZ cO ad w x y mb bl ta tl tk va bs p0 f ok pf (by omega) (by omega) p71 (by omega) (by omega) (by omega) hAT p72 pal) ⟨kv_696, kv_697, kv_698, kv_470, kv_699⟩ rfl ⟨by decide, by decide, by decide⟩ ⟨Nat.le_of_ble_eq_true rfl, Nat.le_of_ble_eq_true rfl⟩ ⟨Nat.zero_le _, Nat.zero_le _⟩ (by decide) pf rfl rfl hl.1 rfl (Nat.le_of_ble_eq_true rfl) dX9_takesItem_44 (fun r48 w49 H locs hp50 h => ?_)
      obtain ⟨ok51, kk52, h6553, hr54⟩ := hp50
      have kx55 : KN w w49 := kk52
      rcases hr54 with ⟨hlt56, hm57⟩ | ⟨hge58, hw59, rfl⟩
      · obtain ⟨y60, y61, y62, y63, h64, h65, h66, h67, h68, hq69⟩ := hm57
        rcases hq69 with ⟨⟨Q70, g71, hat72, f73, hj74, h75⟩, rfl⟩ | ⟨hj76, rfl⟩
        · have hjt77 : jtemF bs bl.toNatClampNeg p0 f = .inr (Q70, g71) := by unfold jtemF; rw [pick_n (by omega), pick_y ⟨by omega, hlt56⟩]; exact hj74
          exact e_n X h hr hlk rfl dX9_takesItem_47 ⟨ok51, kx55, ⟨h6553, ⟨_, _, _, _, h64, by omega, by omega, by omega, by omega, Or.inl ⟨⟨_, _, hat72, f73, hjt77, by omega⟩, rfl⟩⟩⟩⟩
        · have hjt78 : jtemF bs bl.toNatClampNeg p0 f = .inl y60.toNatClampNeg := by
            unfold jtemF
            rw [pick_n (by omega), pick_y ⟨by omega, hlt56⟩]
            exact hj76
          exact e_n X h hr hlk rfl dX9_takesItem_47 ⟨ok51, kx55, ⟨h6553, ⟨_, _, _, _, h64, by omega, by omega, by omega, by omega, Or.inr ⟨hjt78, rfl⟩⟩⟩⟩
      · have f79 : w49 64 = .inr (7, [.ref (ad 65), .ref (ad 66), .ref (ad 67), .ref (ad 68), .long x, .long y, .ref (ad 69), .int mb, .ref (ad 70), .ref (ad 71), .int bl, .int ta, .int tl, .int tk, .int va, .ref (ad 72), .ref (ad 73)]) := hw59.trans pf
        have hjt80 : jtemF bs bl.toNatClampNeg p0 f = .inl ta.toNatClampNeg := by
          unfold jtemF
          rw [pick_n (by omega), pick_n (by omega), pick_n (by omega), pick_n (by omega), pick_n (by omega)]
          have t9 := hAT.1
          have t8 := cl_of (x := ta) (by omega)
          congr 1; omega
        exact e_n X h hr hlk rfl dX9_takesItem_47 ⟨ok51, kx55, ⟨h6553, ⟨_, _, _, _, f79, by omega, by omega, by omega, by omega, Or.inr ⟨hjt80, rfl⟩⟩⟩⟩
    · have hw45 : ¬ wdAt bs bl.toNatClampNeg p0 = 2 := fun q9 => hw45 (hi46.mpr q9)
      refine lv_if_eq (tgt := 48) hx hb dX9_takesItem_40 (by decide) (fun _ => ?_) (fun hc => absurd (by decide) hc)
      refine lv_aload_n hx hb dX9_takesItem_48 rfl (lv_at hl 0 rfl) ?_
      refine lv_iconst (v := 5) hx hb dX9_takesItem_49 (by decide) ?_
      refine lv_bipush (v := 108) hx hb dX9_takesItem_50 (by decide) ?_
      refine lv_bipush (v := 97) hx hb dX9_takesItem_52 (by decide) ?_
      refine lv_bipush (v := 100) hx hb dX9_takesItem_54 (by decide) ?_
      refine lv_bipush (v := 108) hx hb dX9_takesItem_56 (by decide) ?_
      refine lv_bipush (v := 101) hx hb dX9_takesItem_58 (by decide) ?_
      refine lv_iconst (v := 0) hx hb dX9_takesItem_60 (by decide) ?_
      refine n_Vi (na := 7) (As := [.int 5, .int 108, .int 97, .int 100, .int 108, .int 101, .int 0]) (rest := []) X hD hN h rfl (c_MF_spells l G cI cB cZ cO ad w x y mb bl ta tl tk va bs ok (5 : Int32) (108 : Int32) (97 : Int32) (100 : Int32) (108 : Int32) (101 : Int32) (0 : Int32) (by decide) (by decide) pf (by omega) (by omega) p71 (by omega) (by omega) (by omega)) ⟨kv_688, kv_689, kv_690, kv_470, kv_691⟩ rfl ⟨by decide, by decide, by decide⟩ ⟨Nat.le_of_ble_eq_true rfl, Nat.le_of_ble_eq_true rfl⟩ ⟨Nat.zero_le _, Nat.zero_le _⟩ (by decide) pf rfl rfl hl.1 rfl (Nat.le_of_ble_eq_true rfl) dX9_takesItem_61 (fun r81 w82 H locs hp83 h => ?_)
      obtain ⟨rfl, hr84⟩ := hp83
      have hi86 : SPTP bs ta tl tk (5 : Int32) (108 : Int32) (97 : Int32) (100 : Int32) (108 : Int32) (101 : Int32) (0 : Int32) ↔ wdAt bs bl.toNatClampNeg p0 = 3 := (sp_w (i := 3) (by decide) (by decide)).trans (AT.wd hAT (i := 3) (by decide))
      rcases hr84 with ⟨hw85, rfl⟩ | ⟨hw85, rfl⟩
      · have hw85 : wdAt bs bl.toNatClampNeg p0 = 3 := hi86.mp hw85
        have q87 : tk.toInt = 1 ∧ tl.toInt = 5 := by have a9 := (hi86.mpr hw85); exact ⟨a9.1, a9.2.1⟩
        refine lv_if_eq (tgt := 72) hx hb dX9_takesItem_64 (by decide) (fun hc => absurd hc (by decide)) (fun _ => ?_)
        refine lv_aload_n hx hb dX9_takesItem_67 rfl (lv_at hl 0 rfl) ?_
        refine n_Vi (na := 0) (As := []) (rest := []) X hD hN h rfl (c_MF_takesLadle l G cI cB cZ cO ad w x y mb bl ta tl tk va bs p0 f ok pf (by omega) (by omega) p71 (by omega) (by omega) (by omega) hAT p72 pal) ⟨kv_700, kv_701, kv_702, kv_470, kv_703⟩ rfl ⟨by decide, by decide, by decide⟩ ⟨Nat.le_of_ble_eq_true rfl, Nat.le_of_ble_eq_true rfl⟩ ⟨Nat.zero_le _, Nat.zero_le _⟩ (by decide) pf rfl rfl hl.1 rfl (Nat.le_of_ble_eq_true rfl) dX9_takesItem_68 (fun r88 w89 H locs hp90 h => ?_)
        obtain ⟨ok91, kk92, h6593, hr94⟩ := hp90
        have kx95 : KN w w89 := kk92
        obtain ⟨y96, y97, y98, y99, h100, h101, h102, h103, h104, hq105⟩ := hr94
        rcases hq105 with ⟨⟨Q106, g107, hat108, f109, hj110, h111⟩, rfl⟩ | ⟨hj112, rfl⟩
        · have hjt113 : jtemF bs bl.toNatClampNeg p0 f = .inr (Q106, g107) := by unfold jtemF; rw [pick_n (by omega), pick_n (by omega), pick_y (by omega)]; exact hj110
          exact e_n X h hr hlk rfl dX9_takesItem_71 ⟨ok91, kx95, ⟨h6593, ⟨_, _, _, _, h100, by omega, by omega, by omega, by omega, Or.inl ⟨⟨_, _, hat108, f109, hjt113, by omega⟩, rfl⟩⟩⟩⟩
        · have hjt114 : jtemF bs bl.toNatClampNeg p0 f = .inl y96.toNatClampNeg := by
            unfold jtemF
            rw [pick_n (by omega), pick_n (by omega), pick_y (by omega)]
            exact hj112
          exact e_n X h hr hlk rfl dX9_takesItem_71 ⟨ok91, kx95, ⟨h6593, ⟨_, _, _, _, h100, by omega, by omega, by omega, by omega, Or.inr ⟨hjt114, rfl⟩⟩⟩⟩
      · have hw85 : ¬ wdAt bs bl.toNatClampNeg p0 = 3 := fun q9 => hw85 (hi86.mpr q9)
        refine lv_if_eq (tgt := 72) hx hb dX9_takesItem_64 (by decide) (fun _ => ?_) (fun hc => absurd (by decide) hc)
        refine lv_aload_n hx hb dX9_takesItem_72 rfl (lv_at hl 0 rfl) ?_
        refine lv_iconst (v := 4) hx hb dX9_takesItem_73 (by decide) ?_
        refine lv_bipush (v := 112) hx hb dX9_takesItem_74 (by decide) ?_
        refine lv_bipush (v := 111) hx hb dX9_takesItem_76 (by decide) ?_
        refine lv_bipush (v := 117) hx hb dX9_takesItem_78 (by decide) ?_
        refine lv_bipush (v := 114) hx hb dX9_takesItem_80 (by decide) ?_
        refine lv_iconst (v := 0) hx hb dX9_takesItem_82 (by decide) ?_
        refine lv_iconst (v := 0) hx hb dX9_takesItem_83 (by decide) ?_
        refine n_Vi (na := 7) (As := [.int 4, .int 112, .int 111, .int 117, .int 114, .int 0, .int 0]) (rest := []) X hD hN h rfl (c_MF_spells l G cI cB cZ cO ad w x y mb bl ta tl tk va bs ok (4 : Int32) (112 : Int32) (111 : Int32) (117 : Int32) (114 : Int32) (0 : Int32) (0 : Int32) (by decide) (by decide) pf (by omega) (by omega) p71 (by omega) (by omega) (by omega)) ⟨kv_688, kv_689, kv_690, kv_470, kv_691⟩ rfl ⟨by decide, by decide, by decide⟩ ⟨Nat.le_of_ble_eq_true rfl, Nat.le_of_ble_eq_true rfl⟩ ⟨Nat.zero_le _, Nat.zero_le _⟩ (by decide) pf rfl rfl hl.1 rfl (Nat.le_of_ble_eq_true rfl) dX9_takesItem_84 (fun r115 w116 H locs hp117 h => ?_)
        obtain ⟨rfl, hr118⟩ := hp117
        have hi120 : SPTP bs ta tl tk (4 : Int32) (112 : Int32) (111 : Int32) (117 : Int32) (114 : Int32) (0 : Int32) (0 : Int32) ↔ wdAt bs bl.toNatClampNeg p0 = 4 := (sp_w (i := 4) (by decide) (by decide)).trans (AT.wd hAT (i := 4) (by decide))
        rcases hr118 with ⟨hw119, rfl⟩ | ⟨hw119, rfl⟩
        · have hw119 : wdAt bs bl.toNatClampNeg p0 = 4 := hi120.mp hw119
          have q121 : tk.toInt = 1 ∧ tl.toInt = 4 := by have a9 := (hi120.mpr hw119); exact ⟨a9.1, a9.2.1⟩
          refine lv_if_eq (tgt := 95) hx hb dX9_takesItem_87 (by decide) (fun hc => absurd hc (by decide)) (fun _ => ?_)
          refine lv_aload_n hx hb dX9_takesItem_90 rfl (lv_at hl 0 rfl) ?_
          refine n_Vi (na := 0) (As := []) (rest := []) X hD hN h rfl (c_MF_takesPour l G cI cB cZ cO ad w x y mb bl ta tl tk va bs p0 f ok pf (by omega) (by omega) p71 (by omega) (by omega) (by omega) hAT p72 pal) ⟨kv_704, kv_705, kv_706, kv_470, kv_707⟩ rfl ⟨by decide, by decide, by decide⟩ ⟨Nat.le_of_ble_eq_true rfl, Nat.le_of_ble_eq_true rfl⟩ ⟨Nat.zero_le _, Nat.zero_le _⟩ (by decide) pf rfl rfl hl.1 rfl (Nat.le_of_ble_eq_true rfl) dX9_takesItem_91 (fun r122 w123 H locs hp124 h => ?_)
          obtain ⟨ok125, kk126, h65127, hr128⟩ := hp124
          have kx129 : KN w w123 := kk126
          obtain ⟨y130, y131, y132, y133, h134, h135, h136, h137, h138, hq139⟩ := hr128
          rcases hq139 with ⟨⟨Q140, g141, hat142, f143, hj144, h145⟩, rfl⟩ | ⟨hj146, rfl⟩
          · have hjt147 : jtemF bs bl.toNatClampNeg p0 f = .inr (Q140, g141) := by unfold jtemF; rw [pick_n (by omega), pick_n (by omega), pick_n (by omega), pick_y (by omega)]; exact hj144
            exact e_n X h hr hlk rfl dX9_takesItem_94 ⟨ok125, kx129, ⟨h65127, ⟨_, _, _, _, h134, by omega, by omega, by omega, by omega, Or.inl ⟨⟨_, _, hat142, f143, hjt147, by omega⟩, rfl⟩⟩⟩⟩
          · have hjt148 : jtemF bs bl.toNatClampNeg p0 f = .inl y130.toNatClampNeg := by
              unfold jtemF
              rw [pick_n (by omega), pick_n (by omega), pick_n (by omega), pick_y (by omega)]
              exact hj146
            exact e_n X h hr hlk rfl dX9_takesItem_94 ⟨ok125, kx129, ⟨h65127, ⟨_, _, _, _, h134, by omega, by omega, by omega, by omega, Or.inr ⟨hjt148, rfl⟩⟩⟩⟩
        · have hw119 : ¬ wdAt bs bl.toNatClampNeg p0 = 4 := fun q9 => hw119 (hi120.mpr q9)
          refine lv_if_eq (tgt := 95) hx hb dX9_takesItem_87 (by decide) (fun _ => ?_) (fun hc => absurd (by decide) hc)
          refine lv_aload_n hx hb dX9_takesItem_95 rfl (lv_at hl 0 rfl) ?_
          refine lv_iconst (v := 5) hx hb dX9_takesItem_96 (by decide) ?_
          refine lv_bipush (v := 104) hx hb dX9_takesItem_97 (by decide) ?_
          refine lv_bipush (v := 111) hx hb dX9_takesItem_99 (by decide) ?_
          refine lv_bipush (v := 117) hx hb dX9_takesItem_101 (by decide) ?_
          refine lv_bipush (v := 114) hx hb dX9_takesItem_103 (by decide) ?_
          refine lv_bipush (v := 115) hx hb dX9_takesItem_105 (by decide) ?_
          refine lv_iconst (v := 0) hx hb dX9_takesItem_107 (by decide) ?_
          refine n_Vi (na := 7) (As := [.int 5, .int 104, .int 111, .int 117, .int 114, .int 115, .int 0]) (rest := []) X hD hN h rfl (c_MF_spells l G cI cB cZ cO ad w x y mb bl ta tl tk va bs ok (5 : Int32) (104 : Int32) (111 : Int32) (117 : Int32) (114 : Int32) (115 : Int32) (0 : Int32) (by decide) (by decide) pf (by omega) (by omega) p71 (by omega) (by omega) (by omega)) ⟨kv_688, kv_689, kv_690, kv_470, kv_691⟩ rfl ⟨by decide, by decide, by decide⟩ ⟨Nat.le_of_ble_eq_true rfl, Nat.le_of_ble_eq_true rfl⟩ ⟨Nat.zero_le _, Nat.zero_le _⟩ (by decide) pf rfl rfl hl.1 rfl (Nat.le_of_ble_eq_true rfl) dX9_takesItem_108 (fun r149 w150 H locs hp151 h => ?_)
          obtain ⟨rfl, hr152⟩ := hp151
          have hi154 : SPTP bs ta tl tk (5 : Int32) (104 : Int32) (111 : Int32) (117 : Int32) (114 : Int32) (115 : Int32) (0 : Int32) ↔ wdAt bs bl.toNatClampNeg p0 = 5 := (sp_w (i := 5) (by decide) (by decide)).trans (AT.wd hAT (i := 5) (by decide))
          rcases hr152 with ⟨hw153, rfl⟩ | ⟨hw153, rfl⟩
          · have hw153 : wdAt bs bl.toNatClampNeg p0 = 5 := hi154.mp hw153
            have q155 : tk.toInt = 1 ∧ tl.toInt = 5 := by have a9 := (hi154.mpr hw153); exact ⟨a9.1, a9.2.1⟩
            refine lv_if_eq (tgt := 125) hx hb dX9_takesItem_111 (by decide) (fun hc => absurd hc (by decide)) (fun _ => ?_)
            refine lv_aload_n hx hb dX9_takesItem_114 rfl (lv_at hl 0 rfl) ?_
            refine n_Vi (na := 0) (As := []) (rest := []) X hD hN h rfl (c_MF_takesHours l G cI cB cZ cO ad w x y mb bl ta tl tk va bs p0 f ok pf (by omega) (by omega) p71 (by omega) (by omega) (by omega) hAT p72 pal) ⟨kv_708, kv_709, kv_710, kv_470, kv_711⟩ rfl ⟨by decide, by decide, by decide⟩ ⟨Nat.le_of_ble_eq_true rfl, Nat.le_of_ble_eq_true rfl⟩ ⟨Nat.zero_le _, Nat.zero_le _⟩ (by decide) pf rfl rfl hl.1 rfl (Nat.le_of_ble_eq_true rfl) dX9_takesItem_115 (fun r156 w157 H locs hp158 h => ?_)
            obtain ⟨ok159, kk160, h65161, hr162⟩ := hp158
            have kx163 : KN w w157 := kk160
            obtain ⟨y164, y165, y166, y167, h168, h169, h170, h171, h172, hq173⟩ := hr162
            rcases hq173 with ⟨⟨Q174, g175, hat176, f177, hj178, h179⟩, rfl⟩ | ⟨hj180, rfl⟩
            · refine lv_if_eq (tgt := 125) hx hb dX9_takesItem_118 (by decide) (fun hc => absurd hc (by decide)) (fun _ => ?_)
              refine lv_iconst (v := 1) hx hb dX9_takesItem_121 (by decide) ?_
              refine lv_goto (tgt := 126) hx hb dX9_takesItem_122 (by decide) ?_
              have hjt181 : jtemF bs bl.toNatClampNeg p0 f = .inr (Q174, g175) := by unfold jtemF; rw [pick_n (by omega), pick_n (by omega), pick_n (by omega), pick_n (by omega), pick_y (by omega)]; exact hj178
              exact e_n X h hr hlk rfl dX9_takesItem_126 ⟨ok159, kx163, ⟨h65161, ⟨_, _, _, _, h168, by omega, by omega, by omega, by omega, Or.inl ⟨⟨_, _, hat176, f177, hjt181, by omega⟩, rfl⟩⟩⟩⟩
            · refine lv_if_eq (tgt := 125) hx hb dX9_takesItem_118 (by decide) (fun _ => ?_) (fun hc => absurd (by decide) hc)
              refine lv_iconst (v := 0) hx hb dX9_takesItem_125 (by decide) ?_
              have hjt182 : jtemF bs bl.toNatClampNeg p0 f = .inl y164.toNatClampNeg := by
                unfold jtemF
                rw [pick_n (by omega), pick_n (by omega), pick_n (by omega), pick_n (by omega), pick_y (by omega)]
                exact hj180
              exact e_n X h hr hlk rfl dX9_takesItem_126 ⟨ok159, kx163, ⟨h65161, ⟨_, _, _, _, h168, by omega, by omega, by omega, by omega, Or.inr ⟨hjt182, rfl⟩⟩⟩⟩
          · have hw153 : ¬ wdAt bs bl.toNatClampNeg p0 = 5 := fun q9 => hw153 (hi154.mpr q9)
            refine lv_if_eq (tgt := 125) hx hb dX9_takesItem_111 (by decide) (fun _ => ?_) (fun hc => absurd (by decide) hc)
            refine lv_iconst (v := 0) hx hb dX9_takesItem_125 (by decide) ?_
            have hjt183 : jtemF bs bl.toNatClampNeg p0 f = .inl ta.toNatClampNeg := by
              unfold jtemF
              rw [pick_n (by omega), pick_n (by omega), pick_n (by omega), pick_n (by omega), pick_n (by omega)]
              have t9 := hAT.1
              have t8 := cl_of (x := ta) (by omega)
              congr 1; omega
            exact e_n X h hr hlk rfl dX9_takesItem_126 ⟨ok, KN.rf, ⟨⟨rfl, rfl⟩, ⟨_, _, _, _, pf, by omega, by omega, by omega, by omega, Or.inr ⟨hjt183, rfl⟩⟩⟩⟩
