set_option maxHeartbeats 4000000 in
set_option maxRecDepth 100000 in
theorem c_MF_takesItem (l : Launch) (G : va_G) (cI cB cZ cO : ClassId) (ad : Nat → Nat) (w : Nat → va_E) (x y : Int64) (mb bl ta tl tk va : Int32) (bs : Nat → Int32) (p0 : Nat) (f : Nat → Int32) (ok : OK cI cB cZ cO ad w)   (pf : w 64 = .inr (7, [.ref (ad 65), .ref (ad 66), .ref (ad 67), .ref (ad 68), .long x, .long y, .ref (ad 69), .int mb, .ref (ad 70), .ref (ad 71), .int bl, .int ta, .int tl, .int tk, .int va, .ref (ad 72), .ref (ad 73)])) (hbl0 : 0 ≤ bl.toInt) (hbl1 : bl.toInt ≤ 150) (p71 : w 71 = .inl (cI, 150, .inl bs)) (hta : 0 ≤ ta.toInt) (htl : 0 ≤ tl.toInt) (htb : ta.toInt + tl.toInt ≤ bl.toInt) (hAT : AT bs bl.toNatClampNeg p0 ta tl tk va) (p72 : w 72 = .inl (cI, 89, .inl f)) (pal : alA f) (htk : tk.toInt = 0 ∨ 1 ≤ tl.toInt) : NI l G (tyq cI cB cZ cO) yX9_takesItem cX9_takesItem 1 (some .boolean) 6 133 74 ad w [.ref (ad 64)] (fun r w1 => OK cI cB cZ cO ad w1 ∧ KN w w1 ∧ (∃ ta1 tl1 tk1 va1 : Int32, w1 64 = .inr (7, [.ref (ad 65), .ref (ad 66), .ref (ad 67), .ref (ad 68), .long x, .long y, .ref (ad 69), .int mb, .ref (ad 70), .ref (ad 71), .int bl, .int ta1, .int tl1, .int tk1, .int va1, .ref (ad 72), .ref (ad 73)]) ∧ 0 ≤ ta1.toInt ∧ 0 ≤ tl1.toInt ∧ ta1.toInt + tl1.toInt ≤ bl.toInt ∧ (tk1.toInt = 0 ∨ 1 ≤ tl1.toInt) ∧ ((∃ (q : Nat) (f1 : Nat → Int32), AT bs bl.toNatClampNeg q ta1 tl1 tk1 va1 ∧ w1 72 = .inl (cI, 89, .inl f1) ∧ jtemF bs bl.toNatClampNeg p0 f = .inr (q, f1) ∧ ta.toInt + tl.toInt ≤ ta1.toInt) ∧ r = 1 ∨ jtemF bs bl.toNatClampNeg p0 f = .inl ta1.toNatClampNeg ∧ r = 0))) := by
  refine nk_i (own := "NoonShadeModel") rfl (by decide) (Nat.le_of_ble_eq_true rfl) ?_
  intro p e s m below meth c ls X hD hN hr hlk h hl
  have hx := X.1.1
  have hb := X.1.2.1
  have hown := X.1.2.2.2.1
  have hts := X.1.2.2.2.2
  have hl : lv_has ls 1 [(0, .ref (ad 64))] := hl
  have kq0 : (0 : Int32).toInt = 0 := rfl
  have kq1 : (1 : Int32).toInt = 1 := rfl
  have kq2 : (2 : Int32).toInt = 2 := rfl
  have kq3 : (3 : Int32).toInt = 3 := rfl
  have kq4 : (4 : Int32).toInt = 4 := rfl
  refine lv_aload_n hx hb dX9_takesItem_0 rfl (lv_at hl 0 rfl) ?_
  refine lv_bipush (v := 6) hx hb dX9_takesItem_1 (by decide) ?_
  refine lv_bipush (v := 99) hx hb dX9_takesItem_3 (by decide) ?_
  refine lv_bipush (v := 97) hx hb dX9_takesItem_5 (by decide) ?_
  refine lv_bipush (v := 115) hx hb dX9_takesItem_7 (by decide) ?_
  refine lv_bipush (v := 116) hx hb dX9_takesItem_9 (by decide) ?_
  refine lv_bipush (v := 101) hx hb dX9_takesItem_11 (by decide) ?_
  refine lv_bipush (v := 114) hx hb dX9_takesItem_13 (by decide) ?_
  refine n_Vi (na := 7) (As := [.int 6, .int 99, .int 97, .int 115, .int 116, .int 101, .int 114]) (rest := []) X hD hN h rfl (c_MF_spells l G cI cB cZ cO ad w x y mb bl ta tl tk va bs ok (6 : Int32) (99 : Int32) (97 : Int32) (115 : Int32) (116 : Int32) (101 : Int32) (114 : Int32) (by decide) (by decide) pf (by omega) (by omega) p71 (by omega) (by omega) (by omega)) ⟨kv_688, kv_689, kv_690, kv_470, kv_691⟩ rfl ⟨by decide, by decide, by decide⟩ ⟨Nat.le_of_ble_eq_true rfl, Nat.le_of_ble_eq_true rfl⟩ ⟨Nat.zero_le _, Nat.zero_le _⟩ (by decide) pf rfl rfl hl.1 rfl (Nat.le_of_ble_eq_true rfl) dX9_takesItem_15 (fun r1 w2 H locs hp3 h => ?_)
  obtain ⟨rfl, hr4⟩ := hp3
  have hi6 : SPTP bs ta tl tk (6 : Int32) (99 : Int32) (97 : Int32) (115 : Int32) (116 : Int32) (101 : Int32) (114 : Int32) ↔ wdAt bs bl.toNatClampNeg p0 = 1 := (sp_w (i := 1) (by decide) (by decide)).trans (AT.wd hAT (i := 1) (by decide))
  rcases hr4 with ⟨hw5, rfl⟩ | ⟨hw5, rfl⟩
  · have hw5 : wdAt bs bl.toNatClampNeg p0 = 1 := hi6.mp hw5
    have q7 : tk.toInt = 1 ∧ tl.toInt = 6 := by have a9 := (hi6.mpr hw5); exact ⟨a9.1, a9.2.1⟩
    refine lv_if_eq (tgt := 26) hx hb dX9_takesItem_18 (by decide) (fun hc => absurd hc (by decide)) (fun _ => ?_)
    refine lv_aload_n hx hb dX9_takesItem_21 rfl (lv_at hl 0 rfl) ?_
    refine n_Vi (na := 0) (As := []) (rest := []) X hD hN h rfl (c_MF_takesCaster l G cI cB cZ cO ad w x y mb bl ta tl tk va bs p0 f ok pf (by omega) (by omega) p71 (by omega) (by omega) (by omega) hAT p72 pal) ⟨kv_692, kv_693, kv_694, kv_470, kv_695⟩ rfl ⟨by decide, by decide, by decide⟩ ⟨Nat.le_of_ble_eq_true rfl, Nat.le_of_ble_eq_true rfl⟩ ⟨Nat.zero_le _, Nat.zero_le _⟩ (by decide) pf rfl rfl hl.1 rfl (Nat.le_of_ble_eq_true rfl) dX9_takesItem_22 (fun r8 w9 H locs hp10 h => ?_)
    obtain ⟨ok11, kk12, hr13⟩ := hp10
    have kx14 : KN w w9 := kk12
    rcases hr13 with ⟨hlt15, hm16⟩ | ⟨hge17, hw18, rfl⟩
    · obtain ⟨y19, y20, y21, y22, h23, h24, h25, h26, h27, hq28⟩ := hm16
      rcases hq28 with ⟨⟨Q29, g30, hat31, f32, hj33, h34⟩, rfl⟩ | ⟨hj35, rfl⟩
      · have hjt36 : jtemF bs bl.toNatClampNeg p0 f = .inr (Q29, g30) := by unfold jtemF; rw [pick_y ⟨by omega, hlt15⟩]; exact hj33
        exact e_n X h hr hlk rfl dX9_takesItem_25 ⟨ok11, kx14, ⟨_, _, _, _, h23, by omega, by omega, by omega, by omega, Or.inl ⟨⟨_, _, hat31, f32, hjt36, by omega⟩, rfl⟩⟩⟩
      · have hjt37 : jtemF bs bl.toNatClampNeg p0 f = .inl y19.toNatClampNeg := by
          unfold jtemF
          rw [pick_y ⟨by omega, hlt15⟩]
          exact hj35
        exact e_n X h hr hlk rfl dX9_takesItem_25 ⟨ok11, kx14, ⟨_, _, _, _, h23, by omega, by omega, by omega, by omega, Or.inr ⟨hjt37, rfl⟩⟩⟩
    · have f38 : w9 64 = .inr (7, [.ref (ad 65), .ref (ad 66), .ref (ad 67), .ref (ad 68), .long x, .long y, .ref (ad 69), .int mb, .ref (ad 70), .ref (ad 71), .int bl, .int ta, .int tl, .int tk, .int va, .ref (ad 72), .ref (ad 73)]) := hw18.trans pf
      have hjt39 : jtemF bs bl.toNatClampNeg p0 f = .inl ta.toNatClampNeg := by
        unfold jtemF
        rw [pick_n (by omega), pick_n (by omega), pick_n (by omega), pick_n (by omega), pick_n (by omega)]
        have t9 := hAT.1
        have t8 := cl_of (x := ta) (by omega)
        congr 1; omega
      exact e_n X h hr hlk rfl dX9_takesItem_25 ⟨ok11, kx14, ⟨_, _, _, _, f38, by omega, by omega, by omega, by omega, Or.inr ⟨hjt39, rfl⟩⟩⟩
  · have hw5 : ¬ wdAt bs bl.toNatClampNeg p0 = 1 := fun q9 => hw5 (hi6.mpr q9)
    refine lv_if_eq (tgt := 26) hx hb dX9_takesItem_18 (by decide) (fun _ => ?_) (fun hc => absurd (by decide) hc)
    refine lv_aload_n hx hb dX9_takesItem_26 rfl (lv_at hl 0 rfl) ?_
    refine lv_iconst (v := 3) hx hb dX9_takesItem_27 (by decide) ?_
    refine lv_bipush (v := 106) hx hb dX9_takesItem_28 (by decide) ?_
    refine lv_bipush (v := 97) hx hb dX9_takesItem_30 (by decide) ?_
    refine lv_bipush (v := 114) hx hb dX9_takesItem_32 (by decide) ?_
    refine lv_iconst (v := 0) hx hb dX9_takesItem_34 (by decide) ?_
    refine lv_iconst (v := 0) hx hb dX9_takesItem_35 (by decide) ?_
    refine lv_iconst (v := 0) hx hb dX9_takesItem_36 (by decide) ?_
    refine n_Vi (na := 7) (As := [.int 3, .int 106, .int 97, .int 114, .int 0, .int 0, .int 0]) (rest := []) X hD hN h rfl (c_MF_spells l G cI cB cZ cO ad w x y mb bl ta tl tk va bs ok (3 : Int32) (106 : Int32) (97 : Int32) (114 : Int32) (0 : Int32) (0 : Int32) (0 : Int32) (by decide) (by decide) pf (by omega) (by omega) p71 (by omega) (by omega) (by omega)) ⟨kv_688, kv_689, kv_690, kv_470, kv_691⟩ rfl ⟨by decide, by decide, by decide⟩ ⟨Nat.le_of_ble_eq_true rfl, Nat.le_of_ble_eq_true rfl⟩ ⟨Nat.zero_le _, Nat.zero_le _⟩ (by decide) pf rfl rfl hl.1 rfl (Nat.le_of_ble_eq_true rfl) dX9_takesItem_37 (fun r40 w41 H locs hp42 h => ?_)
    obtain ⟨rfl, hr43⟩ := hp42
    have hi45 : SPTP bs ta tl tk (3 : Int32) (106 : Int32) (97 : Int32) (114 : Int32) (0 : Int32) (0 : Int32) (0 : Int32) ↔ wdAt bs bl.toNatClampNeg p0 = 2 := (sp_w (i := 2) (by decide) (by decide)).trans (AT.wd hAT (i := 2) (by decide))
    rcases hr43 with ⟨hw44, rfl⟩ | ⟨hw44, rfl⟩
    · have hw44 : wdAt bs bl.toNatClampNeg p0 = 2 := hi45.mp hw44
      have q46 : tk.toInt = 1 ∧ tl.toInt = 3 := by have a9 := (hi45.mpr hw44); exact ⟨a9.1, a9.2.1⟩
      refine lv_if_eq (tgt := 48) hx hb dX9_takesItem_40 (by decide) (fun hc => absurd hc (by decide)) (fun _ => ?_)
      refine lv_aload_n hx hb dX9_takesItem_43 rfl (lv_at hl 0 rfl) ?_
      refine n_Vi (na := 0) (As := []) (rest := []) X hD hN h rfl (c_MF_takesJar l G cI cB cZ cO ad w x y mb bl ta tl tk va bs p0 f ok pf (by omega) (by omega) p71 (by omega) (by omega) (by omega) hAT p72 pal) ⟨kv_696, kv_697, kv_698, kv_470, kv_699⟩ rfl ⟨by decide, by decide, by decide⟩ ⟨Nat.le_of_ble_eq_true rfl, Nat.le_of_ble_eq_true rfl⟩ ⟨Nat.zero_le _, Nat.zero_le _⟩ (by decide) pf rfl rfl hl.1 rfl (Nat.le_of_ble_eq_true rfl) dX9_takesItem_44 (fun r47 w48 H locs hp49 h => ?_)
      obtain ⟨ok50, kk51, hr52⟩ := hp49
      have kx53 : KN w w48 := kk51
      rcases hr52 with ⟨hlt54, hm55⟩ | ⟨hge56, hw57, rfl⟩
      · obtain ⟨y58, y59, y60, y61, h62, h63, h64, h65, h66, hq67⟩ := hm55
        rcases hq67 with ⟨⟨Q68, g69, hat70, f71, hj72, h73⟩, rfl⟩ | ⟨hj74, rfl⟩
        · have hjt75 : jtemF bs bl.toNatClampNeg p0 f = .inr (Q68, g69) := by unfold jtemF; rw [pick_n (by omega), pick_y ⟨by omega, hlt54⟩]; exact hj72
          exact e_n X h hr hlk rfl dX9_takesItem_47 ⟨ok50, kx53, ⟨_, _, _, _, h62, by omega, by omega, by omega, by omega, Or.inl ⟨⟨_, _, hat70, f71, hjt75, by omega⟩, rfl⟩⟩⟩
        · have hjt76 : jtemF bs bl.toNatClampNeg p0 f = .inl y58.toNatClampNeg := by
            unfold jtemF
            rw [pick_n (by omega), pick_y ⟨by omega, hlt54⟩]
            exact hj74
          exact e_n X h hr hlk rfl dX9_takesItem_47 ⟨ok50, kx53, ⟨_, _, _, _, h62, by omega, by omega, by omega, by omega, Or.inr ⟨hjt76, rfl⟩⟩⟩
      · have f77 : w48 64 = .inr (7, [.ref (ad 65), .ref (ad 66), .ref (ad 67), .ref (ad 68), .long x, .long y, .ref (ad 69), .int mb, .ref (ad 70), .ref (ad 71), .int bl, .int ta, .int tl, .int tk, .int va, .ref (ad 72), .ref (ad 73)]) := hw57.trans pf
        have hjt78 : jtemF bs bl.toNatClampNeg p0 f = .inl ta.toNatClampNeg := by
          unfold jtemF
          rw [pick_n (by omega), pick_n (by omega), pick_n (by omega), pick_n (by omega), pick_n (by omega)]
          have t9 := hAT.1
          have t8 := cl_of (x := ta) (by omega)
          congr 1; omega
        exact e_n X h hr hlk rfl dX9_takesItem_47 ⟨ok50, kx53, ⟨_, _, _, _, f77, by omega, by omega, by omega, by omega, Or.inr ⟨hjt78, rfl⟩⟩⟩
    · have hw44 : ¬ wdAt bs bl.toNatClampNeg p0 = 2 := fun q9 => hw44 (hi45.mpr q9)
      refine lv_if_eq (tgt := 48) hx hb dX9_takesItem_40 (by decide) (fun _ => ?_) (fun hc => absurd (by decide) hc)
      refine lv_aload_n hx hb dX9_takesItem_48 rfl (lv_at hl 0 rfl) ?_
      refine lv_iconst (v := 5) hx hb dX9_takesItem_49 (by decide) ?_
      refine lv_bipush (v := 108) hx hb dX9_takesItem_50 (by decide) ?_
      refine lv_bipush (v := 97) hx hb dX9_takesItem_52 (by decide) ?_
      refine lv_bipush (v := 100) hx hb dX9_takesItem_54 (by decide) ?_
      refine lv_bipush (v := 108) hx hb dX9_takesItem_56 (by decide) ?_
      refine lv_bipush (v := 101) hx hb dX9_takesItem_58 (by decide) ?_
      refine lv_iconst (v := 0) hx hb dX9_takesItem_60 (by decide) ?_
      refine n_Vi (na := 7) (As := [.int 5, .int 108, .int 97, .int 100, .int 108, .int 101, .int 0]) (rest := []) X hD hN h rfl (c_MF_spells l G cI cB cZ cO ad w x y mb bl ta tl tk va bs ok (5 : Int32) (108 : Int32) (97 : Int32) (100 : Int32) (108 : Int32) (101 : Int32) (0 : Int32) (by decide) (by decide) pf (by omega) (by omega) p71 (by omega) (by omega) (by omega)) ⟨kv_688, kv_689, kv_690, kv_470, kv_691⟩ rfl ⟨by decide, by decide, by decide⟩ ⟨Nat.le_of_ble_eq_true rfl, Nat.le_of_ble_eq_true rfl⟩ ⟨Nat.zero_le _, Nat.zero_le _⟩ (by decide) pf rfl rfl hl.1 rfl (Nat.le_of_ble_eq_true rfl) dX9_takesItem_61 (fun r79 w80 H locs hp81 h => ?_)
      obtain ⟨rfl, hr82⟩ := hp81
      have hi84 : SPTP bs ta tl tk (5 : Int32) (108 : Int32) (97 : Int32) (100 : Int32) (108 : Int32) (101 : Int32) (0 : Int32) ↔ wdAt bs bl.toNatClampNeg p0 = 3 := (sp_w (i := 3) (by decide) (by decide)).trans (AT.wd hAT (i := 3) (by decide))
      rcases hr82 with ⟨hw83, rfl⟩ | ⟨hw83, rfl⟩
      · have hw83 : wdAt bs bl.toNatClampNeg p0 = 3 := hi84.mp hw83
        have q85 : tk.toInt = 1 ∧ tl.toInt = 5 := by have a9 := (hi84.mpr hw83); exact ⟨a9.1, a9.2.1⟩
        refine lv_if_eq (tgt := 72) hx hb dX9_takesItem_64 (by decide) (fun hc => absurd hc (by decide)) (fun _ => ?_)
        refine lv_aload_n hx hb dX9_takesItem_67 rfl (lv_at hl 0 rfl) ?_
        refine n_Vi (na := 0) (As := []) (rest := []) X hD hN h rfl (c_MF_takesLadle l G cI cB cZ cO ad w x y mb bl ta tl tk va bs p0 f ok pf (by omega) (by omega) p71 (by omega) (by omega) (by omega) hAT p72 pal) ⟨kv_700, kv_701, kv_702, kv_470, kv_703⟩ rfl ⟨by decide, by decide, by decide⟩ ⟨Nat.le_of_ble_eq_true rfl, Nat.le_of_ble_eq_true rfl⟩ ⟨Nat.zero_le _, Nat.zero_le _⟩ (by decide) pf rfl rfl hl.1 rfl (Nat.le_of_ble_eq_true rfl) dX9_takesItem_68 (fun r86 w87 H locs hp88 h => ?_)
        obtain ⟨ok89, kk90, hr91⟩ := hp88
        have kx92 : KN w w87 := kk90
        obtain ⟨y93, y94, y95, y96, h97, h98, h99, h100, h101, hq102⟩ := hr91
        rcases hq102 with ⟨⟨Q103, g104, hat105, f106, hj107, h108⟩, rfl⟩ | ⟨hj109, rfl⟩
        · have hjt110 : jtemF bs bl.toNatClampNeg p0 f = .inr (Q103, g104) := by unfold jtemF; rw [pick_n (by omega), pick_n (by omega), pick_y (by omega)]; exact hj107
          exact e_n X h hr hlk rfl dX9_takesItem_71 ⟨ok89, kx92, ⟨_, _, _, _, h97, by omega, by omega, by omega, by omega, Or.inl ⟨⟨_, _, hat105, f106, hjt110, by omega⟩, rfl⟩⟩⟩
        · have hjt111 : jtemF bs bl.toNatClampNeg p0 f = .inl y93.toNatClampNeg := by
            unfold jtemF
            rw [pick_n (by omega), pick_n (by omega), pick_y (by omega)]
            exact hj109
          exact e_n X h hr hlk rfl dX9_takesItem_71 ⟨ok89, kx92, ⟨_, _, _, _, h97, by omega, by omega, by omega, by omega, Or.inr ⟨hjt111, rfl⟩⟩⟩
      · have hw83 : ¬ wdAt bs bl.toNatClampNeg p0 = 3 := fun q9 => hw83 (hi84.mpr q9)
        refine lv_if_eq (tgt := 72) hx hb dX9_takesItem_64 (by decide) (fun _ => ?_) (fun hc => absurd (by decide) hc)
        refine lv_aload_n hx hb dX9_takesItem_72 rfl (lv_at hl 0 rfl) ?_
        refine lv_iconst (v := 4) hx hb dX9_takesItem_73 (by decide) ?_
        refine lv_bipush (v := 112) hx hb dX9_takesItem_74 (by decide) ?_
        refine lv_bipush (v := 111) hx hb dX9_takesItem_76 (by decide) ?_
        refine lv_bipush (v := 117) hx hb dX9_takesItem_78 (by decide) ?_
        refine lv_bipush (v := 114) hx hb dX9_takesItem_80 (by decide) ?_
        refine lv_iconst (v := 0) hx hb dX9_takesItem_82 (by decide) ?_
        refine lv_iconst (v := 0) hx hb dX9_takesItem_83 (by decide) ?_
        refine n_Vi (na := 7) (As := [.int 4, .int 112, .int 111, .int 117, .int 114, .int 0, .int 0]) (rest := []) X hD hN h rfl (c_MF_spells l G cI cB cZ cO ad w x y mb bl ta tl tk va bs ok (4 : Int32) (112 : Int32) (111 : Int32) (117 : Int32) (114 : Int32) (0 : Int32) (0 : Int32) (by decide) (by decide) pf (by omega) (by omega) p71 (by omega) (by omega) (by omega)) ⟨kv_688, kv_689, kv_690, kv_470, kv_691⟩ rfl ⟨by decide, by decide, by decide⟩ ⟨Nat.le_of_ble_eq_true rfl, Nat.le_of_ble_eq_true rfl⟩ ⟨Nat.zero_le _, Nat.zero_le _⟩ (by decide) pf rfl rfl hl.1 rfl (Nat.le_of_ble_eq_true rfl) dX9_takesItem_84 (fun r112 w113 H locs hp114 h => ?_)
        obtain ⟨rfl, hr115⟩ := hp114
        have hi117 : SPTP bs ta tl tk (4 : Int32) (112 : Int32) (111 : Int32) (117 : Int32) (114 : Int32) (0 : Int32) (0 : Int32) ↔ wdAt bs bl.toNatClampNeg p0 = 4 := (sp_w (i := 4) (by decide) (by decide)).trans (AT.wd hAT (i := 4) (by decide))
        rcases hr115 with ⟨hw116, rfl⟩ | ⟨hw116, rfl⟩
        · have hw116 : wdAt bs bl.toNatClampNeg p0 = 4 := hi117.mp hw116
          have q118 : tk.toInt = 1 ∧ tl.toInt = 4 := by have a9 := (hi117.mpr hw116); exact ⟨a9.1, a9.2.1⟩
          refine lv_if_eq (tgt := 95) hx hb dX9_takesItem_87 (by decide) (fun hc => absurd hc (by decide)) (fun _ => ?_)
          refine lv_aload_n hx hb dX9_takesItem_90 rfl (lv_at hl 0 rfl) ?_
          refine n_Vi (na := 0) (As := []) (rest := []) X hD hN h rfl (c_MF_takesPour l G cI cB cZ cO ad w x y mb bl ta tl tk va bs p0 f ok pf (by omega) (by omega) p71 (by omega) (by omega) (by omega) hAT p72 pal) ⟨kv_704, kv_705, kv_706, kv_470, kv_707⟩ rfl ⟨by decide, by decide, by decide⟩ ⟨Nat.le_of_ble_eq_true rfl, Nat.le_of_ble_eq_true rfl⟩ ⟨Nat.zero_le _, Nat.zero_le _⟩ (by decide) pf rfl rfl hl.1 rfl (Nat.le_of_ble_eq_true rfl) dX9_takesItem_91 (fun r119 w120 H locs hp121 h => ?_)
          obtain ⟨ok122, kk123, hr124⟩ := hp121
          have kx125 : KN w w120 := kk123
          obtain ⟨y126, y127, y128, y129, h130, h131, h132, h133, h134, hq135⟩ := hr124
          rcases hq135 with ⟨⟨Q136, g137, hat138, f139, hj140, h141⟩, rfl⟩ | ⟨hj142, rfl⟩
          · have hjt143 : jtemF bs bl.toNatClampNeg p0 f = .inr (Q136, g137) := by unfold jtemF; rw [pick_n (by omega), pick_n (by omega), pick_n (by omega), pick_y (by omega)]; exact hj140
            exact e_n X h hr hlk rfl dX9_takesItem_94 ⟨ok122, kx125, ⟨_, _, _, _, h130, by omega, by omega, by omega, by omega, Or.inl ⟨⟨_, _, hat138, f139, hjt143, by omega⟩, rfl⟩⟩⟩
          · have hjt144 : jtemF bs bl.toNatClampNeg p0 f = .inl y126.toNatClampNeg := by
              unfold jtemF
              rw [pick_n (by omega), pick_n (by omega), pick_n (by omega), pick_y (by omega)]
              exact hj142
            exact e_n X h hr hlk rfl dX9_takesItem_94 ⟨ok122, kx125, ⟨_, _, _, _, h130, by omega, by omega, by omega, by omega, Or.inr ⟨hjt144, rfl⟩⟩⟩
        · have hw116 : ¬ wdAt bs bl.toNatClampNeg p0 = 4 := fun q9 => hw116 (hi117.mpr q9)
          refine lv_if_eq (tgt := 95) hx hb dX9_takesItem_87 (by decide) (fun _ => ?_) (fun hc => absurd (by decide) hc)
          refine lv_aload_n hx hb dX9_takesItem_95 rfl (lv_at hl 0 rfl) ?_
          refine lv_iconst (v := 5) hx hb dX9_takesItem_96 (by decide) ?_
          refine lv_bipush (v := 104) hx hb dX9_takesItem_97 (by decide) ?_
          refine lv_bipush (v := 111) hx hb dX9_takesItem_99 (by decide) ?_
          refine lv_bipush (v := 117) hx hb dX9_takesItem_101 (by decide) ?_
          refine lv_bipush (v := 114) hx hb dX9_takesItem_103 (by decide) ?_
          refine lv_bipush (v := 115) hx hb dX9_takesItem_105 (by decide) ?_
          refine lv_iconst (v := 0) hx hb dX9_takesItem_107 (by decide) ?_
          refine n_Vi (na := 7) (As := [.int 5, .int 104, .int 111, .int 117, .int 114, .int 115, .int 0]) (rest := []) X hD hN h rfl (c_MF_spells l G cI cB cZ cO ad w x y mb bl ta tl tk va bs ok (5 : Int32) (104 : Int32) (111 : Int32) (117 : Int32) (114 : Int32) (115 : Int32) (0 : Int32) (by decide) (by decide) pf (by omega) (by omega) p71 (by omega) (by omega) (by omega)) ⟨kv_688, kv_689, kv_690, kv_470, kv_691⟩ rfl ⟨by decide, by decide, by decide⟩ ⟨Nat.le_of_ble_eq_true rfl, Nat.le_of_ble_eq_true rfl⟩ ⟨Nat.zero_le _, Nat.zero_le _⟩ (by decide) pf rfl rfl hl.1 rfl (Nat.le_of_ble_eq_true rfl) dX9_takesItem_108 (fun r145 w146 H locs hp147 h => ?_)
          obtain ⟨rfl, hr148⟩ := hp147
          have hi150 : SPTP bs ta tl tk (5 : Int32) (104 : Int32) (111 : Int32) (117 : Int32) (114 : Int32) (115 : Int32) (0 : Int32) ↔ wdAt bs bl.toNatClampNeg p0 = 5 := (sp_w (i := 5) (by decide) (by decide)).trans (AT.wd hAT (i := 5) (by decide))
          rcases hr148 with ⟨hw149, rfl⟩ | ⟨hw149, rfl⟩
          · have hw149 : wdAt bs bl.toNatClampNeg p0 = 5 := hi150.mp hw149
            have q151 : tk.toInt = 1 ∧ tl.toInt = 5 := by have a9 := (hi150.mpr hw149); exact ⟨a9.1, a9.2.1⟩
            refine lv_if_eq (tgt := 125) hx hb dX9_takesItem_111 (by decide) (fun hc => absurd hc (by decide)) (fun _ => ?_)
            refine lv_aload_n hx hb dX9_takesItem_114 rfl (lv_at hl 0 rfl) ?_
            refine n_Vi (na := 0) (As := []) (rest := []) X hD hN h rfl (c_MF_takesHours l G cI cB cZ cO ad w x y mb bl ta tl tk va bs p0 f ok pf (by omega) (by omega) p71 (by omega) (by omega) (by omega) hAT p72 pal) ⟨kv_708, kv_709, kv_710, kv_470, kv_711⟩ rfl ⟨by decide, by decide, by decide⟩ ⟨Nat.le_of_ble_eq_true rfl, Nat.le_of_ble_eq_true rfl⟩ ⟨Nat.zero_le _, Nat.zero_le _⟩ (by decide) pf rfl rfl hl.1 rfl (Nat.le_of_ble_eq_true rfl) dX9_takesItem_115 (fun r152 w153 H locs hp154 h => ?_)
            obtain ⟨ok155, kk156, hr157⟩ := hp154
            have kx158 : KN w w153 := kk156
            obtain ⟨y159, y160, y161, y162, h163, h164, h165, h166, h167, hq168⟩ := hr157
            rcases hq168 with ⟨⟨Q169, g170, hat171, f172, hj173, h174⟩, rfl⟩ | ⟨hj175, rfl⟩
            · refine lv_if_eq (tgt := 125) hx hb dX9_takesItem_118 (by decide) (fun hc => absurd hc (by decide)) (fun _ => ?_)
              refine lv_iconst (v := 1) hx hb dX9_takesItem_121 (by decide) ?_
              refine lv_goto (tgt := 126) hx hb dX9_takesItem_122 (by decide) ?_
              have hjt176 : jtemF bs bl.toNatClampNeg p0 f = .inr (Q169, g170) := by unfold jtemF; rw [pick_n (by omega), pick_n (by omega), pick_n (by omega), pick_n (by omega), pick_y (by omega)]; exact hj173
              exact e_n X h hr hlk rfl dX9_takesItem_126 ⟨ok155, kx158, ⟨_, _, _, _, h163, by omega, by omega, by omega, by omega, Or.inl ⟨⟨_, _, hat171, f172, hjt176, by omega⟩, rfl⟩⟩⟩
            · refine lv_if_eq (tgt := 125) hx hb dX9_takesItem_118 (by decide) (fun _ => ?_) (fun hc => absurd (by decide) hc)
              refine lv_iconst (v := 0) hx hb dX9_takesItem_125 (by decide) ?_
              have hjt177 : jtemF bs bl.toNatClampNeg p0 f = .inl y159.toNatClampNeg := by
                unfold jtemF
                rw [pick_n (by omega), pick_n (by omega), pick_n (by omega), pick_n (by omega), pick_y (by omega)]
                exact hj175
              exact e_n X h hr hlk rfl dX9_takesItem_126 ⟨ok155, kx158, ⟨_, _, _, _, h163, by omega, by omega, by omega, by omega, Or.inr ⟨hjt177, rfl⟩⟩⟩
          · have hw149 : ¬ wdAt bs bl.toNatClampNeg p0 = 5 := fun q9 => hw149 (hi150.mpr q9)
            refine lv_if_eq (tgt := 125) hx hb dX9_takesItem_111 (by decide) (fun _ => ?_) (fun hc => absurd (by decide) hc)
            refine lv_iconst (v := 0) hx hb dX9_takesItem_125 (by decide) ?_
            have hjt178 : jtemF bs bl.toNatClampNeg p0 f = .inl ta.toNatClampNeg := by
              unfold jtemF
              rw [pick_n (by omega), pick_n (by omega), pick_n (by omega), pick_n (by omega), pick_n (by omega)]
              have t9 := hAT.1
              have t8 := cl_of (x := ta) (by omega)
              congr 1; omega
            exact e_n X h hr hlk rfl dX9_takesItem_126 ⟨ok, KN.rf, ⟨_, _, _, _, pf, by omega, by omega, by omega, by omega, Or.inr ⟨hjt178, rfl⟩⟩⟩
