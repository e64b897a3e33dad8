set_option maxHeartbeats 4000000 in
set_option maxRecDepth 100000 in
theorem c_with (l : Launch) (G : va_G) (cI cB cZ cO : ClassId) (ad : Nat → Nat) (w : Nat → va_E)  (ok : OK cI cB cZ cO ad w) (a : Int32) (i : Int32) (x : Int32) (hl_a : 0 ≤ a.toInt) (hh_a : a.toInt ≤ 3) (hl_i : 0 ≤ i.toInt) (hh_i : i.toInt ≤ 6) (hl_x : 0 ≤ x.toInt) (hh_x : x.toInt ≤ 60)  : NI l G (tyq cI cB cZ cO) yX5_with cX5_with 4 (some .int) 1 21 74 ad w [.ref (ad 58), .int a, .int i, .int x] (fun r w1 => w = w1 ∧ 0 ≤ r.toInt ∧ r.toInt ≤ 60) := by
  refine nk_i (own := "NoonShade$Plan") rfl (by decide) (Nat.le_of_ble_eq_true rfl) ?_
  intro p e s m below meth c ls X hD hN hr hlk h hl
  have hx := X.1.1
  have hb := X.1.2.1
  have hown := X.1.2.2.2.1
  have hts := X.1.2.2.2.2
  have hl : lv_has ls 4 [(0, .ref (ad 58)), (1, .int a), (2, .int i), (3, .int x)] := hl
  refine lv_bipush (v := 60) hx hb dX5_with_0 (by decide) ?_
  refine lv_iload_n hx hb dX5_with_2 rfl (lv_at hl 3 rfl) ?_
  refine lv_iconst (v := 0) hx hb dX5_with_3 (by decide) ?_
  refine lv_aload_n hx hb dX5_with_4 rfl (lv_at hl 0 rfl) ?_
  obtain ⟨t2, t3, t4, f1, h5, h6, h7, h8⟩ := (show sL ad (w 58) from ok 58 (by decide))
  have f9 : w 58 = .inr (3, [.ref (ad 59), .ref (ad 60), .ref (ad 61), .int t2, .int t3, .int t4]) := f1
  refine r_get kc5 X h 58 0 (by decide) rfl f9 (by decide) kv_110 rfl dX5_with_5 ?_
  refine lv_iload_n hx hb dX5_with_8 rfl (lv_at hl 1 rfl) ?_
  refine lv_bipush (v := 7) hx hb dX5_with_9 (by decide) ?_
  obtain ⟨z12, e10, t11⟩ := x_mul (x := a) (y := (7 : Int32)) (a := (a).toInt) (b := 7) rfl rfl (by omega) (by omega)
  refine o_imul (z := z12) hx hb dX5_with_11 e10 ?_
  refine lv_iload_n hx hb dX5_with_12 rfl (lv_at hl 2 rfl) ?_
  obtain ⟨z15, e13, t14⟩ := x_add (x := z12) (y := i) (a := (z12).toInt) (b := (i).toInt) rfl rfl (by omega) (by omega)
  refine o_iadd (z := z15) hx hb dX5_with_13 e13 ?_
  obtain ⟨g17, f16, p18⟩ := (show sA cI 28 (rgA (-1) 100) (w 59) from ok 59 (by decide))
  have f19 : w 59 = .inl (cI, 28, .inl g17) := f16
  obtain ⟨v20, e21⟩ : ∃ z : Int32, g17 (z15).toNatClampNeg = z := ⟨_, rfl⟩
  have h22 := rgA_rd p18 e21
  refine o_iald (v := v20) X h 59 0 (by decide) rfl f19 rfl (in_of (by omega) (by omega)) e21 dX5_with_14 ?_
  have k28 : (0 : Int32).toInt = 0 := rfl
  obtain ⟨z23, e24, t25, t26, t27⟩ := x_max (0 : Int32) v20
  refine o_mmax X hl.1 kv_111 kv_12 kv_2 kv_13 ⟨Nat.le_of_ble_eq_true rfl, Nat.le_of_ble_eq_true rfl⟩ (Nat.le_of_ble_eq_true rfl) ⟨Nat.zero_le _, Nat.zero_le _⟩ e24 dX5_with_15 ?_
  obtain ⟨z31, e29, t30⟩ := x_add (x := x) (y := z23) (a := (x).toInt) (b := (z23).toInt) rfl rfl (by omega) (by omega)
  refine o_iadd (z := z31) hx hb dX5_with_18 e29 ?_
  have k37 : (60 : Int32).toInt = 60 := rfl
  obtain ⟨z32, e33, t34, t35, t36⟩ := x_min (60 : Int32) z31
  refine o_mmin X hl.1 kv_112 kv_5 kv_2 kv_6 ⟨Nat.le_of_ble_eq_true rfl, Nat.le_of_ble_eq_true rfl⟩ (Nat.le_of_ble_eq_true rfl) ⟨Nat.zero_le _, Nat.zero_le _⟩ e33 dX5_with_19 ?_
  exact e_i X h hr hlk dX5_with_22 ⟨rfl, ⟨by omega, by omega⟩⟩

set_option maxHeartbeats 4000000 in
set_option maxRecDepth 100000 in
theorem c_filled (l : Launch) (G : va_G) (cI cB cZ cO : ClassId) (ad : Nat → Nat) (w : Nat → va_E)  (ok : OK cI cB cZ cO ad w) (a : Int32) (x : Int32) (hl_a : 0 ≤ a.toInt) (hh_a : a.toInt ≤ 3) (hl_x : 0 ≤ x.toInt) (hh_x : x.toInt ≤ 60)  : NI l G (tyq cI cB cZ cO) yX5_filled cX5_filled 3 (some .int) 2 44 74 ad w [.ref (ad 58), .int a, .int x] (fun r w1 => w = w1 ∧ 0 ≤ r.toInt ∧ r.toInt ≤ 60) := by
  refine nk_i (own := "NoonShade$Plan") rfl (by decide) (Nat.le_of_ble_eq_true rfl) ?_
  intro p e s m below meth c ls X hD hN hr hlk h hl
  have hx := X.1.1
  have hb := X.1.2.1
  have hown := X.1.2.2.2.1
  have hts := X.1.2.2.2.2
  have hl : lv_has ls 3 [(0, .ref (ad 58)), (1, .int a), (2, .int x)] := hl
  refine lv_aload_n hx hb dX5_filled_0 rfl (lv_at hl 0 rfl) ?_
  obtain ⟨t2, t3, t4, f1, h5, h6, h7, h8⟩ := (show sL ad (w 58) from ok 58 (by decide))
  have f9 : w 58 = .inr (3, [.ref (ad 59), .ref (ad 60), .ref (ad 61), .int t2, .int t3, .int t4]) := f1
  refine r_get kc5 X h 58 2 (by decide) rfl f9 (by decide) kv_113 rfl dX5_filled_1 ?_
  refine lv_iload_n hx hb dX5_filled_4 rfl (lv_at hl 1 rfl) ?_
  obtain ⟨g11, f10, p12⟩ := (show sA cI 4 (rgA (-1) 6) (w 61) from ok 61 (by decide))
  have f13 : w 61 = .inl (cI, 4, .inl g11) := f10
  obtain ⟨v14, e15⟩ : ∃ z : Int32, g11 (a).toNatClampNeg = z := ⟨_, rfl⟩
  have h16 := rgA_rd p12 e15
  refine o_iald (v := v14) X h 61 0 (by decide) rfl f13 rfl (in_of (by omega) (by omega)) e15 dX5_filled_5 ?_
  refine lv_iconst (v := (-1)) hx hb dX5_filled_6 (by decide) ?_
  refine lv_icmp_ne (tgt := 14) hx hb dX5_filled_7 (by decide) (fun hc17 => ?_) (fun hc17 => ?_)
  · have hc17 : ¬ (v14).toInt = (-1) := i_ne hc17 rfl rfl
    refine lv_aload_n hx hb dX5_filled_14 rfl (lv_at hl 0 rfl) ?_
    refine lv_iload_n hx hb dX5_filled_15 rfl (lv_at hl 1 rfl) ?_
    refine lv_aload_n hx hb dX5_filled_16 rfl (lv_at hl 0 rfl) ?_
    refine r_get kc5 X h 58 2 (by decide) rfl f9 (by decide) kv_113 rfl dX5_filled_17 ?_
    refine lv_iload_n hx hb dX5_filled_20 rfl (lv_at hl 1 rfl) ?_
    refine o_iald (v := v14) X h 61 0 (by decide) rfl f13 rfl (in_of (by omega) (by omega)) e15 dX5_filled_21 ?_
    refine lv_iload_n hx hb dX5_filled_22 rfl (lv_at hl 2 rfl) ?_
    refine n_Vi (na := 3) (As := [.int a, .int v14, .int x]) (rest := []) X hD hN h rfl (c_with l G cI cB cZ cO ad w  ok a v14 x (by omega) (by omega) (by omega) (by omega) (by omega) (by omega) ) ⟨kv_114, kv_115, kv_116, kv_117, kv_118⟩ rfl ⟨by decide, by decide, by decide⟩ ⟨Nat.le_of_ble_eq_true rfl, Nat.le_of_ble_eq_true rfl⟩ ⟨Nat.zero_le _, Nat.zero_le _⟩ (by decide) f9 rfl rfl hl.1 rfl (Nat.le_of_ble_eq_true rfl) dX5_filled_23 (fun r18 w19 H locs hp20 h => ?_)
    obtain ⟨rfl, hr21⟩ := hp20
    obtain ⟨h22, h23⟩ := hr21
    exact e_i X h hr hlk dX5_filled_26 ⟨rfl, ⟨by omega, by omega⟩⟩
  · have hc17 : (v14).toInt = (-1) := i_eq hc17 rfl rfl
    refine lv_iload_n hx hb dX5_filled_10 rfl (lv_at hl 2 rfl) ?_
    refine lv_goto (tgt := 26) hx hb dX5_filled_11 (by decide) ?_
    exact e_i X h hr hlk dX5_filled_26 ⟨rfl, ⟨by omega, by omega⟩⟩

set_option maxHeartbeats 4000000 in
set_option maxRecDepth 100000 in
theorem c_mostFrom (l : Launch) (G : va_G) (cI cB cZ cO : ClassId) (ad : Nat → Nat) (w : Nat → va_E)  (ok : OK cI cB cZ cO ad w) (a : Int32) (x : Int32) (hl_a : 0 ≤ a.toInt) (hh_a : a.toInt ≤ 3) (hl_x : 0 ≤ x.toInt) (hh_x : x.toInt ≤ 60)  : NI l G (tyq cI cB cZ cO) yX5_mostFrom cX5_mostFrom 5 (some .int) 2 44 74 ad w [.ref (ad 58), .int a, .int x] (fun r w1 => w = w1 ∧ True) := by
  refine nk_i (own := "NoonShade$Plan") rfl (by decide) (Nat.le_of_ble_eq_true rfl) ?_
  intro p e s m below meth c ls X hD hN hr hlk h hl
  have hx := X.1.1
  have hb := X.1.2.1
  have hown := X.1.2.2.2.1
  have hts := X.1.2.2.2.2
  have hl : lv_has ls 5 [(0, .ref (ad 58)), (1, .int a), (2, .int x)] := hl
  refine lv_aload_n hx hb dX5_mostFrom_0 rfl (lv_at hl 0 rfl) ?_
  obtain ⟨t2, t3, t4, f1, h5, h6, h7, h8⟩ := (show sL ad (w 58) from ok 58 (by decide))
  have f9 : w 58 = .inr (3, [.ref (ad 59), .ref (ad 60), .ref (ad 61), .int t2, .int t3, .int t4]) := f1
  refine r_get kc5 X h 58 1 (by decide) rfl f9 (by decide) kv_119 rfl dX5_mostFrom_1 ?_
  refine lv_iload_n hx hb dX5_mostFrom_4 rfl (lv_at hl 1 rfl) ?_
  refine lv_bipush (v := 61) hx hb dX5_mostFrom_5 (by decide) ?_
  obtain ⟨z12, e10, t11⟩ := x_mul (x := a) (y := (61 : Int32)) (a := (a).toInt) (b := 61) rfl rfl (by omega) (by omega)
  refine o_imul (z := z12) hx hb dX5_mostFrom_7 e10 ?_
  refine lv_iload_n hx hb dX5_mostFrom_8 rfl (lv_at hl 2 rfl) ?_
  obtain ⟨z15, e13, t14⟩ := x_add (x := z12) (y := x) (a := (z12).toInt) (b := (x).toInt) rfl rfl (by omega) (by omega)
  refine o_iadd (z := z15) hx hb dX5_mostFrom_9 e13 ?_
  obtain ⟨g17, f16, p18⟩ := (show sA cI 244 (anyA) (w 60) from ok 60 (by decide))
  have f19 : w 60 = .inl (cI, 244, .inl g17) := f16
  obtain ⟨v20, e21⟩ : ∃ z : Int32, g17 (z15).toNatClampNeg = z := ⟨_, rfl⟩
  refine o_iald (v := v20) X h 60 0 (by decide) rfl f19 rfl (in_of (by omega) (by omega)) e21 dX5_mostFrom_10 ?_
  refine lv_istore_n (lv' := [(3, .int v20), (0, .ref (ad 58)), (1, .int a), (2, .int x)]) hx hb dX5_mostFrom_11 rfl hl (by decide) rfl (fun ls hl => ?_)
  refine lv_iconst (v := 0) hx hb dX5_mostFrom_12 (by decide) ?_
  refine lv_istore (lv' := [(4, .int 0), (3, .int v20), (0, .ref (ad 58)), (1, .int a), (2, .int x)]) hx hb dX5_mostFrom_13 hl (by decide) rfl (fun ls hl => ?_)
  have hloop25 : ∀ (d26 : Nat) (L23 : Int32) (L24 : Int32) (H : Heap) (locs : List Loc) (ls : Array Slot), 0 ≤ L23.toInt → L23.toInt ≤ 7 → 7 - L23.toInt < (d26 : Int) → St G 74 ad (wA 74 ad s.heap.size) s.heap w H locs → lv_has ls 5 [(4, .int L23), (3, .int L24), (0, .ref (ad 58)), (1, .int a), (2, .int x)] → W p l e { frames := 2, cells := 0, slots := 0, locals := 44 } s m [.ref (ad 58), .int a, .int x].toArray below meth c H locs 0 0 (MQ below (va_Qi (fun r w1 => w = w1 ∧ True) (Aft G 74 ad) (wA 74 ad s.heap.size)) [.ref (ad 58), .int a, .int x].toArray s 0 0 (wA 74 ad s.heap.size)) (F0 m 15 ls []) := by
    intro d26
    induction d26 with
    | zero => intro L23 L24 H locs ls hi29 hi30 hm28 h hl; exfalso; omega
    | succ d26 ih27 =>
      intro L23 L24 H locs ls hi29 hi30 hm28 h hl
      refine lv_iload hx hb dX5_mostFrom_15 (lv_at hl 0 rfl) ?_
      refine lv_aload_n hx hb dX5_mostFrom_17 rfl (lv_at hl 2 rfl) ?_
      refine r_get kc5 X h 58 3 (by decide) rfl f9 (by decide) kv_120 rfl dX5_mostFrom_18 ?_
      refine lv_icmp_ge (tgt := 53) hx hb dX5_mostFrom_21 (by decide) (fun hc34 => ?_) (fun hc34 => ?_)
      · have hc34 : (t2).toInt ≤ (L23).toInt := i_le hc34 rfl rfl
        refine lv_iload_n hx hb dX5_mostFrom_53 rfl (lv_at hl 1 rfl) ?_
        exact e_i X h hr hlk dX5_mostFrom_54 ⟨rfl, trivial⟩
      · have hc34 : ¬ (t2).toInt ≤ (L23).toInt := i_nle hc34 rfl rfl
        refine lv_iload_n hx hb dX5_mostFrom_24 rfl (lv_at hl 1 rfl) ?_
        refine lv_aload_n hx hb dX5_mostFrom_25 rfl (lv_at hl 2 rfl) ?_
        refine r_get kc5 X h 58 1 (by decide) rfl f9 (by decide) kv_119 rfl dX5_mostFrom_26 ?_
        refine lv_iload_n hx hb dX5_mostFrom_29 rfl (lv_at hl 3 rfl) ?_
        refine lv_bipush (v := 61) hx hb dX5_mostFrom_30 (by decide) ?_
        obtain ⟨z37, e35, t36⟩ := x_mul (x := a) (y := (61 : Int32)) (a := (a).toInt) (b := 61) rfl rfl (by omega) (by omega)
        refine o_imul (z := z37) hx hb dX5_mostFrom_32 e35 ?_
        refine lv_aload_n hx hb dX5_mostFrom_33 rfl (lv_at hl 2 rfl) ?_
        refine lv_iload_n hx hb dX5_mostFrom_34 rfl (lv_at hl 3 rfl) ?_
        refine lv_iload hx hb dX5_mostFrom_35 (lv_at hl 0 rfl) ?_
        refine lv_iload_n hx hb dX5_mostFrom_37 rfl (lv_at hl 4 rfl) ?_
        refine n_Vi (na := 3) (As := [.int a, .int L23, .int x]) (rest := [.int z37, .ref (ad 60), .int L24]) X hD hN h rfl (c_with l G cI cB cZ cO ad w  ok a L23 x (by omega) (by omega) (by omega) (by omega) (by omega) (by omega) ) ⟨kv_114, kv_115, kv_116, kv_117, kv_118⟩ rfl ⟨by decide, by decide, by decide⟩ ⟨Nat.le_of_ble_eq_true rfl, Nat.le_of_ble_eq_true rfl⟩ ⟨Nat.zero_le _, Nat.zero_le _⟩ (by decide) f9 rfl rfl hl.1 rfl (Nat.le_of_ble_eq_true rfl) dX5_mostFrom_38 (fun r38 w39 H locs hp40 h => ?_)
        obtain ⟨rfl, hr41⟩ := hp40
        obtain ⟨h42, h43⟩ := hr41
        obtain ⟨z46, e44, t45⟩ := x_add (x := z37) (y := r38) (a := (z37).toInt) (b := (r38).toInt) rfl rfl (by omega) (by omega)
        refine o_iadd (z := z46) hx hb dX5_mostFrom_41 e44 ?_
        obtain ⟨v47, e48⟩ : ∃ z : Int32, g17 (z46).toNatClampNeg = z := ⟨_, rfl⟩
        refine o_iald (v := v47) X h 60 0 (by decide) rfl f19 rfl (in_of (by omega) (by omega)) e48 dX5_mostFrom_42 ?_
        obtain ⟨z50, e51, t52, t53, t54⟩ := x_max L24 v47
        refine o_mmax X hl.1 kv_111 kv_12 kv_2 kv_13 ⟨Nat.le_of_ble_eq_true rfl, Nat.le_of_ble_eq_true rfl⟩ (Nat.le_of_ble_eq_true rfl) ⟨Nat.zero_le _, Nat.zero_le _⟩ e51 dX5_mostFrom_43 ?_
        refine lv_istore_n (lv' := [(3, .int z50), (4, .int L23), (0, .ref (ad 58)), (1, .int a), (2, .int x)]) hx hb dX5_mostFrom_46 rfl hl (by decide) rfl (fun ls hl => ?_)
        obtain ⟨z55, e56, t57⟩ := x_add (x := L23) (y := 1) (a := L23.toInt) (b := 1) rfl rfl (by omega) (by omega)
        refine lv_iinc (v := z55) (lv' := [(4, .int z55), (3, .int z50), (0, .ref (ad 58)), (1, .int a), (2, .int x)]) hx hb dX5_mostFrom_47 hl (k := 1) rfl e56 (by decide) rfl (fun ls hl => ?_)
        refine lv_goto (tgt := 15) hx hb dX5_mostFrom_50 (by decide) ?_
        exact ih27  z55 z50  _ _ _ (by omega) (by omega)  (by omega) h (lv_sub hl [0, 1, 2, 3, 4] rfl)
  exact hloop25 8 (0 : Int32) v20  _ _ _ (by have q0 : (0 : Int32).toInt = 0 := rfl; omega) (by have q0 : (0 : Int32).toInt = 0 := rfl; omega)  (by have q0 : (0 : Int32).toInt = 0 := rfl; omega) h (lv_sub hl [0, 1, 2, 3, 4] rfl)

set_option maxHeartbeats 4000000 in
set_option maxRecDepth 100000 in
theorem c_firstThatReaches (l : Launch) (G : va_G) (cI cB cZ cO : ClassId) (ad : Nat → Nat) (w : Nat → va_E)  (ok : OK cI cB cZ cO ad w) (a : Int32) (x : Int32) (hl_a : 0 ≤ a.toInt) (hh_a : a.toInt ≤ 3) (hl_x : 0 ≤ x.toInt) (hh_x : x.toInt ≤ 60)  : NI l G (tyq cI cB cZ cO) yX5_firstThatReaches cX5_firstThatReaches 4 (some .int) 2 44 74 ad w [.ref (ad 58), .int a, .int x] (fun r w1 => w = w1 ∧ (-1) ≤ r.toInt ∧ r.toInt ≤ 6) := by
  refine nk_i (own := "NoonShade$Plan") rfl (by decide) (Nat.le_of_ble_eq_true rfl) ?_
  intro p e s m below meth c ls X hD hN hr hlk h hl
  have hx := X.1.1
  have hb := X.1.2.1
  have hown := X.1.2.2.2.1
  have hts := X.1.2.2.2.2
  have hl : lv_has ls 4 [(0, .ref (ad 58)), (1, .int a), (2, .int x)] := hl
  refine lv_iconst (v := 0) hx hb dX5_firstThatReaches_0 (by decide) ?_
  refine lv_istore_n (lv' := [(3, .int 0), (0, .ref (ad 58)), (1, .int a), (2, .int x)]) hx hb dX5_firstThatReaches_1 rfl hl (by decide) rfl (fun ls hl => ?_)
  have hloop2 : ∀ (d3 : Nat) (L1 : Int32) (H : Heap) (locs : List Loc) (ls : Array Slot), 0 ≤ L1.toInt → L1.toInt ≤ 7 → 7 - L1.toInt < (d3 : Int) → St G 74 ad (wA 74 ad s.heap.size) s.heap w H locs → lv_has ls 4 [(3, .int L1), (0, .ref (ad 58)), (1, .int a), (2, .int x)] → W p l e { frames := 2, cells := 0, slots := 0, locals := 44 } s m [.ref (ad 58), .int a, .int x].toArray below meth c H locs 0 0 (MQ below (va_Qi (fun r w1 => w = w1 ∧ (-1) ≤ r.toInt ∧ r.toInt ≤ 6) (Aft G 74 ad) (wA 74 ad s.heap.size)) [.ref (ad 58), .int a, .int x].toArray s 0 0 (wA 74 ad s.heap.size)) (F0 m 2 ls []) := by
    intro d3
    induction d3 with
    | zero => intro L1 H locs ls hi6 hi7 hm5 h hl; exfalso; omega
    | succ d3 ih4 =>
      intro L1 H locs ls hi6 hi7 hm5 h hl
      refine lv_iload_n hx hb dX5_firstThatReaches_2 rfl (lv_at hl 0 rfl) ?_
      refine lv_aload_n hx hb dX5_firstThatReaches_3 rfl (lv_at hl 1 rfl) ?_
      obtain ⟨t12, t13, t14, f11, h15, h16, h17, h18⟩ := (show sL ad (w 58) from ok 58 (by decide))
      have f19 : w 58 = .inr (3, [.ref (ad 59), .ref (ad 60), .ref (ad 61), .int t12, .int t13, .int t14]) := f11
      refine r_get kc5 X h 58 3 (by decide) rfl f19 (by decide) kv_120 rfl dX5_firstThatReaches_4 ?_
      refine lv_icmp_ge (tgt := 57) hx hb dX5_firstThatReaches_7 (by decide) (fun hc20 => ?_) (fun hc20 => ?_)
      · have hc20 : (t12).toInt ≤ (L1).toInt := i_le hc20 rfl rfl
        refine lv_iconst (v := (-1)) hx hb dX5_firstThatReaches_57 (by decide) ?_
        exact e_i X h hr hlk dX5_firstThatReaches_58 ⟨rfl, ⟨by decide, by decide⟩⟩
      · have hc20 : ¬ (t12).toInt ≤ (L1).toInt := i_nle hc20 rfl rfl
        refine lv_aload_n hx hb dX5_firstThatReaches_10 rfl (lv_at hl 1 rfl) ?_
        refine r_get kc5 X h 58 0 (by decide) rfl f19 (by decide) kv_110 rfl dX5_firstThatReaches_11 ?_
        refine lv_iload_n hx hb dX5_firstThatReaches_14 rfl (lv_at hl 2 rfl) ?_
        refine lv_bipush (v := 7) hx hb dX5_firstThatReaches_15 (by decide) ?_
        obtain ⟨z23, e21, t22⟩ := x_mul (x := a) (y := (7 : Int32)) (a := (a).toInt) (b := 7) rfl rfl (by omega) (by omega)
        refine o_imul (z := z23) hx hb dX5_firstThatReaches_17 e21 ?_
        refine lv_iload_n hx hb dX5_firstThatReaches_18 rfl (lv_at hl 0 rfl) ?_
        obtain ⟨z26, e24, t25⟩ := x_add (x := z23) (y := L1) (a := (z23).toInt) (b := (L1).toInt) rfl rfl (by omega) (by omega)
        refine o_iadd (z := z26) hx hb dX5_firstThatReaches_19 e24 ?_
        obtain ⟨g28, f27, p29⟩ := (show sA cI 28 (rgA (-1) 100) (w 59) from ok 59 (by decide))
        have f30 : w 59 = .inl (cI, 28, .inl g28) := f27
        obtain ⟨v31, e32⟩ : ∃ z : Int32, g28 (z26).toNatClampNeg = z := ⟨_, rfl⟩
        have h33 := rgA_rd p29 e32
        refine o_iald (v := v31) X h 59 0 (by decide) rfl f30 rfl (in_of (by omega) (by omega)) e32 dX5_firstThatReaches_20 ?_
        refine lv_iconst (v := (-1)) hx hb dX5_firstThatReaches_21 (by decide) ?_
        refine lv_icmp_eq (tgt := 51) hx hb dX5_firstThatReaches_22 (by decide) (fun hc34 => ?_) (fun hc34 => ?_)
        · have hc34 : (v31).toInt = (-1) := i_eq hc34 rfl rfl
          obtain ⟨z35, e36, t37⟩ := x_add (x := L1) (y := 1) (a := L1.toInt) (b := 1) rfl rfl (by omega) (by omega)
          refine lv_iinc (v := z35) (lv' := [(3, .int z35), (0, .ref (ad 58)), (1, .int a), (2, .int x)]) hx hb dX5_firstThatReaches_51 hl (k := 0) rfl e36 (by decide) rfl (fun ls hl => ?_)
          refine lv_goto (tgt := 2) hx hb dX5_firstThatReaches_54 (by decide) ?_
          exact ih4  z35  _ _ _ (by omega) (by omega)  (by omega) h (lv_sub hl [0, 1, 2, 3] rfl)
        · have hc34 : ¬ (v31).toInt = (-1) := i_ne hc34 rfl rfl
          refine lv_aload_n hx hb dX5_firstThatReaches_25 rfl (lv_at hl 1 rfl) ?_
          refine r_get kc5 X h 58 1 (by decide) rfl f19 (by decide) kv_119 rfl dX5_firstThatReaches_26 ?_
          refine lv_iload_n hx hb dX5_firstThatReaches_29 rfl (lv_at hl 2 rfl) ?_
          refine lv_bipush (v := 61) hx hb dX5_firstThatReaches_30 (by decide) ?_
          obtain ⟨z40, e38, t39⟩ := x_mul (x := a) (y := (61 : Int32)) (a := (a).toInt) (b := 61) rfl rfl (by omega) (by omega)
          refine o_imul (z := z40) hx hb dX5_firstThatReaches_32 e38 ?_
          refine lv_aload_n hx hb dX5_firstThatReaches_33 rfl (lv_at hl 1 rfl) ?_
          refine lv_iload_n hx hb dX5_firstThatReaches_34 rfl (lv_at hl 2 rfl) ?_
          refine lv_iload_n hx hb dX5_firstThatReaches_35 rfl (lv_at hl 0 rfl) ?_
          refine lv_iload_n hx hb dX5_firstThatReaches_36 rfl (lv_at hl 3 rfl) ?_
          refine n_Vi (na := 3) (As := [.int a, .int L1, .int x]) (rest := [.int z40, .ref (ad 60)]) X hD hN h rfl (c_with l G cI cB cZ cO ad w  ok a L1 x (by omega) (by omega) (by omega) (by omega) (by omega) (by omega) ) ⟨kv_114, kv_115, kv_116, kv_117, kv_118⟩ rfl ⟨by decide, by decide, by decide⟩ ⟨Nat.le_of_ble_eq_true rfl, Nat.le_of_ble_eq_true rfl⟩ ⟨Nat.zero_le _, Nat.zero_le _⟩ (by decide) f19 rfl rfl hl.1 rfl (Nat.le_of_ble_eq_true rfl) dX5_firstThatReaches_37 (fun r41 w42 H locs hp43 h => ?_)
          obtain ⟨rfl, hr44⟩ := hp43
          obtain ⟨h45, h46⟩ := hr44
          obtain ⟨z49, e47, t48⟩ := x_add (x := z40) (y := r41) (a := (z40).toInt) (b := (r41).toInt) rfl rfl (by omega) (by omega)
          refine o_iadd (z := z49) hx hb dX5_firstThatReaches_40 e47 ?_
          obtain ⟨g51, f50, p52⟩ := (show sA cI 244 (anyA) (w 60) from ok 60 (by decide))
          have f53 : w 60 = .inl (cI, 244, .inl g51) := f50
          obtain ⟨v54, e55⟩ : ∃ z : Int32, g51 (z49).toNatClampNeg = z := ⟨_, rfl⟩
          refine o_iald (v := v54) X h 60 0 (by decide) rfl f53 rfl (in_of (by omega) (by omega)) e55 dX5_firstThatReaches_41 ?_
          refine lv_aload_n hx hb dX5_firstThatReaches_42 rfl (lv_at hl 1 rfl) ?_
          refine r_get kc5 X h 58 5 (by decide) rfl f19 (by decide) kv_121 rfl dX5_firstThatReaches_43 ?_
          refine lv_icmp_ne (tgt := 51) hx hb dX5_firstThatReaches_46 (by decide) (fun hc57 => ?_) (fun hc57 => ?_)
          · have hc57 : ¬ (v54).toInt = (t14).toInt := i_ne hc57 rfl rfl
            obtain ⟨z58, e59, t60⟩ := x_add (x := L1) (y := 1) (a := L1.toInt) (b := 1) rfl rfl (by omega) (by omega)
            refine lv_iinc (v := z58) (lv' := [(3, .int z58), (0, .ref (ad 58)), (1, .int a), (2, .int x)]) hx hb dX5_firstThatReaches_51 hl (k := 0) rfl e59 (by decide) rfl (fun ls hl => ?_)
            refine lv_goto (tgt := 2) hx hb dX5_firstThatReaches_54 (by decide) ?_
            exact ih4  z58  _ _ _ (by omega) (by omega)  (by omega) h (lv_sub hl [0, 1, 2, 3] rfl)
          · have hc57 : (v54).toInt = (t14).toInt := i_eq hc57 rfl rfl
            refine lv_iload_n hx hb dX5_firstThatReaches_49 rfl (lv_at hl 0 rfl) ?_
            exact e_i X h hr hlk dX5_firstThatReaches_50 ⟨rfl, ⟨by omega, by omega⟩⟩
  exact hloop2 8 (0 : Int32)  _ _ _ (by have q0 : (0 : Int32).toInt = 0 := rfl; omega) (by have q0 : (0 : Int32).toInt = 0 := rfl; omega)  (by have q0 : (0 : Int32).toInt = 0 := rfl; omega) h (lv_sub hl [0, 1, 2, 3] rfl)

set_option maxHeartbeats 4000000 in
set_option maxRecDepth 100000 in
theorem c_askCasters (l : Launch) (G : va_G) (cI cB cZ cO : ClassId) (ad : Nat → Nat) (w : Nat → va_E)  (ok : OK cI cB cZ cO ad w) (a : Int32) (hl_a : 0 ≤ a.toInt) (hh_a : a.toInt ≤ 3)  : NV l G (tyq cI cB cZ cO) yX5_askCasters cX5_askCasters 4 3 67 74 ad w [.ref (ad 58), .ref (ad 1), .int a] (fun w1 => OK cI cB cZ cO ad w1 ∧ KX w w1 ∧ True) := by
  refine nk_v (own := "NoonShade$Plan") rfl (by decide) (Nat.le_of_ble_eq_true rfl) ?_
  intro p e s m below meth c ls X hD hN hr hlk h hl
  have hx := X.1.1
  have hb := X.1.2.1
  have hown := X.1.2.2.2.1
  have hts := X.1.2.2.2.2
  have hl : lv_has ls 4 [(0, .ref (ad 58)), (1, .ref (ad 1)), (2, .int a)] := hl
  refine lv_iconst (v := 0) hx hb dX5_askCasters_0 (by decide) ?_
  refine lv_istore_n (lv' := [(3, .int 0), (0, .ref (ad 58)), (1, .ref (ad 1)), (2, .int a)]) hx hb dX5_askCasters_1 rfl hl (by decide) rfl (fun ls hl => ?_)
  have hloop3 : ∀ (d4 : Nat) (L1 : Int32) (wL2 : Nat → va_E) (H : Heap) (locs : List Loc) (ls : Array Slot), 0 ≤ L1.toInt → L1.toInt ≤ 7 → OK cI cB cZ cO ad wL2 → KX w wL2 → 7 - L1.toInt < (d4 : Int) → St G 74 ad (wA 74 ad s.heap.size) s.heap wL2 H locs → lv_has ls 4 [(3, .int L1), (0, .ref (ad 58)), (1, .ref (ad 1)), (2, .int a)] → W p l e { frames := 3, cells := 0, slots := 0, locals := 67 } s m [.ref (ad 58), .ref (ad 1), .int a].toArray below meth c H locs 0 0 (MQ below (va_Qv (fun w1 => OK cI cB cZ cO ad w1 ∧ KX w w1 ∧ True) (Aft G 74 ad) (wA 74 ad s.heap.size)) [.ref (ad 58), .ref (ad 1), .int a].toArray s 0 0 (wA 74 ad s.heap.size)) (F0 m 2 ls []) := by
    intro d4
    induction d4 with
    | zero => intro L1 wL2 H locs ls hi7 hi8 ok9 kx10 hm6 h hl; exfalso; omega
    | succ d4 ih5 =>
      intro L1 wL2 H locs ls hi7 hi8 ok9 kx10 hm6 h hl
      refine lv_iload_n hx hb dX5_askCasters_2 rfl (lv_at hl 0 rfl) ?_
      refine lv_aload_n hx hb dX5_askCasters_3 rfl (lv_at hl 1 rfl) ?_
      obtain ⟨t13, t14, t15, f12, h16, h17, h18, h19⟩ := (show sL ad (wL2 58) from ok9 58 (by decide))
      have f20 : wL2 58 = .inr (3, [.ref (ad 59), .ref (ad 60), .ref (ad 61), .int t13, .int t14, .int t15]) := f12
      refine r_get kc5 X h 58 3 (by decide) rfl f20 (by decide) kv_120 rfl dX5_askCasters_4 ?_
      refine lv_icmp_ge (tgt := 49) hx hb dX5_askCasters_7 (by decide) (fun hc21 => ?_) (fun hc21 => ?_)
      · have hc21 : (t13).toInt ≤ (L1).toInt := i_le hc21 rfl rfl
        exact e_v X h hr hlk dX5_askCasters_49 ⟨ok9, kx10, trivial⟩
      · have hc21 : ¬ (t13).toInt ≤ (L1).toInt := i_nle hc21 rfl rfl
        refine lv_aload_n hx hb dX5_askCasters_10 rfl (lv_at hl 1 rfl) ?_
        refine r_get kc5 X h 58 0 (by decide) rfl f20 (by decide) kv_110 rfl dX5_askCasters_11 ?_
        refine lv_iload_n hx hb dX5_askCasters_14 rfl (lv_at hl 3 rfl) ?_
        refine lv_bipush (v := 7) hx hb dX5_askCasters_15 (by decide) ?_
        obtain ⟨z24, e22, t23⟩ := x_mul (x := a) (y := (7 : Int32)) (a := (a).toInt) (b := 7) rfl rfl (by omega) (by omega)
        refine o_imul (z := z24) hx hb dX5_askCasters_17 e22 ?_
        refine lv_iload_n hx hb dX5_askCasters_18 rfl (lv_at hl 0 rfl) ?_
        obtain ⟨z27, e25, t26⟩ := x_add (x := z24) (y := L1) (a := (z24).toInt) (b := (L1).toInt) rfl rfl (by omega) (by omega)
        refine o_iadd (z := z27) hx hb dX5_askCasters_19 e25 ?_
        refine lv_iload_n hx hb dX5_askCasters_20 rfl (lv_at hl 3 rfl) ?_
        refine lv_if_ne (tgt := 36) hx hb dX5_askCasters_21 (by decide) (fun hc28 => ?_) (fun hc28 => ?_)
        · have hc28 : ¬ (a).toInt = 0 := i_ne hc28 rfl rfl
          refine lv_aload_n hx hb dX5_askCasters_36 rfl (lv_at hl 2 rfl) ?_
          refine lv_iload_n hx hb dX5_askCasters_37 rfl (lv_at hl 0 rfl) ?_
          refine lv_iload_n hx hb dX5_askCasters_38 rfl (lv_at hl 3 rfl) ?_
          obtain ⟨q33, q34, q35, q36, q37, f32, h38, h39, h40, h41⟩ := (show sI ad 1 (wL2 1) from ok9 1 (by decide))
          have f42 : wL2 1 = .inr (1, [.int q33, .int q34, .int q35, .int q36, .int q37, .ref (ad 2), .ref (ad 3), .ref (ad 4), .ref (ad 5), .ref (ad 6), .ref (ad 7), .ref (ad 8), .ref (ad 10), .ref (ad 12)]) := f32
          refine n_Vi (na := 2) (As := [.int L1, .int a]) (rest := [.int z27, .ref (ad 59)]) X hD hN h rfl (c_givenBehind l G cI cB cZ cO ad wL2 1 (Or.inl rfl) ok9 L1 a (by omega) (by omega) ) ⟨kv_122, kv_40, kv_41, kv_37, kv_42⟩ rfl ⟨by decide, by decide, by decide⟩ ⟨Nat.le_of_ble_eq_true rfl, Nat.le_of_ble_eq_true rfl⟩ ⟨Nat.zero_le _, Nat.zero_le _⟩ (by decide) f42 rfl rfl hl.1 rfl (Nat.le_of_ble_eq_true rfl) dX5_askCasters_39 (fun r29 w30 H locs hp31 h => ?_)
          obtain ⟨rfl, hr43⟩ := hp31
          obtain ⟨h44, h45⟩ := hr43
          obtain ⟨g47, f46, p48⟩ := (show sA cI 28 (rgA (-1) 100) (wL2 59) from ok9 59 (by decide))
          have f49 : wL2 59 = .inl (cI, 28, .inl g47) := f46
          obtain ⟨g50, e51⟩ : ∃ z : Nat → Int32, upd g47 (z27).toNatClampNeg r29 = z := ⟨_, rfl⟩
          have p52 : rgA (-1) 100 g50 := rgA_upd p48 e51 (by omega) (by omega)
          refine o_iast (f1 := g50) X hD h 59 0 (by decide) rfl f49 rfl (in_of (by omega) (by omega)) e51 dX5_askCasters_42 (fun H locs w53 e54 h => ?_)
          have f55 : w53 59 = .inl (cI, 28, .inl g50) := (congrFun e54 _).trans (va_up_self _ _ _)
          have ok56 : OK cI cB cZ cO ad w53 := OK.up ok9 e54 (sA_mk p52)
          have kx57 : KX w w53 := KX.up kx10 e54 f49 rfl
          obtain ⟨z58, e59, t60⟩ := x_add (x := L1) (y := 1) (a := L1.toInt) (b := 1) rfl rfl (by omega) (by omega)
          refine lv_iinc (v := z58) (lv' := [(3, .int z58), (0, .ref (ad 58)), (1, .ref (ad 1)), (2, .int a)]) hx hb dX5_askCasters_43 hl (k := 0) rfl e59 (by decide) rfl (fun ls hl => ?_)
          refine lv_goto (tgt := 2) hx hb dX5_askCasters_46 (by decide) ?_
          exact ih5  z58 w53 _ _ _ (by omega) (by omega) ok56 kx57 (by omega) h (lv_sub hl [0, 1, 2, 3] rfl)
        · have hc28 : (a).toInt = 0 := i_eq hc28 rfl rfl
          refine lv_aload_n hx hb dX5_askCasters_24 rfl (lv_at hl 2 rfl) ?_
          refine lv_iload_n hx hb dX5_askCasters_25 rfl (lv_at hl 0 rfl) ?_
          obtain ⟨q65, q66, q67, q68, q69, f64, h70, h71, h72, h73⟩ := (show sI ad 1 (wL2 1) from ok9 1 (by decide))
          have f74 : wL2 1 = .inr (1, [.int q65, .int q66, .int q67, .int q68, .int q69, .ref (ad 2), .ref (ad 3), .ref (ad 4), .ref (ad 5), .ref (ad 6), .ref (ad 7), .ref (ad 8), .ref (ad 10), .ref (ad 12)]) := f64
          refine n_Vi (na := 1) (As := [.int L1]) (rest := [.int z27, .ref (ad 59)]) X hD hN h rfl (c_isMilked l G cI cB cZ cO ad wL2 1 (Or.inl rfl) ok9 L1  ) ⟨kv_123, kv_35, kv_36, kv_37, kv_38⟩ rfl ⟨by decide, by decide, by decide⟩ ⟨Nat.le_of_ble_eq_true rfl, Nat.le_of_ble_eq_true rfl⟩ ⟨Nat.zero_le _, Nat.zero_le _⟩ (by decide) f74 rfl rfl hl.1 rfl (Nat.le_of_ble_eq_true rfl) dX5_askCasters_26 (fun r61 w62 H locs hp63 h => ?_)
          obtain ⟨rfl, hr75⟩ := hp63
          rcases hr75 with rfl | rfl
          · refine lv_if_eq (tgt := 36) hx hb dX5_askCasters_29 (by decide) (fun hc => absurd hc (by decide)) (fun _ => ?_)
            refine lv_iconst (v := (-1)) hx hb dX5_askCasters_32 (by decide) ?_
            refine lv_goto (tgt := 42) hx hb dX5_askCasters_33 (by decide) ?_
            obtain ⟨g77, f76, p78⟩ := (show sA cI 28 (rgA (-1) 100) (wL2 59) from ok9 59 (by decide))
            have f79 : wL2 59 = .inl (cI, 28, .inl g77) := f76
            obtain ⟨g80, e81⟩ : ∃ z : Nat → Int32, upd g77 (z27).toNatClampNeg ((-1) : Int32) = z := ⟨_, rfl⟩
            have p82 : rgA (-1) 100 g80 := rgA_upd p78 e81 (by decide) (by decide)
            refine o_iast (f1 := g80) X hD h 59 0 (by decide) rfl f79 rfl (in_of (by omega) (by omega)) e81 dX5_askCasters_42 (fun H locs w83 e84 h => ?_)
            have f85 : w83 59 = .inl (cI, 28, .inl g80) := (congrFun e84 _).trans (va_up_self _ _ _)
            have ok86 : OK cI cB cZ cO ad w83 := OK.up ok9 e84 (sA_mk p82)
            have kx87 : KX w w83 := KX.up kx10 e84 f79 rfl
            obtain ⟨z88, e89, t90⟩ := x_add (x := L1) (y := 1) (a := L1.toInt) (b := 1) rfl rfl (by omega) (by omega)
            refine lv_iinc (v := z88) (lv' := [(3, .int z88), (0, .ref (ad 58)), (1, .ref (ad 1)), (2, .int a)]) hx hb dX5_askCasters_43 hl (k := 0) rfl e89 (by decide) rfl (fun ls hl => ?_)
            refine lv_goto (tgt := 2) hx hb dX5_askCasters_46 (by decide) ?_
            exact ih5  z88 w83 _ _ _ (by omega) (by omega) ok86 kx87 (by omega) h (lv_sub hl [0, 1, 2, 3] rfl)
          · refine lv_if_eq (tgt := 36) hx hb dX5_askCasters_29 (by decide) (fun _ => ?_) (fun hc => absurd (by decide) hc)
            refine lv_aload_n hx hb dX5_askCasters_36 rfl (lv_at hl 2 rfl) ?_
            refine lv_iload_n hx hb dX5_askCasters_37 rfl (lv_at hl 0 rfl) ?_
            refine lv_iload_n hx hb dX5_askCasters_38 rfl (lv_at hl 3 rfl) ?_
            refine n_Vi (na := 2) (As := [.int L1, .int a]) (rest := [.int z27, .ref (ad 59)]) X hD hN h rfl (c_givenBehind l G cI cB cZ cO ad wL2 1 (Or.inl rfl) ok9 L1 a (by omega) (by omega) ) ⟨kv_122, kv_40, kv_41, kv_37, kv_42⟩ rfl ⟨by decide, by decide, by decide⟩ ⟨Nat.le_of_ble_eq_true rfl, Nat.le_of_ble_eq_true rfl⟩ ⟨Nat.zero_le _, Nat.zero_le _⟩ (by decide) f74 rfl rfl hl.1 rfl (Nat.le_of_ble_eq_true rfl) dX5_askCasters_39 (fun r91 w92 H locs hp93 h => ?_)
            obtain ⟨rfl, hr94⟩ := hp93
            obtain ⟨h95, h96⟩ := hr94
            obtain ⟨g98, f97, p99⟩ := (show sA cI 28 (rgA (-1) 100) (wL2 59) from ok9 59 (by decide))
            have f100 : wL2 59 = .inl (cI, 28, .inl g98) := f97
            obtain ⟨g101, e102⟩ : ∃ z : Nat → Int32, upd g98 (z27).toNatClampNeg r91 = z := ⟨_, rfl⟩
            have p103 : rgA (-1) 100 g101 := rgA_upd p99 e102 (by omega) (by omega)
            refine o_iast (f1 := g101) X hD h 59 0 (by decide) rfl f100 rfl (in_of (by omega) (by omega)) e102 dX5_askCasters_42 (fun H locs w104 e105 h => ?_)
            have f106 : w104 59 = .inl (cI, 28, .inl g101) := (congrFun e105 _).trans (va_up_self _ _ _)
            have ok107 : OK cI cB cZ cO ad w104 := OK.up ok9 e105 (sA_mk p103)
            have kx108 : KX w w104 := KX.up kx10 e105 f100 rfl
            obtain ⟨z109, e110, t111⟩ := x_add (x := L1) (y := 1) (a := L1.toInt) (b := 1) rfl rfl (by omega) (by omega)
            refine lv_iinc (v := z109) (lv' := [(3, .int z109), (0, .ref (ad 58)), (1, .ref (ad 1)), (2, .int a)]) hx hb dX5_askCasters_43 hl (k := 0) rfl e110 (by decide) rfl (fun ls hl => ?_)
            refine lv_goto (tgt := 2) hx hb dX5_askCasters_46 (by decide) ?_
            exact ih5  z109 w104 _ _ _ (by omega) (by omega) ok107 kx108 (by omega) h (lv_sub hl [0, 1, 2, 3] rfl)
  exact hloop3 8 (0 : Int32) w _ _ _ (by have q0 : (0 : Int32).toInt = 0 := rfl; omega) (by have q0 : (0 : Int32).toInt = 0 := rfl; omega) ok KX.rf (by have q0 : (0 : Int32).toInt = 0 := rfl; omega) h (lv_sub hl [0, 1, 2, 3] rfl)

set_option maxHeartbeats 4000000 in
set_option maxRecDepth 100000 in
theorem c_chooseRow (l : Launch) (G : va_G) (cI cB cZ cO : ClassId) (ad : Nat → Nat) (w : Nat → va_E)  (ok : OK cI cB cZ cO ad w) (j : Int32) (hl_j : 0 ≤ j.toInt) (hh_j : j.toInt ≤ 3)  : NV l G (tyq cI cB cZ cO) yX5_chooseRow cX5_chooseRow 5 3 68 74 ad w [.ref (ad 58), .ref (ad 1), .int j] (fun w1 => OK cI cB cZ cO ad w1 ∧ KX w w1 ∧ True) := by
  refine nk_v (own := "NoonShade$Plan") rfl (by decide) (Nat.le_of_ble_eq_true rfl) ?_
  intro p e s m below meth c ls X hD hN hr hlk h hl
  have hx := X.1.1
  have hb := X.1.2.1
  have hown := X.1.2.2.2.1
  have hts := X.1.2.2.2.2
  have hl : lv_has ls 5 [(0, .ref (ad 58)), (1, .ref (ad 1)), (2, .int j)] := hl
  refine lv_aload_n hx hb dX5_chooseRow_0 rfl (lv_at hl 1 rfl) ?_
  obtain ⟨q2, q3, q4, q5, q6, f1, h7, h8, h9, h10⟩ := (show sI ad 1 (w 1) from ok 1 (by decide))
  have f11 : w 1 = .inr (1, [.int q2, .int q3, .int q4, .int q5, .int q6, .ref (ad 2), .ref (ad 3), .ref (ad 4), .ref (ad 5), .ref (ad 6), .ref (ad 7), .ref (ad 8), .ref (ad 10), .ref (ad 12)]) := f1
  refine r_get kc2 X h 1 9 (by decide) rfl f11 (by decide) kv_124 rfl dX5_chooseRow_1 ?_
  refine lv_iload_n hx hb dX5_chooseRow_4 rfl (lv_at hl 2 rfl) ?_
  obtain ⟨g13, f12, p14⟩ := (show sA cI 4 (rgA 0 60) (w 6) from ok 6 (by decide))
  have f15 : w 6 = .inl (cI, 4, .inl g13) := f12
  obtain ⟨v16, e17⟩ : ∃ z : Int32, g13 (j).toNatClampNeg = z := ⟨_, rfl⟩
  have h18 := rgA_rd p14 e17
  refine o_iald (v := v16) X h 6 0 (by decide) rfl f15 rfl (in_of (by omega) (by omega)) e17 dX5_chooseRow_5 ?_
  refine lv_istore_n (lv' := [(3, .int v16), (0, .ref (ad 58)), (1, .ref (ad 1)), (2, .int j)]) hx hb dX5_chooseRow_6 rfl hl (by decide) rfl (fun ls hl => ?_)
  refine lv_aload_n hx hb dX5_chooseRow_7 rfl (lv_at hl 1 rfl) ?_
  refine lv_aload_n hx hb dX5_chooseRow_8 rfl (lv_at hl 1 rfl) ?_
  obtain ⟨t20, t21, t22, f19, h23, h24, h25, h26⟩ := (show sL ad (w 58) from ok 58 (by decide))
  have f27 : w 58 = .inr (3, [.ref (ad 59), .ref (ad 60), .ref (ad 61), .int t20, .int t21, .int t22]) := f19
  refine r_get kc5 X h 58 4 (by decide) rfl f27 (by decide) kv_125 rfl dX5_chooseRow_9 ?_
  refine lv_if_ne (tgt := 19) hx hb dX5_chooseRow_12 (by decide) (fun hc28 => ?_) (fun hc28 => ?_)
  · have hc28 : ¬ (t21).toInt = 0 := i_ne hc28 rfl rfl
    refine lv_aload_n hx hb dX5_chooseRow_19 rfl (lv_at hl 1 rfl) ?_
    refine lv_iconst (v := 0) hx hb dX5_chooseRow_20 (by decide) ?_
    refine lv_iload_n hx hb dX5_chooseRow_21 rfl (lv_at hl 0 rfl) ?_
    refine n_Vi (na := 2) (As := [.int 0, .int v16]) (rest := [.ref (ad 58)]) X hD hN h rfl (c_mostFrom l G cI cB cZ cO ad w  ok (0 : Int32) v16 (by decide) (by decide) (by omega) (by omega) ) ⟨kv_126, kv_127, kv_128, kv_117, kv_129⟩ rfl ⟨by decide, by decide, by decide⟩ ⟨Nat.le_of_ble_eq_true rfl, Nat.le_of_ble_eq_true rfl⟩ ⟨Nat.zero_le _, Nat.zero_le _⟩ (by decide) f27 rfl rfl hl.1 rfl (Nat.le_of_ble_eq_true rfl) dX5_chooseRow_22 (fun r29 w30 H locs hp31 h => ?_)
    obtain ⟨rfl, hr32⟩ := hp31
    refine r_put kc5 X hD h 58 5 (by decide) rfl f27 (by decide) kv_121 rfl rfl rfl (Nat.le_of_ble_eq_true rfl) dX5_chooseRow_25 (fun H locs w33 e34 h => ?_)
    have f35 : w33 58 = .inr (3, [.ref (ad 59), .ref (ad 60), .ref (ad 61), .int t20, .int t21, .int r29]) := (congrFun e34 _).trans (va_up_self _ _ _)
    have ok36 : OK cI cB cZ cO ad w33 := OK.up ok e34 (sL_mk (by omega) (by omega) (by omega) (by omega))
    have kx37 : KX w w33 := KX.up KX.rf e34 f27 rfl
    refine lv_iconst (v := 0) hx hb dX5_chooseRow_28 (by decide) ?_
    refine lv_istore (lv' := [(4, .int 0), (3, .int v16), (0, .ref (ad 58)), (1, .ref (ad 1)), (2, .int j)]) hx hb dX5_chooseRow_29 hl (by decide) rfl (fun ls hl => ?_)
    have hloop41 : ∀ (d42 : Nat) (L38 : Int32) (L39 : Int32) (wL40 : Nat → va_E) (H : Heap) (locs : List Loc) (ls : Array Slot), 0 ≤ L39.toInt → L39.toInt ≤ 60 → 0 ≤ L38.toInt → L38.toInt ≤ 4 → OK cI cB cZ cO ad wL40 → KX w wL40 → 4 - L38.toInt < (d42 : Int) → St G 74 ad (wA 74 ad s.heap.size) s.heap wL40 H locs → lv_has ls 5 [(4, .int L38), (3, .int L39), (0, .ref (ad 58)), (1, .ref (ad 1)), (2, .int j)] → W p l e { frames := 3, cells := 0, slots := 0, locals := 68 } s m [.ref (ad 58), .ref (ad 1), .int j].toArray below meth c H locs 0 0 (MQ below (va_Qv (fun w1 => OK cI cB cZ cO ad w1 ∧ KX w w1 ∧ True) (Aft G 74 ad) (wA 74 ad s.heap.size)) [.ref (ad 58), .ref (ad 1), .int j].toArray s 0 0 (wA 74 ad s.heap.size)) (F0 m 31 ls []) := by
      intro d42
      induction d42 with
      | zero => intro L38 L39 wL40 H locs ls hi45 hi46 hi47 hi48 ok49 kx50 hm44 h hl; exfalso; omega
      | succ d42 ih43 =>
        intro L38 L39 wL40 H locs ls hi45 hi46 hi47 hi48 ok49 kx50 hm44 h hl
        refine lv_iload hx hb dX5_chooseRow_31 (lv_at hl 0 rfl) ?_
        refine lv_aload_n hx hb dX5_chooseRow_33 rfl (lv_at hl 2 rfl) ?_
        obtain ⟨t53, t54, t55, f52, h56, h57, h58, h59⟩ := (show sL ad (wL40 58) from ok49 58 (by decide))
        have f60 : wL40 58 = .inr (3, [.ref (ad 59), .ref (ad 60), .ref (ad 61), .int t53, .int t54, .int t55]) := f52
        refine r_get kc5 X h 58 4 (by decide) rfl f60 (by decide) kv_125 rfl dX5_chooseRow_34 ?_
        refine lv_icmp_ge (tgt := 84) hx hb dX5_chooseRow_37 (by decide) (fun hc61 => ?_) (fun hc61 => ?_)
        · have hc61 : (t54).toInt ≤ (L38).toInt := i_le hc61 rfl rfl
          exact e_v X h hr hlk dX5_chooseRow_84 ⟨ok49, kx50, trivial⟩
        · have hc61 : ¬ (t54).toInt ≤ (L38).toInt := i_nle hc61 rfl rfl
          refine lv_aload_n hx hb dX5_chooseRow_40 rfl (lv_at hl 2 rfl) ?_
          refine r_get kc5 X h 58 2 (by decide) rfl f60 (by decide) kv_113 rfl dX5_chooseRow_41 ?_
          refine lv_iload hx hb dX5_chooseRow_44 (lv_at hl 0 rfl) ?_
          refine lv_aload_n hx hb dX5_chooseRow_46 rfl (lv_at hl 2 rfl) ?_
          refine lv_iload hx hb dX5_chooseRow_47 (lv_at hl 0 rfl) ?_
          refine lv_iload_n hx hb dX5_chooseRow_49 rfl (lv_at hl 1 rfl) ?_
          refine n_Vi (na := 2) (As := [.int L38, .int L39]) (rest := [.int L38, .ref (ad 61)]) X hD hN h rfl (c_firstThatReaches l G cI cB cZ cO ad wL40  ok49 L38 L39 (by omega) (by omega) (by omega) (by omega) ) ⟨kv_130, kv_131, kv_132, kv_117, kv_133⟩ rfl ⟨by decide, by decide, by decide⟩ ⟨Nat.le_of_ble_eq_true rfl, Nat.le_of_ble_eq_true rfl⟩ ⟨Nat.zero_le _, Nat.zero_le _⟩ (by decide) f60 rfl rfl hl.1 rfl (Nat.le_of_ble_eq_true rfl) dX5_chooseRow_50 (fun r62 w63 H locs hp64 h => ?_)
          obtain ⟨rfl, hr65⟩ := hp64
          obtain ⟨h66, h67⟩ := hr65
          obtain ⟨g69, f68, p70⟩ := (show sA cI 4 (rgA (-1) 6) (wL40 61) from ok49 61 (by decide))
          have f71 : wL40 61 = .inl (cI, 4, .inl g69) := f68
          obtain ⟨g72, e73⟩ : ∃ z : Nat → Int32, upd g69 (L38).toNatClampNeg r62 = z := ⟨_, rfl⟩
          have p74 : rgA (-1) 6 g72 := rgA_upd p70 e73 (by omega) (by omega)
          refine o_iast (f1 := g72) X hD h 61 0 (by decide) rfl f71 rfl (in_of (by omega) (by omega)) e73 dX5_chooseRow_53 (fun H locs w75 e76 h => ?_)
          have f77 : w75 61 = .inl (cI, 4, .inl g72) := (congrFun e76 _).trans (va_up_self _ _ _)
          have ok78 : OK cI cB cZ cO ad w75 := OK.up ok49 e76 (sA_mk p74)
          have kx79 : KX w w75 := KX.up kx50 e76 f71 rfl
          refine lv_aload_n hx hb dX5_chooseRow_54 rfl (lv_at hl 3 rfl) ?_
          obtain ⟨q81, q82, q83, q84, q85, f80, h86, h87, h88, h89⟩ := (show sI ad 1 (w75 1) from ok78 1 (by decide))
          have f90 : w75 1 = .inr (1, [.int q81, .int q82, .int q83, .int q84, .int q85, .ref (ad 2), .ref (ad 3), .ref (ad 4), .ref (ad 5), .ref (ad 6), .ref (ad 7), .ref (ad 8), .ref (ad 10), .ref (ad 12)]) := f80
          refine r_get kc2 X h 1 8 (by decide) rfl f90 (by decide) kv_134 rfl dX5_chooseRow_55 ?_
          refine lv_iload_n hx hb dX5_chooseRow_58 rfl (lv_at hl 4 rfl) ?_
          obtain ⟨g92, f91, p93⟩ := (show sA cI 4 (anyA) (w75 5) from ok78 5 (by decide))
          have f94 : w75 5 = .inl (cI, 4, .inl g92) := f91
          obtain ⟨v95, e96⟩ : ∃ z : Int32, g92 (j).toNatClampNeg = z := ⟨_, rfl⟩
          refine o_iald (v := v95) X h 5 0 (by decide) rfl f94 rfl (in_of (by omega) (by omega)) e96 dX5_chooseRow_59 ?_
          refine lv_aload_n hx hb dX5_chooseRow_60 rfl (lv_at hl 2 rfl) ?_
          refine lv_iload hx hb dX5_chooseRow_61 (lv_at hl 0 rfl) ?_
          refine lv_iload_n hx hb dX5_chooseRow_63 rfl (lv_at hl 1 rfl) ?_
          have f101 : w75 58 = .inr (3, [.ref (ad 59), .ref (ad 60), .ref (ad 61), .int t53, .int t54, .int t55]) := by rw [e76, va_up_ne _ _ (by decide)]; exact f60
          refine n_Vi (na := 2) (As := [.int L38, .int L39]) (rest := [.int v95]) X hD hN h rfl (c_filled l G cI cB cZ cO ad w75  ok78 L38 L39 (by omega) (by omega) (by omega) (by omega) ) ⟨kv_135, kv_136, kv_137, kv_117, kv_138⟩ rfl ⟨by decide, by decide, by decide⟩ ⟨Nat.le_of_ble_eq_true rfl, Nat.le_of_ble_eq_true rfl⟩ ⟨Nat.zero_le _, Nat.zero_le _⟩ (by decide) f101 rfl rfl hl.1 rfl (Nat.le_of_ble_eq_true rfl) dX5_chooseRow_64 (fun r98 w99 H locs hp100 h => ?_)
          obtain ⟨rfl, hr102⟩ := hp100
          obtain ⟨h103, h104⟩ := hr102
          refine lv_aload_n hx hb dX5_chooseRow_67 rfl (lv_at hl 3 rfl) ?_
          refine r_get kc2 X h 1 0 (by decide) rfl f90 (by decide) kv_139 rfl dX5_chooseRow_68 ?_
          refine lv_iload hx hb dX5_chooseRow_71 (lv_at hl 0 rfl) ?_
          obtain ⟨z107, e105⟩ : ∃ z : Int32, q81 + L38 = z := ⟨_, rfl⟩
          refine o_iadd (z := z107) hx hb dX5_chooseRow_73 e105 ?_
          refine n_Si (na := 3) (As := [.int v95, .int r98, .int z107]) (rest := []) X hD hN h (c_kept l G cI cB cZ cO ad w75   v95 r98 z107 (by omega) (by omega) ) ⟨kv_140, kv_15, kv_9, kv_16⟩ ⟨by decide, by decide, by decide⟩ ⟨Nat.le_of_ble_eq_true rfl, Nat.le_of_ble_eq_true rfl⟩ ⟨Nat.zero_le _, Nat.zero_le _⟩ rfl hl.1 rfl (Nat.le_of_ble_eq_true rfl) dX5_chooseRow_74 (fun r108 w109 H locs hp110 h => ?_)
          obtain ⟨rfl, hr111⟩ := hp110
          obtain ⟨h112, h113⟩ := hr111
          refine lv_istore_n (lv' := [(3, .int r108), (4, .int L38), (0, .ref (ad 58)), (1, .ref (ad 1)), (2, .int j)]) hx hb dX5_chooseRow_77 rfl hl (by decide) rfl (fun ls hl => ?_)
          obtain ⟨z114, e115, t116⟩ := x_add (x := L38) (y := 1) (a := L38.toInt) (b := 1) rfl rfl (by omega) (by omega)
          refine lv_iinc (v := z114) (lv' := [(4, .int z114), (3, .int r108), (0, .ref (ad 58)), (1, .ref (ad 1)), (2, .int j)]) hx hb dX5_chooseRow_78 hl (k := 1) rfl e115 (by decide) rfl (fun ls hl => ?_)
          refine lv_goto (tgt := 31) hx hb dX5_chooseRow_81 (by decide) ?_
          exact ih43  z114 r108 w75 _ _ _ (by omega) (by omega) (by omega) (by omega) ok78 kx79 (by omega) h (lv_sub hl [0, 1, 2, 3, 4] rfl)
    exact hloop41 5 (0 : Int32) v16 w33 _ _ _ (by have q0 : (0 : Int32).toInt = 0 := rfl; omega) (by have q0 : (0 : Int32).toInt = 0 := rfl; omega) (by have q0 : (0 : Int32).toInt = 0 := rfl; omega) (by have q0 : (0 : Int32).toInt = 0 := rfl; omega) ok36 kx37 (by have q0 : (0 : Int32).toInt = 0 := rfl; omega) h (lv_sub hl [0, 1, 2, 3, 4] rfl)
  · have hc28 : (t21).toInt = 0 := i_eq hc28 rfl rfl
    refine lv_iload_n hx hb dX5_chooseRow_15 rfl (lv_at hl 0 rfl) ?_
    refine lv_goto (tgt := 25) hx hb dX5_chooseRow_16 (by decide) ?_
    refine r_put kc5 X hD h 58 5 (by decide) rfl f27 (by decide) kv_121 rfl rfl rfl (Nat.le_of_ble_eq_true rfl) dX5_chooseRow_25 (fun H locs w117 e118 h => ?_)
    have f119 : w117 58 = .inr (3, [.ref (ad 59), .ref (ad 60), .ref (ad 61), .int t20, .int t21, .int v16]) := (congrFun e118 _).trans (va_up_self _ _ _)
    have ok120 : OK cI cB cZ cO ad w117 := OK.up ok e118 (sL_mk (by omega) (by omega) (by omega) (by omega))
    have kx121 : KX w w117 := KX.up KX.rf e118 f27 rfl
    refine lv_iconst (v := 0) hx hb dX5_chooseRow_28 (by decide) ?_
    refine lv_istore (lv' := [(4, .int 0), (3, .int v16), (0, .ref (ad 58)), (1, .ref (ad 1)), (2, .int j)]) hx hb dX5_chooseRow_29 hl (by decide) rfl (fun ls hl => ?_)
    have hloop125 : ∀ (d126 : Nat) (L122 : Int32) (L123 : Int32) (wL124 : Nat → va_E) (H : Heap) (locs : List Loc) (ls : Array Slot), 0 ≤ L123.toInt → L123.toInt ≤ 60 → 0 ≤ L122.toInt → L122.toInt ≤ 4 → OK cI cB cZ cO ad wL124 → KX w wL124 → 4 - L122.toInt < (d126 : Int) → St G 74 ad (wA 74 ad s.heap.size) s.heap wL124 H locs → lv_has ls 5 [(4, .int L122), (3, .int L123), (0, .ref (ad 58)), (1, .ref (ad 1)), (2, .int j)] → W p l e { frames := 3, cells := 0, slots := 0, locals := 68 } s m [.ref (ad 58), .ref (ad 1), .int j].toArray below meth c H locs 0 0 (MQ below (va_Qv (fun w1 => OK cI cB cZ cO ad w1 ∧ KX w w1 ∧ True) (Aft G 74 ad) (wA 74 ad s.heap.size)) [.ref (ad 58), .ref (ad 1), .int j].toArray s 0 0 (wA 74 ad s.heap.size)) (F0 m 31 ls []) := by
      intro d126
      induction d126 with
      | zero => intro L122 L123 wL124 H locs ls hi129 hi130 hi131 hi132 ok133 kx134 hm128 h hl; exfalso; omega
      | succ d126 ih127 =>
        intro L122 L123 wL124 H locs ls hi129 hi130 hi131 hi132 ok133 kx134 hm128 h hl
        refine lv_iload hx hb dX5_chooseRow_31 (lv_at hl 0 rfl) ?_
        refine lv_aload_n hx hb dX5_chooseRow_33 rfl (lv_at hl 2 rfl) ?_
        obtain ⟨t137, t138, t139, f136, h140, h141, h142, h143⟩ := (show sL ad (wL124 58) from ok133 58 (by decide))
        have f144 : wL124 58 = .inr (3, [.ref (ad 59), .ref (ad 60), .ref (ad 61), .int t137, .int t138, .int t139]) := f136
        refine r_get kc5 X h 58 4 (by decide) rfl f144 (by decide) kv_125 rfl dX5_chooseRow_34 ?_
        refine lv_icmp_ge (tgt := 84) hx hb dX5_chooseRow_37 (by decide) (fun hc145 => ?_) (fun hc145 => ?_)
        · have hc145 : (t138).toInt ≤ (L122).toInt := i_le hc145 rfl rfl
          exact e_v X h hr hlk dX5_chooseRow_84 ⟨ok133, kx134, trivial⟩
        · have hc145 : ¬ (t138).toInt ≤ (L122).toInt := i_nle hc145 rfl rfl
          refine lv_aload_n hx hb dX5_chooseRow_40 rfl (lv_at hl 2 rfl) ?_
          refine r_get kc5 X h 58 2 (by decide) rfl f144 (by decide) kv_113 rfl dX5_chooseRow_41 ?_
          refine lv_iload hx hb dX5_chooseRow_44 (lv_at hl 0 rfl) ?_
          refine lv_aload_n hx hb dX5_chooseRow_46 rfl (lv_at hl 2 rfl) ?_
          refine lv_iload hx hb dX5_chooseRow_47 (lv_at hl 0 rfl) ?_
          refine lv_iload_n hx hb dX5_chooseRow_49 rfl (lv_at hl 1 rfl) ?_
          refine n_Vi (na := 2) (As := [.int L122, .int L123]) (rest := [.int L122, .ref (ad 61)]) X hD hN h rfl (c_firstThatReaches l G cI cB cZ cO ad wL124  ok133 L122 L123 (by omega) (by omega) (by omega) (by omega) ) ⟨kv_130, kv_131, kv_132, kv_117, kv_133⟩ rfl ⟨by decide, by decide, by decide⟩ ⟨Nat.le_of_ble_eq_true rfl, Nat.le_of_ble_eq_true rfl⟩ ⟨Nat.zero_le _, Nat.zero_le _⟩ (by decide) f144 rfl rfl hl.1 rfl (Nat.le_of_ble_eq_true rfl) dX5_chooseRow_50 (fun r146 w147 H locs hp148 h => ?_)
          obtain ⟨rfl, hr149⟩ := hp148
          obtain ⟨h150, h151⟩ := hr149
          obtain ⟨g153, f152, p154⟩ := (show sA cI 4 (rgA (-1) 6) (wL124 61) from ok133 61 (by decide))
          have f155 : wL124 61 = .inl (cI, 4, .inl g153) := f152
          obtain ⟨g156, e157⟩ : ∃ z : Nat → Int32, upd g153 (L122).toNatClampNeg r146 = z := ⟨_, rfl⟩
          have p158 : rgA (-1) 6 g156 := rgA_upd p154 e157 (by omega) (by omega)
          refine o_iast (f1 := g156) X hD h 61 0 (by decide) rfl f155 rfl (in_of (by omega) (by omega)) e157 dX5_chooseRow_53 (fun H locs w159 e160 h => ?_)
          have f161 : w159 61 = .inl (cI, 4, .inl g156) := (congrFun e160 _).trans (va_up_self _ _ _)
          have ok162 : OK cI cB cZ cO ad w159 := OK.up ok133 e160 (sA_mk p158)
          have kx163 : KX w w159 := KX.up kx134 e160 f155 rfl
          refine lv_aload_n hx hb dX5_chooseRow_54 rfl (lv_at hl 3 rfl) ?_
          obtain ⟨q165, q166, q167, q168, q169, f164, h170, h171, h172, h173⟩ := (show sI ad 1 (w159 1) from ok162 1 (by decide))
          have f174 : w159 1 = .inr (1, [.int q165, .int q166, .int q167, .int q168, .int q169, .ref (ad 2), .ref (ad 3), .ref (ad 4), .ref (ad 5), .ref (ad 6), .ref (ad 7), .ref (ad 8), .ref (ad 10), .ref (ad 12)]) := f164
          refine r_get kc2 X h 1 8 (by decide) rfl f174 (by decide) kv_134 rfl dX5_chooseRow_55 ?_
          refine lv_iload_n hx hb dX5_chooseRow_58 rfl (lv_at hl 4 rfl) ?_
          obtain ⟨g176, f175, p177⟩ := (show sA cI 4 (anyA) (w159 5) from ok162 5 (by decide))
          have f178 : w159 5 = .inl (cI, 4, .inl g176) := f175
          obtain ⟨v179, e180⟩ : ∃ z : Int32, g176 (j).toNatClampNeg = z := ⟨_, rfl⟩
          refine o_iald (v := v179) X h 5 0 (by decide) rfl f178 rfl (in_of (by omega) (by omega)) e180 dX5_chooseRow_59 ?_
          refine lv_aload_n hx hb dX5_chooseRow_60 rfl (lv_at hl 2 rfl) ?_
          refine lv_iload hx hb dX5_chooseRow_61 (lv_at hl 0 rfl) ?_
          refine lv_iload_n hx hb dX5_chooseRow_63 rfl (lv_at hl 1 rfl) ?_
          have f185 : w159 58 = .inr (3, [.ref (ad 59), .ref (ad 60), .ref (ad 61), .int t137, .int t138, .int t139]) := by rw [e160, va_up_ne _ _ (by decide)]; exact f144
          refine n_Vi (na := 2) (As := [.int L122, .int L123]) (rest := [.int v179]) X hD hN h rfl (c_filled l G cI cB cZ cO ad w159  ok162 L122 L123 (by omega) (by omega) (by omega) (by omega) ) ⟨kv_135, kv_136, kv_137, kv_117, kv_138⟩ rfl ⟨by decide, by decide, by decide⟩ ⟨Nat.le_of_ble_eq_true rfl, Nat.le_of_ble_eq_true rfl⟩ ⟨Nat.zero_le _, Nat.zero_le _⟩ (by decide) f185 rfl rfl hl.1 rfl (Nat.le_of_ble_eq_true rfl) dX5_chooseRow_64 (fun r182 w183 H locs hp184 h => ?_)
          obtain ⟨rfl, hr186⟩ := hp184
          obtain ⟨h187, h188⟩ := hr186
          refine lv_aload_n hx hb dX5_chooseRow_67 rfl (lv_at hl 3 rfl) ?_
          refine r_get kc2 X h 1 0 (by decide) rfl f174 (by decide) kv_139 rfl dX5_chooseRow_68 ?_
          refine lv_iload hx hb dX5_chooseRow_71 (lv_at hl 0 rfl) ?_
          obtain ⟨z191, e189⟩ : ∃ z : Int32, q165 + L122 = z := ⟨_, rfl⟩
          refine o_iadd (z := z191) hx hb dX5_chooseRow_73 e189 ?_
          refine n_Si (na := 3) (As := [.int v179, .int r182, .int z191]) (rest := []) X hD hN h (c_kept l G cI cB cZ cO ad w159   v179 r182 z191 (by omega) (by omega) ) ⟨kv_140, kv_15, kv_9, kv_16⟩ ⟨by decide, by decide, by decide⟩ ⟨Nat.le_of_ble_eq_true rfl, Nat.le_of_ble_eq_true rfl⟩ ⟨Nat.zero_le _, Nat.zero_le _⟩ rfl hl.1 rfl (Nat.le_of_ble_eq_true rfl) dX5_chooseRow_74 (fun r192 w193 H locs hp194 h => ?_)
          obtain ⟨rfl, hr195⟩ := hp194
          obtain ⟨h196, h197⟩ := hr195
          refine lv_istore_n (lv' := [(3, .int r192), (4, .int L122), (0, .ref (ad 58)), (1, .ref (ad 1)), (2, .int j)]) hx hb dX5_chooseRow_77 rfl hl (by decide) rfl (fun ls hl => ?_)
          obtain ⟨z198, e199, t200⟩ := x_add (x := L122) (y := 1) (a := L122.toInt) (b := 1) rfl rfl (by omega) (by omega)
          refine lv_iinc (v := z198) (lv' := [(4, .int z198), (3, .int r192), (0, .ref (ad 58)), (1, .ref (ad 1)), (2, .int j)]) hx hb dX5_chooseRow_78 hl (k := 1) rfl e199 (by decide) rfl (fun ls hl => ?_)
          refine lv_goto (tgt := 31) hx hb dX5_chooseRow_81 (by decide) ?_
          exact ih127  z198 r192 w159 _ _ _ (by omega) (by omega) (by omega) (by omega) ok162 kx163 (by omega) h (lv_sub hl [0, 1, 2, 3, 4] rfl)
    exact hloop125 5 (0 : Int32) v16 w117 _ _ _ (by have q0 : (0 : Int32).toInt = 0 := rfl; omega) (by have q0 : (0 : Int32).toInt = 0 := rfl; omega) (by have q0 : (0 : Int32).toInt = 0 := rfl; omega) (by have q0 : (0 : Int32).toInt = 0 := rfl; omega) ok120 kx121 (by have q0 : (0 : Int32).toInt = 0 := rfl; omega) h (lv_sub hl [0, 1, 2, 3, 4] rfl)

set_option maxHeartbeats 4000000 in
set_option maxRecDepth 100000 in
theorem c_make (l : Launch) (G : va_G) (cI cB cZ cO : ClassId) (ad : Nat → Nat) (w : Nat → va_E)  (ok : OK cI cB cZ cO ad w) (j : Int32) (n : Int32) (hl_j : 0 ≤ j.toInt) (hh_j : j.toInt ≤ 3) (hl_n : 0 ≤ n.toInt) (hh_n : n.toInt ≤ 4)  : NV l G (tyq cI cB cZ cO) yX5_make cX5_make 7 4 92 74 ad w [.ref (ad 58), .ref (ad 1), .int j, .int n] (fun w1 => OK cI cB cZ cO ad w1 ∧ KX w w1 ∧ True) := by
  refine nk_v (own := "NoonShade$Plan") rfl (by decide) (Nat.le_of_ble_eq_true rfl) ?_
  intro p e s m below meth c ls X hD hN hr hlk h hl
  have hx := X.1.1
  have hb := X.1.2.1
  have hown := X.1.2.2.2.1
  have hts := X.1.2.2.2.2
  have hl : lv_has ls 7 [(0, .ref (ad 58)), (1, .ref (ad 1)), (2, .int j), (3, .int n)] := hl
  refine lv_aload_n hx hb dX5_make_0 rfl (lv_at hl 0 rfl) ?_
  refine lv_aload_n hx hb dX5_make_1 rfl (lv_at hl 1 rfl) ?_
  obtain ⟨q2, q3, q4, q5, q6, f1, h7, h8, h9, h10⟩ := (show sI ad 1 (w 1) from ok 1 (by decide))
  have f11 : w 1 = .inr (1, [.int q2, .int q3, .int q4, .int q5, .int q6, .ref (ad 2), .ref (ad 3), .ref (ad 4), .ref (ad 5), .ref (ad 6), .ref (ad 7), .ref (ad 8), .ref (ad 10), .ref (ad 12)]) := f1
  refine r_get kc2 X h 1 3 (by decide) rfl f11 (by decide) kv_141 rfl dX5_make_2 ?_
  obtain ⟨t13, t14, t15, f12, h16, h17, h18, h19⟩ := (show sL ad (w 58) from ok 58 (by decide))
  have f20 : w 58 = .inr (3, [.ref (ad 59), .ref (ad 60), .ref (ad 61), .int t13, .int t14, .int t15]) := f12
  refine r_put kc5 X hD h 58 3 (by decide) rfl f20 (by decide) kv_120 rfl rfl rfl (Nat.le_of_ble_eq_true rfl) dX5_make_5 (fun H locs w21 e22 h => ?_)
  have f23 : w21 58 = .inr (3, [.ref (ad 59), .ref (ad 60), .ref (ad 61), .int q5, .int t14, .int t15]) := (congrFun e22 _).trans (va_up_self _ _ _)
  have ok24 : OK cI cB cZ cO ad w21 := OK.up ok e22 (sL_mk (by omega) (by omega) (by omega) (by omega))
  have kx25 : KX w w21 := KX.up KX.rf e22 f20 rfl
  refine lv_aload_n hx hb dX5_make_8 rfl (lv_at hl 0 rfl) ?_
  refine lv_iload_n hx hb dX5_make_9 rfl (lv_at hl 3 rfl) ?_
  refine r_put kc5 X hD h 58 4 (by decide) rfl f23 (by decide) kv_125 rfl rfl rfl (Nat.le_of_ble_eq_true rfl) dX5_make_10 (fun H locs w26 e27 h => ?_)
  have f28 : w26 58 = .inr (3, [.ref (ad 59), .ref (ad 60), .ref (ad 61), .int q5, .int n, .int t15]) := (congrFun e27 _).trans (va_up_self _ _ _)
  have ok29 : OK cI cB cZ cO ad w26 := OK.up ok24 e27 (sL_mk (by omega) (by omega) (by omega) (by omega))
  have kx30 : KX w w26 := KX.up kx25 e27 f23 rfl
  refine lv_iconst (v := 0) hx hb dX5_make_13 (by decide) ?_
  refine lv_istore (lv' := [(4, .int 0), (0, .ref (ad 58)), (1, .ref (ad 1)), (2, .int j), (3, .int n)]) hx hb dX5_make_14 hl (by decide) rfl (fun ls hl => ?_)
  have hloop33 : ∀ (d34 : Nat) (L31 : Int32) (wL32 : Nat → va_E) (H : Heap) (locs : List Loc) (ls : Array Slot), 0 ≤ L31.toInt → L31.toInt ≤ 4 → OK cI cB cZ cO ad wL32 → KX w wL32 → 4 - L31.toInt < (d34 : Int) → St G 74 ad (wA 74 ad s.heap.size) s.heap wL32 H locs → lv_has ls 7 [(4, .int L31), (0, .ref (ad 58)), (1, .ref (ad 1)), (2, .int j), (3, .int n)] → W p l e { frames := 4, cells := 0, slots := 0, locals := 92 } s m [.ref (ad 58), .ref (ad 1), .int j, .int n].toArray below meth c H locs 0 0 (MQ below (va_Qv (fun w1 => OK cI cB cZ cO ad w1 ∧ KX w w1 ∧ True) (Aft G 74 ad) (wA 74 ad s.heap.size)) [.ref (ad 58), .ref (ad 1), .int j, .int n].toArray s 0 0 (wA 74 ad s.heap.size)) (F0 m 16 ls []) := by
    intro d34
    induction d34 with
    | zero => intro L31 wL32 H locs ls hi37 hi38 ok39 kx40 hm36 h hl; exfalso; omega
    | succ d34 ih35 =>
      intro L31 wL32 H locs ls hi37 hi38 ok39 kx40 hm36 h hl
      refine lv_iload hx hb dX5_make_16 (lv_at hl 0 rfl) ?_
      refine lv_iload_n hx hb dX5_make_18 rfl (lv_at hl 4 rfl) ?_
      refine lv_icmp_ge (tgt := 35) hx hb dX5_make_19 (by decide) (fun hc42 => ?_) (fun hc42 => ?_)
      · have hc42 : (n).toInt ≤ (L31).toInt := i_le hc42 rfl rfl
        refine lv_iload_n hx hb dX5_make_35 rfl (lv_at hl 4 rfl) ?_
        refine lv_iconst (v := 1) hx hb dX5_make_36 (by decide) ?_
        obtain ⟨z45, e43, t44⟩ := x_sub (x := n) (y := (1 : Int32)) (a := (n).toInt) (b := 1) rfl rfl (by omega) (by omega)
        refine o_isub (z := z45) hx hb dX5_make_37 e43 ?_
        refine lv_istore (lv' := [(4, .int z45), (0, .ref (ad 58)), (1, .ref (ad 1)), (2, .int j), (3, .int n)]) hx hb dX5_make_38 hl (by decide) rfl (fun ls hl => ?_)
        have hloop48 : ∀ (d49 : Nat) (L46 : Int32) (wL47 : Nat → va_E) (H : Heap) (locs : List Loc) (ls : Array Slot), (-1) ≤ L46.toInt → L46.toInt ≤ 3 → L46.toInt < n.toInt → OK cI cB cZ cO ad wL47 → KX w wL47 → L46.toInt + 1 < (d49 : Int) → St G 74 ad (wA 74 ad s.heap.size) s.heap wL47 H locs → lv_has ls 7 [(4, .int L46), (0, .ref (ad 58)), (1, .ref (ad 1)), (2, .int j), (3, .int n)] → W p l e { frames := 4, cells := 0, slots := 0, locals := 92 } s m [.ref (ad 58), .ref (ad 1), .int j, .int n].toArray below meth c H locs 0 0 (MQ below (va_Qv (fun w1 => OK cI cB cZ cO ad w1 ∧ KX w w1 ∧ True) (Aft G 74 ad) (wA 74 ad s.heap.size)) [.ref (ad 58), .ref (ad 1), .int j, .int n].toArray s 0 0 (wA 74 ad s.heap.size)) (F0 m 40 ls []) := by
          intro d49
          induction d49 with
          | zero => intro L46 wL47 H locs ls hi52 hi53 hi54 ok55 kx56 hm51 h hl; exfalso; omega
          | succ d49 ih50 =>
            intro L46 wL47 H locs ls hi52 hi53 hi54 ok55 kx56 hm51 h hl
            refine lv_iload hx hb dX5_make_40 (lv_at hl 0 rfl) ?_
            refine lv_if_lt (tgt := 123) hx hb dX5_make_42 (by decide) (fun hc58 => ?_) (fun hc58 => ?_)
            · have hc58 : (L46).toInt < 0 := i_lt hc58 rfl rfl
              refine lv_aload_n hx hb dX5_make_123 rfl (lv_at hl 1 rfl) ?_
              refine lv_aload_n hx hb dX5_make_124 rfl (lv_at hl 2 rfl) ?_
              refine lv_iload_n hx hb dX5_make_125 rfl (lv_at hl 3 rfl) ?_
              obtain ⟨t63, t64, t65, f62, h66, h67, h68, h69⟩ := (show sL ad (wL47 58) from ok55 58 (by decide))
              have f70 : wL47 58 = .inr (3, [.ref (ad 59), .ref (ad 60), .ref (ad 61), .int t63, .int t64, .int t65]) := f62
              refine n_Vv (na := 2) (As := [.ref (ad 1), .int j]) (rest := []) X hD hN h rfl (c_chooseRow l G cI cB cZ cO ad wL47  ok55 j (by omega) (by omega) ) ⟨kv_142, kv_143, kv_144, kv_117, kv_145⟩ rfl ⟨by decide, by decide, by decide⟩ ⟨Nat.le_of_ble_eq_true rfl, Nat.le_of_ble_eq_true rfl⟩ ⟨Nat.zero_le _, Nat.zero_le _⟩ (by decide) f70 rfl rfl hl.1 rfl (Nat.le_of_ble_eq_true rfl) dX5_make_126 (fun w60 H locs hp61 h => ?_)
              obtain ⟨ok72, kk73, hr71⟩ := hp61
              have kx74 : KX w w60 := KX.tr kx56 kk73
              exact e_v X h hr hlk dX5_make_129 ⟨ok72, kx74, trivial⟩
            · have hc58 : ¬ (L46).toInt < 0 := i_nlt hc58 rfl rfl
              refine lv_iconst (v := 0) hx hb dX5_make_45 (by decide) ?_
              refine lv_istore (lv' := [(5, .int 0), (4, .int L46), (0, .ref (ad 58)), (1, .ref (ad 1)), (2, .int j), (3, .int n)]) hx hb dX5_make_46 hl (by decide) rfl (fun ls hl => ?_)
              have hloop77 : ∀ (d78 : Nat) (L75 : Int32) (wL76 : Nat → va_E) (H : Heap) (locs : List Loc) (ls : Array Slot), 0 ≤ L75.toInt → L75.toInt ≤ 61 → OK cI cB cZ cO ad wL76 → KX w wL76 → 61 - L75.toInt < (d78 : Int) → St G 74 ad (wA 74 ad s.heap.size) s.heap wL76 H locs → lv_has ls 7 [(5, .int L75), (4, .int L46), (0, .ref (ad 58)), (1, .ref (ad 1)), (2, .int j), (3, .int n)] → W p l e { frames := 4, cells := 0, slots := 0, locals := 92 } s m [.ref (ad 58), .ref (ad 1), .int j, .int n].toArray below meth c H locs 0 0 (MQ below (va_Qv (fun w1 => OK cI cB cZ cO ad w1 ∧ KX w w1 ∧ True) (Aft G 74 ad) (wA 74 ad s.heap.size)) [.ref (ad 58), .ref (ad 1), .int j, .int n].toArray s 0 0 (wA 74 ad s.heap.size)) (F0 m 48 ls []) := by
                intro d78
                induction d78 with
                | zero => intro L75 wL76 H locs ls hi81 hi82 ok83 kx84 hm80 h hl; exfalso; omega
                | succ d78 ih79 =>
                  intro L75 wL76 H locs ls hi81 hi82 ok83 kx84 hm80 h hl
                  refine lv_iload hx hb dX5_make_48 (lv_at hl 0 rfl) ?_
                  refine lv_bipush (v := 60) hx hb dX5_make_50 (by decide) ?_
                  refine lv_icmp_gt (tgt := 117) hx hb dX5_make_52 (by decide) (fun hc86 => ?_) (fun hc86 => ?_)
                  · have hc86 : 60 < (L75).toInt := i_lt hc86 rfl rfl
                    obtain ⟨z87, e88, t89⟩ := x_add (x := L46) (y := (-1)) (a := L46.toInt) (b := (-1)) rfl rfl (by omega) (by omega)
                    refine lv_iinc (v := z87) (lv' := [(4, .int z87), (5, .int L75), (0, .ref (ad 58)), (1, .ref (ad 1)), (2, .int j), (3, .int n)]) hx hb dX5_make_117 hl (k := 1) rfl e88 (by decide) rfl (fun ls hl => ?_)
                    refine lv_goto (tgt := 40) hx hb dX5_make_120 (by decide) ?_
                    exact ih50  z87 wL76 _ _ _ (by omega) (by omega) (by omega) ok83 kx84 (by omega) h (lv_sub hl [0, 2, 3, 4, 5] rfl)
                  · have hc86 : ¬ 60 < (L75).toInt := i_nlt hc86 rfl rfl
                    refine lv_aload_n hx hb dX5_make_55 rfl (lv_at hl 3 rfl) ?_
                    obtain ⟨q91, q92, q93, q94, q95, f90, h96, h97, h98, h99⟩ := (show sI ad 1 (wL76 1) from ok83 1 (by decide))
                    have f100 : wL76 1 = .inr (1, [.int q91, .int q92, .int q93, .int q94, .int q95, .ref (ad 2), .ref (ad 3), .ref (ad 4), .ref (ad 5), .ref (ad 6), .ref (ad 7), .ref (ad 8), .ref (ad 10), .ref (ad 12)]) := f90
                    refine r_get kc2 X h 1 8 (by decide) rfl f100 (by decide) kv_134 rfl dX5_make_56 ?_
                    refine lv_iload_n hx hb dX5_make_59 rfl (lv_at hl 4 rfl) ?_
                    obtain ⟨g102, f101, p103⟩ := (show sA cI 4 (anyA) (wL76 5) from ok83 5 (by decide))
                    have f104 : wL76 5 = .inl (cI, 4, .inl g102) := f101
                    obtain ⟨v105, e106⟩ : ∃ z : Int32, g102 (j).toNatClampNeg = z := ⟨_, rfl⟩
                    refine o_iald (v := v105) X h 5 0 (by decide) rfl f104 rfl (in_of (by omega) (by omega)) e106 dX5_make_60 ?_
                    refine lv_iload hx hb dX5_make_61 (lv_at hl 0 rfl) ?_
                    refine lv_aload_n hx hb dX5_make_63 rfl (lv_at hl 3 rfl) ?_
                    refine r_get kc2 X h 1 0 (by decide) rfl f100 (by decide) kv_139 rfl dX5_make_64 ?_
                    refine lv_iload hx hb dX5_make_67 (lv_at hl 1 rfl) ?_
                    obtain ⟨z110, e108⟩ : ∃ z : Int32, q91 + L46 = z := ⟨_, rfl⟩
                    refine o_iadd (z := z110) hx hb dX5_make_69 e108 ?_
                    refine n_Si (na := 3) (As := [.int v105, .int L75, .int z110]) (rest := []) X hD hN h (c_kept l G cI cB cZ cO ad wL76   v105 L75 z110 (by omega) (by omega) ) ⟨kv_140, kv_15, kv_9, kv_16⟩ ⟨by decide, by decide, by decide⟩ ⟨Nat.le_of_ble_eq_true rfl, Nat.le_of_ble_eq_true rfl⟩ ⟨Nat.zero_le _, Nat.zero_le _⟩ rfl hl.1 rfl (Nat.le_of_ble_eq_true rfl) dX5_make_70 (fun r111 w112 H locs hp113 h => ?_)
                    obtain ⟨rfl, hr114⟩ := hp113
                    obtain ⟨h115, h116⟩ := hr114
                    refine lv_istore (lv' := [(6, .int r111), (5, .int L75), (4, .int L46), (0, .ref (ad 58)), (1, .ref (ad 1)), (2, .int j), (3, .int n)]) hx hb dX5_make_73 hl (by decide) rfl (fun ls hl => ?_)
                    refine lv_aload_n hx hb dX5_make_75 rfl (lv_at hl 3 rfl) ?_
                    obtain ⟨t118, t119, t120, f117, h121, h122, h123, h124⟩ := (show sL ad (wL76 58) from ok83 58 (by decide))
                    have f125 : wL76 58 = .inr (3, [.ref (ad 59), .ref (ad 60), .ref (ad 61), .int t118, .int t119, .int t120]) := f117
                    refine r_get kc5 X h 58 1 (by decide) rfl f125 (by decide) kv_119 rfl dX5_make_76 ?_
                    refine lv_iload hx hb dX5_make_79 (lv_at hl 2 rfl) ?_
                    refine lv_bipush (v := 61) hx hb dX5_make_81 (by decide) ?_
                    obtain ⟨z128, e126, t127⟩ := x_mul (x := L46) (y := (61 : Int32)) (a := (L46).toInt) (b := 61) rfl rfl (by omega) (by omega)
                    refine o_imul (z := z128) hx hb dX5_make_83 e126 ?_
                    refine lv_iload hx hb dX5_make_84 (lv_at hl 1 rfl) ?_
                    obtain ⟨z131, e129, t130⟩ := x_add (x := z128) (y := L75) (a := (z128).toInt) (b := (L75).toInt) rfl rfl (by omega) (by omega)
                    refine o_iadd (z := z131) hx hb dX5_make_86 e129 ?_
                    refine lv_iload hx hb dX5_make_87 (lv_at hl 2 rfl) ?_
                    refine lv_iload_n hx hb dX5_make_89 rfl (lv_at hl 6 rfl) ?_
                    refine lv_iconst (v := 1) hx hb dX5_make_90 (by decide) ?_
                    obtain ⟨z134, e132, t133⟩ := x_sub (x := n) (y := (1 : Int32)) (a := (n).toInt) (b := 1) rfl rfl (by omega) (by omega)
                    refine o_isub (z := z134) hx hb dX5_make_91 e132 ?_
                    refine lv_icmp_ne (tgt := 100) hx hb dX5_make_92 (by decide) (fun hc135 => ?_) (fun hc135 => ?_)
                    · have hc135 : ¬ (L46).toInt = (z134).toInt := i_ne hc135 rfl rfl
                      refine lv_aload_n hx hb dX5_make_100 rfl (lv_at hl 3 rfl) ?_
                      refine lv_iload hx hb dX5_make_101 (lv_at hl 2 rfl) ?_
                      refine lv_iconst (v := 1) hx hb dX5_make_103 (by decide) ?_
                      obtain ⟨z138, e136, t137⟩ := x_add (x := L46) (y := (1 : Int32)) (a := (L46).toInt) (b := 1) rfl rfl (by omega) (by omega)
                      refine o_iadd (z := z138) hx hb dX5_make_104 e136 ?_
                      refine lv_iload hx hb dX5_make_105 (lv_at hl 0 rfl) ?_
                      refine n_Vi (na := 2) (As := [.int z138, .int r111]) (rest := [.int z131, .ref (ad 60)]) X hD hN h rfl (c_mostFrom l G cI cB cZ cO ad wL76  ok83 z138 r111 (by omega) (by omega) (by omega) (by omega) ) ⟨kv_126, kv_127, kv_128, kv_117, kv_129⟩ rfl ⟨by decide, by decide, by decide⟩ ⟨Nat.le_of_ble_eq_true rfl, Nat.le_of_ble_eq_true rfl⟩ ⟨Nat.zero_le _, Nat.zero_le _⟩ (by decide) f125 rfl rfl hl.1 rfl (Nat.le_of_ble_eq_true rfl) dX5_make_107 (fun r139 w140 H locs hp141 h => ?_)
                      obtain ⟨rfl, hr142⟩ := hp141
                      obtain ⟨g144, f143, p145⟩ := (show sA cI 244 (anyA) (wL76 60) from ok83 60 (by decide))
                      have f146 : wL76 60 = .inl (cI, 244, .inl g144) := f143
                      obtain ⟨g147, e148⟩ : ∃ z : Nat → Int32, upd g144 (z131).toNatClampNeg r139 = z := ⟨_, rfl⟩
                      have p149 : anyA g147 := trivial
                      refine o_iast (f1 := g147) X hD h 60 0 (by decide) rfl f146 rfl (in_of (by omega) (by omega)) e148 dX5_make_110 (fun H locs w150 e151 h => ?_)
                      have f152 : w150 60 = .inl (cI, 244, .inl g147) := (congrFun e151 _).trans (va_up_self _ _ _)
                      have ok153 : OK cI cB cZ cO ad w150 := OK.up ok83 e151 (sA_mk p149)
                      have kx154 : KX w w150 := KX.up kx84 e151 f146 rfl
                      obtain ⟨z155, e156, t157⟩ := x_add (x := L75) (y := 1) (a := L75.toInt) (b := 1) rfl rfl (by omega) (by omega)
                      refine lv_iinc (v := z155) (lv' := [(5, .int z155), (6, .int r111), (4, .int L46), (0, .ref (ad 58)), (1, .ref (ad 1)), (2, .int j), (3, .int n)]) hx hb dX5_make_111 hl (k := 1) rfl e156 (by decide) rfl (fun ls hl => ?_)
                      refine lv_goto (tgt := 48) hx hb dX5_make_114 (by decide) ?_
                      exact ih79  z155 w150 _ _ _ (by omega) (by omega) ok153 kx154 (by omega) h (lv_sub hl [0, 2, 3, 4, 5, 6] rfl)
                    · have hc135 : (L46).toInt = (z134).toInt := i_eq hc135 rfl rfl
                      refine lv_iload hx hb dX5_make_95 (lv_at hl 0 rfl) ?_
                      refine lv_goto (tgt := 110) hx hb dX5_make_97 (by decide) ?_
                      obtain ⟨g159, f158, p160⟩ := (show sA cI 244 (anyA) (wL76 60) from ok83 60 (by decide))
                      have f161 : wL76 60 = .inl (cI, 244, .inl g159) := f158
                      obtain ⟨g162, e163⟩ : ∃ z : Nat → Int32, upd g159 (z131).toNatClampNeg r111 = z := ⟨_, rfl⟩
                      have p164 : anyA g162 := trivial
                      refine o_iast (f1 := g162) X hD h 60 0 (by decide) rfl f161 rfl (in_of (by omega) (by omega)) e163 dX5_make_110 (fun H locs w165 e166 h => ?_)
                      have f167 : w165 60 = .inl (cI, 244, .inl g162) := (congrFun e166 _).trans (va_up_self _ _ _)
                      have ok168 : OK cI cB cZ cO ad w165 := OK.up ok83 e166 (sA_mk p164)
                      have kx169 : KX w w165 := KX.up kx84 e166 f161 rfl
                      obtain ⟨z170, e171, t172⟩ := x_add (x := L75) (y := 1) (a := L75.toInt) (b := 1) rfl rfl (by omega) (by omega)
                      refine lv_iinc (v := z170) (lv' := [(5, .int z170), (6, .int r111), (4, .int L46), (0, .ref (ad 58)), (1, .ref (ad 1)), (2, .int j), (3, .int n)]) hx hb dX5_make_111 hl (k := 1) rfl e171 (by decide) rfl (fun ls hl => ?_)
                      refine lv_goto (tgt := 48) hx hb dX5_make_114 (by decide) ?_
                      exact ih79  z170 w165 _ _ _ (by omega) (by omega) ok168 kx169 (by omega) h (lv_sub hl [0, 2, 3, 4, 5, 6] rfl)
              exact hloop77 62 (0 : Int32) wL47 _ _ _ (by have q0 : (0 : Int32).toInt = 0 := rfl; omega) (by have q0 : (0 : Int32).toInt = 0 := rfl; omega) ok55 kx56 (by have q0 : (0 : Int32).toInt = 0 := rfl; omega) h (lv_sub hl [0, 1, 2, 3, 4, 5] rfl)
        exact hloop48 5 z45 wL32 _ _ _ (by omega) (by omega) (by omega) ok39 kx40 (by omega) h (lv_sub hl [0, 1, 2, 3, 4] rfl)
      · have hc42 : ¬ (n).toInt ≤ (L31).toInt := i_nle hc42 rfl rfl
        refine lv_aload_n hx hb dX5_make_22 rfl (lv_at hl 1 rfl) ?_
        refine lv_aload_n hx hb dX5_make_23 rfl (lv_at hl 2 rfl) ?_
        refine lv_iload hx hb dX5_make_24 (lv_at hl 0 rfl) ?_
        obtain ⟨t177, t178, t179, f176, h180, h181, h182, h183⟩ := (show sL ad (wL32 58) from ok39 58 (by decide))
        have f184 : wL32 58 = .inr (3, [.ref (ad 59), .ref (ad 60), .ref (ad 61), .int t177, .int t178, .int t179]) := f176
        refine n_Vv (na := 2) (As := [.ref (ad 1), .int L31]) (rest := []) X hD hN h rfl (c_askCasters l G cI cB cZ cO ad wL32  ok39 L31 (by omega) (by omega) ) ⟨kv_146, kv_147, kv_148, kv_117, kv_149⟩ rfl ⟨by decide, by decide, by decide⟩ ⟨Nat.le_of_ble_eq_true rfl, Nat.le_of_ble_eq_true rfl⟩ ⟨Nat.zero_le _, Nat.zero_le _⟩ (by decide) f184 rfl rfl hl.1 rfl (Nat.le_of_ble_eq_true rfl) dX5_make_26 (fun w174 H locs hp175 h => ?_)
        obtain ⟨ok186, kk187, hr185⟩ := hp175
        have kx188 : KX w w174 := KX.tr kx40 kk187
        obtain ⟨z189, e190, t191⟩ := x_add (x := L31) (y := 1) (a := L31.toInt) (b := 1) rfl rfl (by omega) (by omega)
        refine lv_iinc (v := z189) (lv' := [(4, .int z189), (0, .ref (ad 58)), (1, .ref (ad 1)), (2, .int j), (3, .int n)]) hx hb dX5_make_29 hl (k := 0) rfl e190 (by decide) rfl (fun ls hl => ?_)
        refine lv_goto (tgt := 16) hx hb dX5_make_32 (by decide) ?_
        exact ih35  z189 w174 _ _ _ (by omega) (by omega) ok186 kx188 (by omega) h (lv_sub hl [0, 1, 2, 3, 4] rfl)
  exact hloop33 5 (0 : Int32) w26 _ _ _ (by have q0 : (0 : Int32).toInt = 0 := rfl; omega) (by have q0 : (0 : Int32).toInt = 0 := rfl; omega) ok29 kx30 (by have q0 : (0 : Int32).toInt = 0 := rfl; omega) h (lv_sub hl [0, 1, 2, 3, 4] rfl)

set_option maxHeartbeats 4000000 in
set_option maxRecDepth 100000 in
theorem c_waysToKeep (l : Launch) (G : va_G) (cI cB cZ cO : ClassId) (ad : Nat → Nat) (w : Nat → va_E)  (ok : OK cI cB cZ cO ad w) (j : Int32) (x : Int32) (n : Int32) (hl_j : 0 ≤ j.toInt) (hh_j : j.toInt ≤ 3)  : NL l G (tyq cI cB cZ cO) yX5_waysToKeep cX5_waysToKeep 13 (some .long) 3 66 74 ad w [.ref (ad 58), .ref (ad 1), .int j, .int x, .int n] (fun r w1 => w = w1 ∧ True) := by
  refine nk_l (own := "NoonShade$Plan") rfl (by decide) (Nat.le_of_ble_eq_true rfl) ?_
  intro p e s m below meth c ls X hD hN hr hlk h hl
  have hx := X.1.1
  have hb := X.1.2.1
  have hown := X.1.2.2.2.1
  have hts := X.1.2.2.2.2
  have hl : lv_has ls 13 [(0, .ref (ad 58)), (1, .ref (ad 1)), (2, .int j), (3, .int x), (4, .int n)] := hl
  refine lv_lconst (v := 0) hx hb dX5_waysToKeep_0 (by decide) ?_
  refine lv_lstore (lv' := [(5, .long 0), (0, .ref (ad 58)), (1, .ref (ad 1)), (2, .int j), (3, .int x), (4, .int n)]) hx hb dX5_waysToKeep_1 hl (by decide) rfl (fun ls hl => ?_)
  refine lv_iconst (v := 0) hx hb dX5_waysToKeep_3 (by decide) ?_
  refine lv_istore (lv' := [(7, .int 0), (5, .long 0), (0, .ref (ad 58)), (1, .ref (ad 1)), (2, .int j), (3, .int x), (4, .int n)]) hx hb dX5_waysToKeep_4 hl (by decide) rfl (fun ls hl => ?_)
  have hloop3 : ∀ (d4 : Nat) (L1 : Int32) (L2 : Int64) (H : Heap) (locs : List Loc) (ls : Array Slot), 0 ≤ L1.toInt → L1.toInt ≤ 128 → 128 - L1.toInt < (d4 : Int) → St G 74 ad (wA 74 ad s.heap.size) s.heap w H locs → lv_has ls 13 [(7, .int L1), (5, .long L2), (0, .ref (ad 58)), (1, .ref (ad 1)), (2, .int j), (3, .int x), (4, .int n)] → W p l e { frames := 3, cells := 0, slots := 0, locals := 66 } s m [.ref (ad 58), .ref (ad 1), .int j, .int x, .int n].toArray below meth c H locs 0 0 (MQ below (va_Ql (fun r w1 => w = w1 ∧ True) (Aft G 74 ad) (wA 74 ad s.heap.size)) [.ref (ad 58), .ref (ad 1), .int j, .int x, .int n].toArray s 0 0 (wA 74 ad s.heap.size)) (F0 m 6 ls []) := by
    intro d4
    induction d4 with
    | zero => intro L1 L2 H locs ls hi7 hi8 hm6 h hl; exfalso; omega
    | succ d4 ih5 =>
      intro L1 L2 H locs ls hi7 hi8 hm6 h hl
      refine lv_iload hx hb dX5_waysToKeep_6 (lv_at hl 0 rfl) ?_
      refine lv_iconst (v := 1) hx hb dX5_waysToKeep_8 (by decide) ?_
      refine lv_aload_n hx hb dX5_waysToKeep_9 rfl (lv_at hl 2 rfl) ?_
      obtain ⟨t13, t14, t15, f12, h16, h17, h18, h19⟩ := (show sL ad (w 58) from ok 58 (by decide))
      have f20 : w 58 = .inr (3, [.ref (ad 59), .ref (ad 60), .ref (ad 61), .int t13, .int t14, .int t15]) := f12
      refine r_get kc5 X h 58 4 (by decide) rfl f20 (by decide) kv_125 rfl dX5_waysToKeep_10 ?_
      obtain ⟨z23, e21, t22, t22b⟩ := x_shl7 (i := t14) (by omega) (by omega)
      refine o_ishl (z := z23) hx hb dX5_waysToKeep_13 e21 ?_
      refine lv_icmp_ge (tgt := 140) hx hb dX5_waysToKeep_14 (by decide) (fun hc24 => ?_) (fun hc24 => ?_)
      · have hc24 : (z23).toInt ≤ (L1).toInt := i_le hc24 rfl rfl
        refine lv_lload hx hb dX5_waysToKeep_140 (lv_at hl 1 rfl) ?_
        exact e_l X h hr hlk dX5_waysToKeep_142 ⟨rfl, trivial⟩
      · have hc24 : ¬ (z23).toInt ≤ (L1).toInt := i_nle hc24 rfl rfl
        refine lv_lconst (v := 1) hx hb dX5_waysToKeep_17 (by decide) ?_
        refine lv_lstore (lv' := [(8, .long 1), (7, .int L1), (5, .long L2), (0, .ref (ad 58)), (1, .ref (ad 1)), (2, .int j), (3, .int x), (4, .int n)]) hx hb dX5_waysToKeep_18 hl (by decide) rfl (fun ls hl => ?_)
        refine lv_aload_n hx hb dX5_waysToKeep_20 rfl (lv_at hl 4 rfl) ?_
        obtain ⟨q26, q27, q28, q29, q30, f25, h31, h32, h33, h34⟩ := (show sI ad 1 (w 1) from ok 1 (by decide))
        have f35 : w 1 = .inr (1, [.int q26, .int q27, .int q28, .int q29, .int q30, .ref (ad 2), .ref (ad 3), .ref (ad 4), .ref (ad 5), .ref (ad 6), .ref (ad 7), .ref (ad 8), .ref (ad 10), .ref (ad 12)]) := f25
        refine r_get kc2 X h 1 9 (by decide) rfl f35 (by decide) kv_124 rfl dX5_waysToKeep_21 ?_
        refine lv_iload_n hx hb dX5_waysToKeep_24 rfl (lv_at hl 5 rfl) ?_
        obtain ⟨g37, f36, p38⟩ := (show sA cI 4 (rgA 0 60) (w 6) from ok 6 (by decide))
        have f39 : w 6 = .inl (cI, 4, .inl g37) := f36
        obtain ⟨v40, e41⟩ : ∃ z : Int32, g37 (j).toNatClampNeg = z := ⟨_, rfl⟩
        have h42 := rgA_rd p38 e41
        refine o_iald (v := v40) X h 6 0 (by decide) rfl f39 rfl (in_of (by omega) (by omega)) e41 dX5_waysToKeep_25 ?_
        refine lv_istore (lv' := [(10, .int v40), (8, .long 1), (7, .int L1), (5, .long L2), (0, .ref (ad 58)), (1, .ref (ad 1)), (2, .int j), (3, .int x), (4, .int n)]) hx hb dX5_waysToKeep_26 hl (by decide) rfl (fun ls hl => ?_)
        refine lv_iconst (v := 0) hx hb dX5_waysToKeep_28 (by decide) ?_
        refine lv_istore (lv' := [(11, .int 0), (10, .int v40), (8, .long 1), (7, .int L1), (5, .long L2), (0, .ref (ad 58)), (1, .ref (ad 1)), (2, .int j), (3, .int x), (4, .int n)]) hx hb dX5_waysToKeep_29 hl (by decide) rfl (fun ls hl => ?_)
        have hloop46 : ∀ (d47 : Nat) (L43 : Int32) (L44 : Int32) (L45 : Int64) (H : Heap) (locs : List Loc) (ls : Array Slot), 0 ≤ L44.toInt → L44.toInt ≤ 60 → 0 ≤ L43.toInt → L43.toInt ≤ 4 → 4 - L43.toInt < (d47 : Int) → St G 74 ad (wA 74 ad s.heap.size) s.heap w H locs → lv_has ls 13 [(11, .int L43), (10, .int L44), (8, .long L45), (7, .int L1), (5, .long L2), (0, .ref (ad 58)), (1, .ref (ad 1)), (2, .int j), (3, .int x), (4, .int n)] → W p l e { frames := 3, cells := 0, slots := 0, locals := 66 } s m [.ref (ad 58), .ref (ad 1), .int j, .int x, .int n].toArray below meth c H locs 0 0 (MQ below (va_Ql (fun r w1 => w = w1 ∧ True) (Aft G 74 ad) (wA 74 ad s.heap.size)) [.ref (ad 58), .ref (ad 1), .int j, .int x, .int n].toArray s 0 0 (wA 74 ad s.heap.size)) (F0 m 31 ls []) := by
          intro d47
          induction d47 with
          | zero => intro L43 L44 L45 H locs ls hi50 hi51 hi52 hi53 hm49 h hl; exfalso; omega
          | succ d47 ih48 =>
            intro L43 L44 L45 H locs ls hi50 hi51 hi52 hi53 hm49 h hl
            refine lv_iload hx hb dX5_waysToKeep_31 (lv_at hl 0 rfl) ?_
            refine lv_aload_n hx hb dX5_waysToKeep_33 rfl (lv_at hl 5 rfl) ?_
            refine r_get kc5 X h 58 4 (by decide) rfl f20 (by decide) kv_125 rfl dX5_waysToKeep_34 ?_
            refine lv_icmp_ge (tgt := 121) hx hb dX5_waysToKeep_37 (by decide) (fun hc57 => ?_) (fun hc57 => ?_)
            · have hc57 : (t14).toInt ≤ (L43).toInt := i_le hc57 rfl rfl
              refine lv_iload hx hb dX5_waysToKeep_121 (lv_at hl 1 rfl) ?_
              refine lv_iload_n hx hb dX5_waysToKeep_123 rfl (lv_at hl 8 rfl) ?_
              refine lv_icmp_lt (tgt := 134) hx hb dX5_waysToKeep_124 (by decide) (fun hc58 => ?_) (fun hc58 => ?_)
              · have hc58 : (L44).toInt < (x).toInt := i_lt hc58 rfl rfl
                obtain ⟨z59, e60, t61⟩ := x_add (x := L1) (y := 1) (a := L1.toInt) (b := 1) rfl rfl (by omega) (by omega)
                refine lv_iinc (v := z59) (lv' := [(7, .int z59), (11, .int L43), (10, .int L44), (8, .long L45), (5, .long L2), (0, .ref (ad 58)), (1, .ref (ad 1)), (2, .int j), (3, .int x), (4, .int n)]) hx hb dX5_waysToKeep_134 hl (k := 3) rfl e60 (by decide) rfl (fun ls hl => ?_)
                refine lv_goto (tgt := 6) hx hb dX5_waysToKeep_137 (by decide) ?_
                exact ih5  z59 L2  _ _ _ (by omega) (by omega)  (by omega) h (lv_sub hl [0, 4, 5, 6, 7, 8, 9] rfl)
              · have hc58 : ¬ (L44).toInt < (x).toInt := i_nlt hc58 rfl rfl
                refine lv_lload hx hb dX5_waysToKeep_127 (lv_at hl 4 rfl) ?_
                refine lv_lload hx hb dX5_waysToKeep_129 (lv_at hl 2 rfl) ?_
                obtain ⟨z63, e62⟩ : ∃ z : Int64, L2 + L45 = z := ⟨_, rfl⟩
                refine o_ladd (z := z63) hx hb dX5_waysToKeep_131 e62 ?_
                refine lv_lstore (lv' := [(5, .long z63), (11, .int L43), (10, .int L44), (8, .long L45), (7, .int L1), (0, .ref (ad 58)), (1, .ref (ad 1)), (2, .int j), (3, .int x), (4, .int n)]) hx hb dX5_waysToKeep_132 hl (by decide) rfl (fun ls hl => ?_)
                obtain ⟨z64, e65, t66⟩ := x_add (x := L1) (y := 1) (a := L1.toInt) (b := 1) rfl rfl (by omega) (by omega)
                refine lv_iinc (v := z64) (lv' := [(7, .int z64), (5, .long z63), (11, .int L43), (10, .int L44), (8, .long L45), (0, .ref (ad 58)), (1, .ref (ad 1)), (2, .int j), (3, .int x), (4, .int n)]) hx hb dX5_waysToKeep_134 hl (k := 4) rfl e65 (by decide) rfl (fun ls hl => ?_)
                refine lv_goto (tgt := 6) hx hb dX5_waysToKeep_137 (by decide) ?_
                exact ih5  z64 z63  _ _ _ (by omega) (by omega)  (by omega) h (lv_sub hl [0, 1, 5, 6, 7, 8, 9] rfl)
            · have hc57 : ¬ (t14).toInt ≤ (L43).toInt := i_nle hc57 rfl rfl
              refine lv_iload hx hb dX5_waysToKeep_40 (lv_at hl 3 rfl) ?_
              refine lv_iload hx hb dX5_waysToKeep_42 (lv_at hl 0 rfl) ?_
              obtain ⟨z69, e67⟩ : ∃ z : Int32, L1 >>> (L43 &&& 31) = z := ⟨_, rfl⟩
              refine o_ishr (z := z69) hx hb dX5_waysToKeep_44 e67 ?_
              refine lv_iconst (v := 1) hx hb dX5_waysToKeep_45 (by decide) ?_
              obtain ⟨z72, e70⟩ : ∃ z : Int32, z69 &&& (1 : Int32) = z := ⟨_, rfl⟩
              refine o_iand (z := z72) hx hb dX5_waysToKeep_46 e70 ?_
              refine lv_if_eq (tgt := 54) hx hb dX5_waysToKeep_47 (by decide) (fun hc73 => ?_) (fun hc73 => ?_)
              · have hc73 : (z72).toInt = 0 := i_eq hc73 rfl rfl
                refine lv_iconst (v := 0) hx hb dX5_waysToKeep_54 (by decide) ?_
                refine lv_istore (lv' := [(12, .int 0), (11, .int L43), (10, .int L44), (8, .long L45), (7, .int L1), (5, .long L2), (0, .ref (ad 58)), (1, .ref (ad 1)), (2, .int j), (3, .int x), (4, .int n)]) hx hb dX5_waysToKeep_55 hl (by decide) rfl (fun ls hl => ?_)
                refine lv_lload hx hb dX5_waysToKeep_57 (lv_at hl 3 rfl) ?_
                refine lv_iload hx hb dX5_waysToKeep_59 (lv_at hl 0 rfl) ?_
                refine lv_if_eq (tgt := 70) hx hb dX5_waysToKeep_61 (by decide) (fun _ => ?_) (fun hc => absurd (by decide) hc)
                refine lv_bipush (v := 10) hx hb dX5_waysToKeep_70 (by decide) ?_
                refine lv_iload hx hb dX5_waysToKeep_72 (lv_at hl 10 rfl) ?_
                obtain ⟨z76, e74⟩ : ∃ z : Int32, (10 : Int32) - n = z := ⟨_, rfl⟩
                refine o_isub (z := z76) hx hb dX5_waysToKeep_74 e74 ?_
                obtain ⟨z77, e78⟩ : ∃ z : Int64, z76.toInt64 = z := ⟨_, rfl⟩
                have tz77 : z77.toInt = (z76).toInt := by rw [← e78]; exact Int32.toInt_toInt64 _
                refine lv_i2l (v := z77) hx hb dX5_waysToKeep_75 e78 ?_
                obtain ⟨z80, e79⟩ : ∃ z : Int64, L45 * z77 = z := ⟨_, rfl⟩
                refine o_lmul (z := z80) hx hb dX5_waysToKeep_76 e79 ?_
                refine lv_lstore (lv' := [(8, .long z80), (12, .int 0), (11, .int L43), (10, .int L44), (7, .int L1), (5, .long L2), (0, .ref (ad 58)), (1, .ref (ad 1)), (2, .int j), (3, .int x), (4, .int n)]) hx hb dX5_waysToKeep_77 hl (by decide) rfl (fun ls hl => ?_)
                refine lv_aload_n hx hb dX5_waysToKeep_79 rfl (lv_at hl 7 rfl) ?_
                refine r_get kc2 X h 1 8 (by decide) rfl f35 (by decide) kv_134 rfl dX5_waysToKeep_80 ?_
                refine lv_iload_n hx hb dX5_waysToKeep_83 rfl (lv_at hl 8 rfl) ?_
                obtain ⟨g82, f81, p83⟩ := (show sA cI 4 (anyA) (w 5) from ok 5 (by decide))
                have f84 : w 5 = .inl (cI, 4, .inl g82) := f81
                obtain ⟨v85, e86⟩ : ∃ z : Int32, g82 (j).toNatClampNeg = z := ⟨_, rfl⟩
                refine o_iald (v := v85) X h 5 0 (by decide) rfl f84 rfl (in_of (by omega) (by omega)) e86 dX5_waysToKeep_84 ?_
                refine lv_iload hx hb dX5_waysToKeep_85 (lv_at hl 1 rfl) ?_
                refine lv_if_eq (tgt := 95) hx hb dX5_waysToKeep_87 (by decide) (fun _ => ?_) (fun hc => absurd (by decide) hc)
                refine lv_aload_n hx hb dX5_waysToKeep_95 rfl (lv_at hl 6 rfl) ?_
                refine lv_iload hx hb dX5_waysToKeep_96 (lv_at hl 2 rfl) ?_
                refine lv_iload hx hb dX5_waysToKeep_98 (lv_at hl 3 rfl) ?_
                refine n_Vi (na := 2) (As := [.int L43, .int L44]) (rest := [.int v85]) X hD hN h rfl (c_filled l G cI cB cZ cO ad w  ok L43 L44 (by omega) (by omega) (by omega) (by omega) ) ⟨kv_135, kv_136, kv_137, kv_117, kv_138⟩ rfl ⟨by decide, by decide, by decide⟩ ⟨Nat.le_of_ble_eq_true rfl, Nat.le_of_ble_eq_true rfl⟩ ⟨Nat.zero_le _, Nat.zero_le _⟩ (by decide) f20 rfl rfl hl.1 rfl (Nat.le_of_ble_eq_true rfl) dX5_waysToKeep_100 (fun r88 w89 H locs hp90 h => ?_)
                obtain ⟨rfl, hr91⟩ := hp90
                obtain ⟨h92, h93⟩ := hr91
                refine lv_aload_n hx hb dX5_waysToKeep_103 rfl (lv_at hl 7 rfl) ?_
                refine r_get kc2 X h 1 0 (by decide) rfl f35 (by decide) kv_139 rfl dX5_waysToKeep_104 ?_
                refine lv_iload hx hb dX5_waysToKeep_107 (lv_at hl 2 rfl) ?_
                obtain ⟨z96, e94⟩ : ∃ z : Int32, q26 + L43 = z := ⟨_, rfl⟩
                refine o_iadd (z := z96) hx hb dX5_waysToKeep_109 e94 ?_
                refine n_Si (na := 3) (As := [.int v85, .int r88, .int z96]) (rest := []) X hD hN h (c_kept l G cI cB cZ cO ad w   v85 r88 z96 (by omega) (by omega) ) ⟨kv_140, kv_15, kv_9, kv_16⟩ ⟨by decide, by decide, by decide⟩ ⟨Nat.le_of_ble_eq_true rfl, Nat.le_of_ble_eq_true rfl⟩ ⟨Nat.zero_le _, Nat.zero_le _⟩ rfl hl.1 rfl (Nat.le_of_ble_eq_true rfl) dX5_waysToKeep_110 (fun r97 w98 H locs hp99 h => ?_)
                obtain ⟨rfl, hr100⟩ := hp99
                obtain ⟨h101, h102⟩ := hr100
                refine lv_istore (lv' := [(10, .int r97), (8, .long z80), (12, .int 0), (11, .int L43), (7, .int L1), (5, .long L2), (0, .ref (ad 58)), (1, .ref (ad 1)), (2, .int j), (3, .int x), (4, .int n)]) hx hb dX5_waysToKeep_113 hl (by decide) rfl (fun ls hl => ?_)
                obtain ⟨z103, e104, t105⟩ := x_add (x := L43) (y := 1) (a := L43.toInt) (b := 1) rfl rfl (by omega) (by omega)
                refine lv_iinc (v := z103) (lv' := [(11, .int z103), (10, .int r97), (8, .long z80), (12, .int 0), (7, .int L1), (5, .long L2), (0, .ref (ad 58)), (1, .ref (ad 1)), (2, .int j), (3, .int x), (4, .int n)]) hx hb dX5_waysToKeep_115 hl (k := 3) rfl e104 (by decide) rfl (fun ls hl => ?_)
                refine lv_goto (tgt := 31) hx hb dX5_waysToKeep_118 (by decide) ?_
                exact ih48  z103 r97 z80  _ _ _ (by omega) (by omega) (by omega) (by omega)  (by omega) h (lv_sub hl [0, 1, 2, 4, 5, 6, 7, 8, 9, 10] rfl)
              · have hc73 : ¬ (z72).toInt = 0 := i_ne hc73 rfl rfl
                refine lv_iconst (v := 1) hx hb dX5_waysToKeep_50 (by decide) ?_
                refine lv_goto (tgt := 55) hx hb dX5_waysToKeep_51 (by decide) ?_
                refine lv_istore (lv' := [(12, .int 1), (11, .int L43), (10, .int L44), (8, .long L45), (7, .int L1), (5, .long L2), (0, .ref (ad 58)), (1, .ref (ad 1)), (2, .int j), (3, .int x), (4, .int n)]) hx hb dX5_waysToKeep_55 hl (by decide) rfl (fun ls hl => ?_)
                refine lv_lload hx hb dX5_waysToKeep_57 (lv_at hl 3 rfl) ?_
                refine lv_iload hx hb dX5_waysToKeep_59 (lv_at hl 0 rfl) ?_
                refine lv_if_eq (tgt := 70) hx hb dX5_waysToKeep_61 (by decide) (fun hc => absurd hc (by decide)) (fun _ => ?_)
                refine lv_iload hx hb dX5_waysToKeep_64 (lv_at hl 10 rfl) ?_
                obtain ⟨z106, e107⟩ : ∃ z : Int64, n.toInt64 = z := ⟨_, rfl⟩
                have tz106 : z106.toInt = (n).toInt := by rw [← e107]; exact Int32.toInt_toInt64 _
                refine lv_i2l (v := z106) hx hb dX5_waysToKeep_66 e107 ?_
                refine lv_goto (tgt := 76) hx hb dX5_waysToKeep_67 (by decide) ?_
                obtain ⟨z109, e108⟩ : ∃ z : Int64, L45 * z106 = z := ⟨_, rfl⟩
                refine o_lmul (z := z109) hx hb dX5_waysToKeep_76 e108 ?_
                refine lv_lstore (lv' := [(8, .long z109), (12, .int 1), (11, .int L43), (10, .int L44), (7, .int L1), (5, .long L2), (0, .ref (ad 58)), (1, .ref (ad 1)), (2, .int j), (3, .int x), (4, .int n)]) hx hb dX5_waysToKeep_77 hl (by decide) rfl (fun ls hl => ?_)
                refine lv_aload_n hx hb dX5_waysToKeep_79 rfl (lv_at hl 7 rfl) ?_
                refine r_get kc2 X h 1 8 (by decide) rfl f35 (by decide) kv_134 rfl dX5_waysToKeep_80 ?_
                refine lv_iload_n hx hb dX5_waysToKeep_83 rfl (lv_at hl 8 rfl) ?_
                obtain ⟨g111, f110, p112⟩ := (show sA cI 4 (anyA) (w 5) from ok 5 (by decide))
                have f113 : w 5 = .inl (cI, 4, .inl g111) := f110
                obtain ⟨v114, e115⟩ : ∃ z : Int32, g111 (j).toNatClampNeg = z := ⟨_, rfl⟩
                refine o_iald (v := v114) X h 5 0 (by decide) rfl f113 rfl (in_of (by omega) (by omega)) e115 dX5_waysToKeep_84 ?_
                refine lv_iload hx hb dX5_waysToKeep_85 (lv_at hl 1 rfl) ?_
                refine lv_if_eq (tgt := 95) hx hb dX5_waysToKeep_87 (by decide) (fun hc => absurd hc (by decide)) (fun _ => ?_)
                refine lv_iload hx hb dX5_waysToKeep_90 (lv_at hl 3 rfl) ?_
                refine lv_goto (tgt := 103) hx hb dX5_waysToKeep_92 (by decide) ?_
                refine lv_aload_n hx hb dX5_waysToKeep_103 rfl (lv_at hl 7 rfl) ?_
                refine r_get kc2 X h 1 0 (by decide) rfl f35 (by decide) kv_139 rfl dX5_waysToKeep_104 ?_
                refine lv_iload hx hb dX5_waysToKeep_107 (lv_at hl 2 rfl) ?_
                obtain ⟨z119, e117⟩ : ∃ z : Int32, q26 + L43 = z := ⟨_, rfl⟩
                refine o_iadd (z := z119) hx hb dX5_waysToKeep_109 e117 ?_
                refine n_Si (na := 3) (As := [.int v114, .int L44, .int z119]) (rest := []) X hD hN h (c_kept l G cI cB cZ cO ad w   v114 L44 z119 (by omega) (by omega) ) ⟨kv_140, kv_15, kv_9, kv_16⟩ ⟨by decide, by decide, by decide⟩ ⟨Nat.le_of_ble_eq_true rfl, Nat.le_of_ble_eq_true rfl⟩ ⟨Nat.zero_le _, Nat.zero_le _⟩ rfl hl.1 rfl (Nat.le_of_ble_eq_true rfl) dX5_waysToKeep_110 (fun r120 w121 H locs hp122 h => ?_)
                obtain ⟨rfl, hr123⟩ := hp122
                obtain ⟨h124, h125⟩ := hr123
                refine lv_istore (lv' := [(10, .int r120), (8, .long z109), (12, .int 1), (11, .int L43), (7, .int L1), (5, .long L2), (0, .ref (ad 58)), (1, .ref (ad 1)), (2, .int j), (3, .int x), (4, .int n)]) hx hb dX5_waysToKeep_113 hl (by decide) rfl (fun ls hl => ?_)
                obtain ⟨z126, e127, t128⟩ := x_add (x := L43) (y := 1) (a := L43.toInt) (b := 1) rfl rfl (by omega) (by omega)
                refine lv_iinc (v := z126) (lv' := [(11, .int z126), (10, .int r120), (8, .long z109), (12, .int 1), (7, .int L1), (5, .long L2), (0, .ref (ad 58)), (1, .ref (ad 1)), (2, .int j), (3, .int x), (4, .int n)]) hx hb dX5_waysToKeep_115 hl (k := 3) rfl e127 (by decide) rfl (fun ls hl => ?_)
                refine lv_goto (tgt := 31) hx hb dX5_waysToKeep_118 (by decide) ?_
                exact ih48  z126 r120 z109  _ _ _ (by omega) (by omega) (by omega) (by omega)  (by omega) h (lv_sub hl [0, 1, 2, 4, 5, 6, 7, 8, 9, 10] rfl)
        exact hloop46 5 (0 : Int32) v40 (1 : Int64)  _ _ _ (by have q0 : (0 : Int32).toInt = 0 := rfl; omega) (by have q0 : (0 : Int32).toInt = 0 := rfl; omega) (by have q0 : (0 : Int32).toInt = 0 := rfl; omega) (by have q0 : (0 : Int32).toInt = 0 := rfl; omega)  (by have q0 : (0 : Int32).toInt = 0 := rfl; omega) h (lv_sub hl [0, 1, 2, 3, 4, 5, 6, 7, 8, 9] rfl)
  exact hloop3 129 (0 : Int32) (0 : Int64)  _ _ _ (by have q0 : (0 : Int32).toInt = 0 := rfl; omega) (by have q0 : (0 : Int32).toInt = 0 := rfl; omega)  (by have q0 : (0 : Int32).toInt = 0 := rfl; omega) h (lv_sub hl [0, 1, 2, 3, 4, 5, 6] rfl)

set_option maxHeartbeats 4000000 in
set_option maxRecDepth 100000 in
theorem c_waysInAll (l : Launch) (G : va_G) (cI cB cZ cO : ClassId) (ad : Nat → Nat) (w : Nat → va_E)  (ok : OK cI cB cZ cO ad w)    : NL l G (tyq cI cB cZ cO) yX5_waysInAll cX5_waysInAll 4 (some .long) 0 0 74 ad w [.ref (ad 58)] (fun r w1 => w = w1 ∧ True) := by
  refine nk_l (own := "NoonShade$Plan") rfl (by decide) (Nat.le_of_ble_eq_true rfl) ?_
  intro p e s m below meth c ls X hD hN hr hlk h hl
  have hx := X.1.1
  have hb := X.1.2.1
  have hown := X.1.2.2.2.1
  have hts := X.1.2.2.2.2
  have hl : lv_has ls 4 [(0, .ref (ad 58))] := hl
  refine lv_lconst (v := 1) hx hb dX5_waysInAll_0 (by decide) ?_
  refine lv_lstore_n (lv' := [(1, .long 1), (0, .ref (ad 58))]) hx hb dX5_waysInAll_1 rfl hl (by decide) rfl (fun ls hl => ?_)
  refine lv_iconst (v := 0) hx hb dX5_waysInAll_2 (by decide) ?_
  refine lv_istore_n (lv' := [(3, .int 0), (1, .long 1), (0, .ref (ad 58))]) hx hb dX5_waysInAll_3 rfl hl (by decide) rfl (fun ls hl => ?_)
  have hloop3 : ∀ (d4 : Nat) (L1 : Int32) (L2 : Int64) (H : Heap) (locs : List Loc) (ls : Array Slot), 0 ≤ L1.toInt → L1.toInt ≤ 4 → 4 - L1.toInt < (d4 : Int) → St G 74 ad (wA 74 ad s.heap.size) s.heap w H locs → lv_has ls 4 [(3, .int L1), (1, .long L2), (0, .ref (ad 58))] → W p l e { frames := 0, cells := 0, slots := 0, locals := 0 } s m [.ref (ad 58)].toArray below meth c H locs 0 0 (MQ below (va_Ql (fun r w1 => w = w1 ∧ True) (Aft G 74 ad) (wA 74 ad s.heap.size)) [.ref (ad 58)].toArray s 0 0 (wA 74 ad s.heap.size)) (F0 m 4 ls []) := by
    intro d4
    induction d4 with
    | zero => intro L1 L2 H locs ls hi7 hi8 hm6 h hl; exfalso; omega
    | succ d4 ih5 =>
      intro L1 L2 H locs ls hi7 hi8 hm6 h hl
      refine lv_iload_n hx hb dX5_waysInAll_4 rfl (lv_at hl 0 rfl) ?_
      refine lv_aload_n hx hb dX5_waysInAll_5 rfl (lv_at hl 2 rfl) ?_
      obtain ⟨t13, t14, t15, f12, h16, h17, h18, h19⟩ := (show sL ad (w 58) from ok 58 (by decide))
      have f20 : w 58 = .inr (3, [.ref (ad 59), .ref (ad 60), .ref (ad 61), .int t13, .int t14, .int t15]) := f12
      refine r_get kc5 X h 58 4 (by decide) rfl f20 (by decide) kv_125 rfl dX5_waysInAll_6 ?_
      refine lv_icmp_ge (tgt := 24) hx hb dX5_waysInAll_9 (by decide) (fun hc21 => ?_) (fun hc21 => ?_)
      · have hc21 : (t14).toInt ≤ (L1).toInt := i_le hc21 rfl rfl
        refine lv_lload_n hx hb dX5_waysInAll_24 rfl (lv_at hl 1 rfl) ?_
        exact e_l X h hr hlk dX5_waysInAll_25 ⟨rfl, trivial⟩
      · have hc21 : ¬ (t14).toInt ≤ (L1).toInt := i_nle hc21 rfl rfl
        refine lv_lload_n hx hb dX5_waysInAll_12 rfl (lv_at hl 1 rfl) ?_
        refine lv_ldc2 (v := 10) hx hb hown (hts _ kv_150) dX5_waysInAll_13 ?_
        obtain ⟨z23, e22⟩ : ∃ z : Int64, L2 * (10 : Int64) = z := ⟨_, rfl⟩
        refine o_lmul (z := z23) hx hb dX5_waysInAll_16 e22 ?_
        refine lv_lstore_n (lv' := [(1, .long z23), (3, .int L1), (0, .ref (ad 58))]) hx hb dX5_waysInAll_17 rfl hl (by decide) rfl (fun ls hl => ?_)
        obtain ⟨z24, e25, t26⟩ := x_add (x := L1) (y := 1) (a := L1.toInt) (b := 1) rfl rfl (by omega) (by omega)
        refine lv_iinc (v := z24) (lv' := [(3, .int z24), (1, .long z23), (0, .ref (ad 58))]) hx hb dX5_waysInAll_18 hl (k := 1) rfl e25 (by decide) rfl (fun ls hl => ?_)
        refine lv_goto (tgt := 4) hx hb dX5_waysInAll_21 (by decide) ?_
        exact ih5  z24 z23  _ _ _ (by omega) (by omega)  (by omega) h (lv_sub hl [0, 1, 2] rfl)
  exact hloop3 5 (0 : Int32) (1 : Int64)  _ _ _ (by have q0 : (0 : Int32).toInt = 0 := rfl; omega) (by have q0 : (0 : Int32).toInt = 0 := rfl; omega)  (by have q0 : (0 : Int32).toInt = 0 := rfl; omega) h (lv_sub hl [0, 1, 2] rfl)
