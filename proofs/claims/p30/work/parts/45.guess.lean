set_option maxHeartbeats 4000000 in
set_option maxRecDepth 100000 in
theorem c_answeredSo (l : Launch) (G : va_G) (cI cB cZ cO : ClassId) (ad : Nat → Nat) (w : Nat → va_E)  (ok : OK cI cB cZ cO ad w) (x : Int32) (n : Int32) (hl_n : 0 ≤ n.toInt) (hh_n : n.toInt ≤ 6)  : NI l G (tyq cI cB cZ cO) yX1_answeredSo cX1_answeredSo 5 (some .int) 0 0 74 ad w [.ref (ad 62), .int x, .int n] (fun r w1 => w = w1 ∧ True) := by
  refine nk_i (own := "NoonShade$Guess") rfl (by decide) (Nat.le_of_ble_eq_true rfl) ?_
  intro p e s m below meth c ls X hD hN hr hlk h hl
  have hx := X.1.1
  have hb := X.1.2.1
  have hown := X.1.2.2.2.1
  have hts := X.1.2.2.2.2
  have hl : lv_has ls 5 [(0, .ref (ad 62)), (1, .int x), (2, .int n)] := hl
  refine lv_iconst (v := 0) hx hb dX1_answeredSo_0 (by decide) ?_
  refine lv_istore_n (lv' := [(3, .int 0), (0, .ref (ad 62)), (1, .int x), (2, .int n)]) hx hb dX1_answeredSo_1 rfl hl (by decide) rfl (fun ls hl => ?_)
  refine lv_iconst (v := 0) hx hb dX1_answeredSo_2 (by decide) ?_
  refine lv_istore (lv' := [(4, .int 0), (3, .int 0), (0, .ref (ad 62)), (1, .int x), (2, .int n)]) hx hb dX1_answeredSo_3 hl (by decide) rfl (fun ls hl => ?_)
  have hloop3 : ∀ (d4 : Nat) (L1 : Int32) (L2 : Int32) (H : Heap) (locs : List Loc) (ls : Array Slot), 0 ≤ L1.toInt → L1.toInt ≤ 6 → 6 - L1.toInt < (d4 : Int) → St G 74 ad (wA 74 ad s.heap.size) s.heap w H locs → lv_has ls 5 [(4, .int L1), (3, .int L2), (0, .ref (ad 62)), (1, .int x), (2, .int n)] → W p l e { frames := 0, cells := 0, slots := 0, locals := 0 } s m [.ref (ad 62), .int x, .int n].toArray below meth c H locs 0 0 (MQ below (va_Qi (fun r w1 => w = w1 ∧ True) (Aft G 74 ad) (wA 74 ad s.heap.size)) [.ref (ad 62), .int x, .int n].toArray s 0 0 (wA 74 ad s.heap.size)) (F0 m 5 ls []) := by
    intro d4
    induction d4 with
    | zero => intro L1 L2 H locs ls hi7 hi8 hm6 h hl; exfalso; omega
    | succ d4 ih5 =>
      intro L1 L2 H locs ls hi7 hi8 hm6 h hl
      refine lv_iload hx hb dX1_answeredSo_5 (lv_at hl 0 rfl) ?_
      refine lv_iload_n hx hb dX1_answeredSo_7 rfl (lv_at hl 4 rfl) ?_
      refine lv_icmp_ge (tgt := 31) hx hb dX1_answeredSo_8 (by decide) (fun hc12 => ?_) (fun hc12 => ?_)
      · have hc12 : (n).toInt ≤ (L1).toInt := i_le hc12 rfl rfl
        refine lv_iload_n hx hb dX1_answeredSo_31 rfl (lv_at hl 1 rfl) ?_
        exact e_i X h hr hlk dX1_answeredSo_32 ⟨rfl, trivial⟩
      · have hc12 : ¬ (n).toInt ≤ (L1).toInt := i_nle hc12 rfl rfl
        refine lv_aload_n hx hb dX1_answeredSo_11 rfl (lv_at hl 2 rfl) ?_
        have f13 : w 62 = .inr (0, [.ref (ad 63)]) := ok 62 (by decide)
        have f14 : w 62 = .inr (0, [.ref (ad 63)]) := f13
        refine r_get kc1 X h 62 0 (by decide) rfl f14 (by decide) kv_95 rfl dX1_answeredSo_12 ?_
        refine lv_iload hx hb dX1_answeredSo_15 (lv_at hl 0 rfl) ?_
        obtain ⟨g16, f15, p17⟩ := (show sA cI 6 (anyA) (w 63) from ok 63 (by decide))
        have f18 : w 63 = .inl (cI, 6, .inl g16) := f15
        obtain ⟨v19, e20⟩ : ∃ z : Int32, g16 (L1).toNatClampNeg = z := ⟨_, rfl⟩
        refine o_iald (v := v19) X h 63 0 (by decide) rfl f18 rfl (in_of (by omega) (by omega)) e20 dX1_answeredSo_17 ?_
        refine lv_iload_n hx hb dX1_answeredSo_18 rfl (lv_at hl 3 rfl) ?_
        refine lv_icmp_ne (tgt := 25) hx hb dX1_answeredSo_19 (by decide) (fun hc22 => ?_) (fun hc22 => ?_)
        · have hc22 : ¬ (v19).toInt = (x).toInt := i_ne hc22 rfl rfl
          obtain ⟨z23, e24, t25⟩ := x_add (x := L1) (y := 1) (a := L1.toInt) (b := 1) rfl rfl (by omega) (by omega)
          refine lv_iinc (v := z23) (lv' := [(4, .int z23), (3, .int L2), (0, .ref (ad 62)), (1, .int x), (2, .int n)]) hx hb dX1_answeredSo_25 hl (k := 0) rfl e24 (by decide) rfl (fun ls hl => ?_)
          refine lv_goto (tgt := 5) hx hb dX1_answeredSo_28 (by decide) ?_
          exact ih5  z23 L2  _ _ _ (by omega) (by omega)  (by omega) h (lv_sub hl [0, 1, 2, 3, 4] rfl)
        · have hc22 : (v19).toInt = (x).toInt := i_eq hc22 rfl rfl
          obtain ⟨z26, e27⟩ : ∃ z : Int32, L2 + 1 = z := ⟨_, rfl⟩
          refine lv_iinc (v := z26) (lv' := [(3, .int z26), (4, .int L1), (0, .ref (ad 62)), (1, .int x), (2, .int n)]) hx hb dX1_answeredSo_22 hl (k := 1) rfl e27 (by decide) rfl (fun ls hl => ?_)
          obtain ⟨z29, e30, t31⟩ := x_add (x := L1) (y := 1) (a := L1.toInt) (b := 1) rfl rfl (by omega) (by omega)
          refine lv_iinc (v := z29) (lv' := [(4, .int z29), (3, .int z26), (0, .ref (ad 62)), (1, .int x), (2, .int n)]) hx hb dX1_answeredSo_25 hl (k := 1) rfl e30 (by decide) rfl (fun ls hl => ?_)
          refine lv_goto (tgt := 5) hx hb dX1_answeredSo_28 (by decide) ?_
          exact ih5  z29 z26  _ _ _ (by omega) (by omega)  (by omega) h (lv_sub hl [0, 1, 2, 3, 4] rfl)
  exact hloop3 7 (0 : Int32) (0 : Int32)  _ _ _ (by have q0 : (0 : Int32).toInt = 0 := rfl; omega) (by have q0 : (0 : Int32).toInt = 0 := rfl; omega)  (by have q0 : (0 : Int32).toInt = 0 := rfl; omega) h (lv_sub hl [0, 1, 2, 3, 4] rfl)

set_option maxHeartbeats 4000000 in
set_option maxRecDepth 100000 in
theorem c_mostAlike (l : Launch) (G : va_G) (cI cB cZ cO : ClassId) (ad : Nat → Nat) (w : Nat → va_E)  (ok : OK cI cB cZ cO ad w) (a0 : Int32) (a1 : Int32) (a2 : Int32) (a3 : Int32)   : NI l G (tyq cI cB cZ cO) yX1_mostAlike cX1_mostAlike 9 (some .int) 3 68 74 ad w [.ref (ad 62), .int a0, .int a1, .int a2, .int a3] (fun r w1 => OK cI cB cZ cO ad w1 ∧ KX w w1 ∧ True) := by
  refine nk_i (own := "NoonShade$Guess") rfl (by decide) (Nat.le_of_ble_eq_true rfl) ?_
  intro p e s m below meth c ls X hD hN hr hlk h hl
  have hx := X.1.1
  have hb := X.1.2.1
  have hown := X.1.2.2.2.1
  have hts := X.1.2.2.2.2
  have hl : lv_has ls 9 [(0, .ref (ad 62)), (1, .int a0), (2, .int a1), (3, .int a2), (4, .int a3)] := hl
  refine lv_iconst (v := 0) hx hb dX1_mostAlike_0 (by decide) ?_
  refine lv_istore (lv' := [(5, .int 0), (0, .ref (ad 62)), (1, .int a0), (2, .int a1), (3, .int a2), (4, .int a3)]) hx hb dX1_mostAlike_1 hl (by decide) rfl (fun ls hl => ?_)
  refine lv_iconst (v := 0) hx hb dX1_mostAlike_3 (by decide) ?_
  refine lv_istore (lv' := [(6, .int 0), (5, .int 0), (0, .ref (ad 62)), (1, .int a0), (2, .int a1), (3, .int a2), (4, .int a3)]) hx hb dX1_mostAlike_4 hl (by decide) rfl (fun ls hl => ?_)
  refine lv_iconst (v := 0) hx hb dX1_mostAlike_6 (by decide) ?_
  refine lv_istore (lv' := [(7, .int 0), (6, .int 0), (5, .int 0), (0, .ref (ad 62)), (1, .int a0), (2, .int a1), (3, .int a2), (4, .int a3)]) hx hb dX1_mostAlike_7 hl (by decide) rfl (fun ls hl => ?_)
  have hloop5 : ∀ (d6 : Nat) (L1 : Int32) (L2 : Int32) (L3 : Int32) (wL4 : Nat → va_E) (H : Heap) (locs : List Loc) (ls : Array Slot), 0 ≤ L2.toInt → L2.toInt ≤ 6 → 0 ≤ L1.toInt → L1.toInt ≤ 6 → L2.toInt ≤ L1.toInt → OK cI cB cZ cO ad wL4 → KX w wL4 → 6 - L1.toInt < (d6 : Int) → St G 74 ad (wA 74 ad s.heap.size) s.heap wL4 H locs → lv_has ls 9 [(7, .int L1), (6, .int L2), (5, .int L3), (0, .ref (ad 62)), (1, .int a0), (2, .int a1), (3, .int a2), (4, .int a3)] → W p l e { frames := 3, cells := 0, slots := 0, locals := 68 } s m [.ref (ad 62), .int a0, .int a1, .int a2, .int a3].toArray below meth c H locs 0 0 (MQ below (va_Qi (fun r w1 => OK cI cB cZ cO ad w1 ∧ KX w w1 ∧ True) (Aft G 74 ad) (wA 74 ad s.heap.size)) [.ref (ad 62), .int a0, .int a1, .int a2, .int a3].toArray s 0 0 (wA 74 ad s.heap.size)) (F0 m 9 ls []) := by
    intro d6
    induction d6 with
    | zero => intro L1 L2 L3 wL4 H locs ls hi9 hi10 hi11 hi12 hi13 ok14 kx15 hm8 h hl; exfalso; omega
    | succ d6 ih7 =>
      intro L1 L2 L3 wL4 H locs ls hi9 hi10 hi11 hi12 hi13 ok14 kx15 hm8 h hl
      refine lv_iload hx hb dX1_mostAlike_9 (lv_at hl 0 rfl) ?_
      refine lv_bipush (v := 6) hx hb dX1_mostAlike_11 (by decide) ?_
      refine lv_icmp_ge (tgt := 71) hx hb dX1_mostAlike_13 (by decide) (fun hc17 => ?_) (fun hc17 => ?_)
      · have hc17 : 6 ≤ (L1).toInt := i_le hc17 rfl rfl
        refine lv_iload hx hb dX1_mostAlike_71 (lv_at hl 2 rfl) ?_
        exact e_i X h hr hlk dX1_mostAlike_73 ⟨ok14, kx15, trivial⟩
      · have hc17 : ¬ 6 ≤ (L1).toInt := i_nle hc17 rfl rfl
        refine lv_iload_n hx hb dX1_mostAlike_16 rfl (lv_at hl 5 rfl) ?_
        refine lv_iload hx hb dX1_mostAlike_17 (lv_at hl 0 rfl) ?_
        obtain ⟨z20, e18⟩ : ∃ z : Int32, a1 >>> (L1 &&& 31) = z := ⟨_, rfl⟩
        refine o_ishr (z := z20) hx hb dX1_mostAlike_19 e18 ?_
        refine lv_iconst (v := 1) hx hb dX1_mostAlike_20 (by decide) ?_
        obtain ⟨z23, e21⟩ : ∃ z : Int32, z20 &&& (1 : Int32) = z := ⟨_, rfl⟩
        refine o_iand (z := z23) hx hb dX1_mostAlike_21 e21 ?_
        refine lv_if_eq (tgt := 65) hx hb dX1_mostAlike_22 (by decide) (fun hc24 => ?_) (fun hc24 => ?_)
        · have hc24 : (z23).toInt = 0 := i_eq hc24 rfl rfl
          obtain ⟨z25, e26, t27⟩ := x_add (x := L1) (y := 1) (a := L1.toInt) (b := 1) rfl rfl (by omega) (by omega)
          refine lv_iinc (v := z25) (lv' := [(7, .int z25), (6, .int L2), (5, .int L3), (0, .ref (ad 62)), (1, .int a0), (2, .int a1), (3, .int a2), (4, .int a3)]) hx hb dX1_mostAlike_65 hl (k := 0) rfl e26 (by decide) rfl (fun ls hl => ?_)
          refine lv_goto (tgt := 9) hx hb dX1_mostAlike_68 (by decide) ?_
          exact ih7  z25 L2 L3 wL4 _ _ _ (by omega) (by omega) (by omega) (by omega) (by omega) ok14 kx15 (by omega) h (lv_sub hl [0, 1, 2, 3, 4, 5, 6, 7] rfl)
        · have hc24 : ¬ (z23).toInt = 0 := i_ne hc24 rfl rfl
          refine lv_iload_n hx hb dX1_mostAlike_25 rfl (lv_at hl 4 rfl) ?_
          refine lv_iload hx hb dX1_mostAlike_26 (lv_at hl 0 rfl) ?_
          refine lv_iload_n hx hb dX1_mostAlike_28 rfl (lv_at hl 6 rfl) ?_
          refine lv_iload hx hb dX1_mostAlike_29 (lv_at hl 7 rfl) ?_
          refine n_Si (na := 4) (As := [.int a0, .int L1, .int a2, .int a3]) (rest := []) X hD hN h (c_says l G cI cB cZ cO ad wL4   a0 L1 a2 a3  ) ⟨kv_96, kv_81, kv_82, kv_83⟩ ⟨by decide, by decide, by decide⟩ ⟨Nat.le_of_ble_eq_true rfl, Nat.le_of_ble_eq_true rfl⟩ ⟨Nat.zero_le _, Nat.zero_le _⟩ rfl hl.1 rfl (Nat.le_of_ble_eq_true rfl) dX1_mostAlike_31 (fun r28 w29 H locs hp30 h => ?_)
          obtain ⟨rfl, hr31⟩ := hp30
          refine lv_istore (lv' := [(8, .int r28), (7, .int L1), (6, .int L2), (5, .int L3), (0, .ref (ad 62)), (1, .int a0), (2, .int a1), (3, .int a2), (4, .int a3)]) hx hb dX1_mostAlike_34 hl (by decide) rfl (fun ls hl => ?_)
          refine lv_iload hx hb dX1_mostAlike_36 (lv_at hl 3 rfl) ?_
          refine lv_iconst (v := 1) hx hb dX1_mostAlike_38 (by decide) ?_
          refine lv_aload_n hx hb dX1_mostAlike_39 rfl (lv_at hl 4 rfl) ?_
          refine lv_iload hx hb dX1_mostAlike_40 (lv_at hl 0 rfl) ?_
          refine lv_iload hx hb dX1_mostAlike_42 (lv_at hl 2 rfl) ?_
          have f35 : wL4 62 = .inr (0, [.ref (ad 63)]) := ok14 62 (by decide)
          have f36 : wL4 62 = .inr (0, [.ref (ad 63)]) := f35
          refine n_Vi (na := 2) (As := [.int r28, .int L2]) (rest := [.int 1, .int L3]) X hD hN h rfl (c_answeredSo l G cI cB cZ cO ad wL4  ok14 r28 L2 (by omega) (by omega) ) ⟨kv_97, kv_98, kv_99, kv_82, kv_100⟩ rfl ⟨by decide, by decide, by decide⟩ ⟨Nat.le_of_ble_eq_true rfl, Nat.le_of_ble_eq_true rfl⟩ ⟨Nat.zero_le _, Nat.zero_le _⟩ (by decide) f36 rfl rfl hl.1 rfl (Nat.le_of_ble_eq_true rfl) dX1_mostAlike_44 (fun r32 w33 H locs hp34 h => ?_)
          obtain ⟨rfl, hr37⟩ := hp34
          obtain ⟨z40, e38⟩ : ∃ z : Int32, (1 : Int32) + r32 = z := ⟨_, rfl⟩
          refine o_iadd (z := z40) hx hb dX1_mostAlike_47 e38 ?_
          obtain ⟨z41, e42, t43, t44, t45⟩ := x_max L3 z40
          refine o_mmax X hl.1 kv_101 kv_12 kv_2 kv_13 ⟨Nat.le_of_ble_eq_true rfl, Nat.le_of_ble_eq_true rfl⟩ (Nat.le_of_ble_eq_true rfl) ⟨Nat.zero_le _, Nat.zero_le _⟩ e42 dX1_mostAlike_48 ?_
          refine lv_istore (lv' := [(5, .int z41), (8, .int r28), (7, .int L1), (6, .int L2), (0, .ref (ad 62)), (1, .int a0), (2, .int a1), (3, .int a2), (4, .int a3)]) hx hb dX1_mostAlike_51 hl (by decide) rfl (fun ls hl => ?_)
          refine lv_aload_n hx hb dX1_mostAlike_53 rfl (lv_at hl 4 rfl) ?_
          refine r_get kc1 X h 62 0 (by decide) rfl f36 (by decide) kv_95 rfl dX1_mostAlike_54 ?_
          refine lv_iload hx hb dX1_mostAlike_57 (lv_at hl 3 rfl) ?_
          refine lv_iload hx hb dX1_mostAlike_59 (lv_at hl 1 rfl) ?_
          obtain ⟨g47, f46, p48⟩ := (show sA cI 6 (anyA) (wL4 63) from ok14 63 (by decide))
          have f49 : wL4 63 = .inl (cI, 6, .inl g47) := f46
          obtain ⟨g50, e51⟩ : ∃ z : Nat → Int32, upd g47 (L2).toNatClampNeg r28 = z := ⟨_, rfl⟩
          have p52 : anyA g50 := trivial
          refine o_iast (f1 := g50) X hD h 63 0 (by decide) rfl f49 rfl (in_of (by omega) (by omega)) e51 dX1_mostAlike_61 (fun H locs w53 e54 h => ?_)
          have f55 : w53 63 = .inl (cI, 6, .inl g50) := (congrFun e54 _).trans (va_up_self _ _ _)
          have ok56 : OK cI cB cZ cO ad w53 := OK.up ok14 e54 (sA_mk p52)
          have kx57 : KX w w53 := KX.up kx15 e54 f49 rfl
          obtain ⟨z58, e59, t60⟩ := x_add (x := L2) (y := 1) (a := L2.toInt) (b := 1) rfl rfl (by omega) (by omega)
          refine lv_iinc (v := z58) (lv' := [(6, .int z58), (5, .int z41), (8, .int r28), (7, .int L1), (0, .ref (ad 62)), (1, .int a0), (2, .int a1), (3, .int a2), (4, .int a3)]) hx hb dX1_mostAlike_62 hl (k := 3) rfl e59 (by decide) rfl (fun ls hl => ?_)
          obtain ⟨z61, e62, t63⟩ := x_add (x := L1) (y := 1) (a := L1.toInt) (b := 1) rfl rfl (by omega) (by omega)
          refine lv_iinc (v := z61) (lv' := [(7, .int z61), (6, .int z58), (5, .int z41), (8, .int r28), (0, .ref (ad 62)), (1, .int a0), (2, .int a1), (3, .int a2), (4, .int a3)]) hx hb dX1_mostAlike_65 hl (k := 3) rfl e62 (by decide) rfl (fun ls hl => ?_)
          refine lv_goto (tgt := 9) hx hb dX1_mostAlike_68 (by decide) ?_
          exact ih7  z61 z58 z41 w53 _ _ _ (by omega) (by omega) (by omega) (by omega) (by omega) ok56 kx57 (by omega) h (lv_sub hl [0, 1, 2, 4, 5, 6, 7, 8] rfl)
  exact hloop5 7 (0 : Int32) (0 : Int32) (0 : Int32) w _ _ _ (by have q0 : (0 : Int32).toInt = 0 := rfl; omega) (by have q0 : (0 : Int32).toInt = 0 := rfl; omega) (by have q0 : (0 : Int32).toInt = 0 := rfl; omega) (by have q0 : (0 : Int32).toInt = 0 := rfl; omega) (by have q0 : (0 : Int32).toInt = 0 := rfl; omega) ok KX.rf (by have q0 : (0 : Int32).toInt = 0 := rfl; omega) h (lv_sub hl [0, 1, 2, 3, 4, 5, 6, 7] rfl)

set_option maxHeartbeats 4000000 in
set_option maxRecDepth 100000 in
theorem c_tellingMost (l : Launch) (G : va_G) (cI cB cZ cO : ClassId) (ad : Nat → Nat) (w : Nat → va_E)  (ok : OK cI cB cZ cO ad w) (a0 : Int32) (a1 : Int32) (a2 : Int32) (a3 : Int32) (hl_a2 : 0 ≤ a2.toInt) (hh_a2 : a2.toInt ≤ 60) (hl_a3 : 0 ≤ a3.toInt) (hh_a3 : a3.toInt ≤ 60)  : NI l G (tyq cI cB cZ cO) yX1_tellingMost cX1_tellingMost 10 (some .int) 4 96 74 ad w [.ref (ad 62), .int a0, .int a1, .int a2, .int a3] (fun r w1 => OK cI cB cZ cO ad w1 ∧ KX w w1 ∧ True) := by
  refine nk_i (own := "NoonShade$Guess") rfl (by decide) (Nat.le_of_ble_eq_true rfl) ?_
  intro p e s m below meth c ls X hD hN hr hlk h hl
  have hx := X.1.1
  have hb := X.1.2.1
  have hown := X.1.2.2.2.1
  have hts := X.1.2.2.2.2
  have hl : lv_has ls 10 [(0, .ref (ad 62)), (1, .int a0), (2, .int a1), (3, .int a2), (4, .int a3)] := hl
  refine lv_iload_n hx hb dX1_tellingMost_0 rfl (lv_at hl 2 rfl) ?_
  refine lv_if_ne (tgt := 6) hx hb dX1_tellingMost_1 (by decide) (fun hc1 => ?_) (fun hc1 => ?_)
  · have hc1 : ¬ (a1).toInt = 0 := i_ne hc1 rfl rfl
    refine lv_iconst (v := (-1)) hx hb dX1_tellingMost_6 (by decide) ?_
    refine lv_istore (lv' := [(5, .int (-1)), (0, .ref (ad 62)), (1, .int a0), (2, .int a1), (3, .int a2), (4, .int a3)]) hx hb dX1_tellingMost_7 hl (by decide) rfl (fun ls hl => ?_)
    refine lv_bipush (v := 7) hx hb dX1_tellingMost_9 (by decide) ?_
    refine lv_istore (lv' := [(6, .int 7), (5, .int (-1)), (0, .ref (ad 62)), (1, .int a0), (2, .int a1), (3, .int a2), (4, .int a3)]) hx hb dX1_tellingMost_11 hl (by decide) rfl (fun ls hl => ?_)
    refine lv_iload_n hx hb dX1_tellingMost_13 rfl (lv_at hl 5 rfl) ?_
    refine lv_istore (lv' := [(7, .int a2), (6, .int 7), (5, .int (-1)), (0, .ref (ad 62)), (1, .int a0), (2, .int a1), (3, .int a2), (4, .int a3)]) hx hb dX1_tellingMost_14 hl (by decide) rfl (fun ls hl => ?_)
    have hloop6 : ∀ (d7 : Nat) (L2 : Int32) (L3 : Int32) (L4 : Int32) (wL5 : Nat → va_E) (H : Heap) (locs : List Loc) (ls : Array Slot), 0 ≤ L2.toInt → L2.toInt ≤ 61 → OK cI cB cZ cO ad wL5 → KX w wL5 → 61 - L2.toInt < (d7 : Int) → St G 74 ad (wA 74 ad s.heap.size) s.heap wL5 H locs → lv_has ls 10 [(7, .int L2), (6, .int L3), (5, .int L4), (0, .ref (ad 62)), (1, .int a0), (2, .int a1), (3, .int a2), (4, .int a3)] → W p l e { frames := 4, cells := 0, slots := 0, locals := 96 } s m [.ref (ad 62), .int a0, .int a1, .int a2, .int a3].toArray below meth c H locs 0 0 (MQ below (va_Qi (fun r w1 => OK cI cB cZ cO ad w1 ∧ KX w w1 ∧ True) (Aft G 74 ad) (wA 74 ad s.heap.size)) [.ref (ad 62), .int a0, .int a1, .int a2, .int a3].toArray s 0 0 (wA 74 ad s.heap.size)) (F0 m 16 ls []) := by
      intro d7
      induction d7 with
      | zero => intro L2 L3 L4 wL5 H locs ls hi10 hi11 ok12 kx13 hm9 h hl; exfalso; omega
      | succ d7 ih8 =>
        intro L2 L3 L4 wL5 H locs ls hi10 hi11 ok12 kx13 hm9 h hl
        refine lv_iload hx hb dX1_tellingMost_16 (lv_at hl 0 rfl) ?_
        refine lv_iload hx hb dX1_tellingMost_18 (lv_at hl 7 rfl) ?_
        refine lv_icmp_gt (tgt := 87) hx hb dX1_tellingMost_20 (by decide) (fun hc15 => ?_) (fun hc15 => ?_)
        · have hc15 : (a3).toInt < (L2).toInt := i_lt hc15 rfl rfl
          refine lv_iload hx hb dX1_tellingMost_87 (lv_at hl 2 rfl) ?_
          exact e_i X h hr hlk dX1_tellingMost_89 ⟨ok12, kx13, trivial⟩
        · have hc15 : ¬ (a3).toInt < (L2).toInt := i_nlt hc15 rfl rfl
          refine lv_iconst (v := 0) hx hb dX1_tellingMost_23 (by decide) ?_
          refine lv_istore (lv' := [(8, .int 0), (7, .int L2), (6, .int L3), (5, .int L4), (0, .ref (ad 62)), (1, .int a0), (2, .int a1), (3, .int a2), (4, .int a3)]) hx hb dX1_tellingMost_24 hl (by decide) rfl (fun ls hl => ?_)
          have hloop20 : ∀ (d21 : Nat) (L16 : Int32) (L17 : Int32) (L18 : Int32) (wL19 : Nat → va_E) (H : Heap) (locs : List Loc) (ls : Array Slot), 0 ≤ L16.toInt → L16.toInt ≤ 24 → OK cI cB cZ cO ad wL19 → KX w wL19 → 24 - L16.toInt < (d21 : Int) → St G 74 ad (wA 74 ad s.heap.size) s.heap wL19 H locs → lv_has ls 10 [(8, .int L16), (7, .int L2), (6, .int L17), (5, .int L18), (0, .ref (ad 62)), (1, .int a0), (2, .int a1), (3, .int a2), (4, .int a3)] → W p l e { frames := 4, cells := 0, slots := 0, locals := 96 } s m [.ref (ad 62), .int a0, .int a1, .int a2, .int a3].toArray below meth c H locs 0 0 (MQ below (va_Qi (fun r w1 => OK cI cB cZ cO ad w1 ∧ KX w w1 ∧ True) (Aft G 74 ad) (wA 74 ad s.heap.size)) [.ref (ad 62), .int a0, .int a1, .int a2, .int a3].toArray s 0 0 (wA 74 ad s.heap.size)) (F0 m 26 ls []) := by
            intro d21
            induction d21 with
            | zero => intro L16 L17 L18 wL19 H locs ls hi24 hi25 ok26 kx27 hm23 h hl; exfalso; omega
            | succ d21 ih22 =>
              intro L16 L17 L18 wL19 H locs ls hi24 hi25 ok26 kx27 hm23 h hl
              refine lv_iload hx hb dX1_tellingMost_26 (lv_at hl 0 rfl) ?_
              refine lv_bipush (v := 24) hx hb dX1_tellingMost_28 (by decide) ?_
              refine lv_icmp_ge (tgt := 81) hx hb dX1_tellingMost_30 (by decide) (fun hc29 => ?_) (fun hc29 => ?_)
              · have hc29 : 24 ≤ (L16).toInt := i_le hc29 rfl rfl
                obtain ⟨z30, e31, t32⟩ := x_add (x := L2) (y := 1) (a := L2.toInt) (b := 1) rfl rfl (by omega) (by omega)
                refine lv_iinc (v := z30) (lv' := [(7, .int z30), (8, .int L16), (6, .int L17), (5, .int L18), (0, .ref (ad 62)), (1, .int a0), (2, .int a1), (3, .int a2), (4, .int a3)]) hx hb dX1_tellingMost_81 hl (k := 1) rfl e31 (by decide) rfl (fun ls hl => ?_)
                refine lv_goto (tgt := 16) hx hb dX1_tellingMost_84 (by decide) ?_
                exact ih8  z30 L17 L18 wL19 _ _ _ (by omega) (by omega) ok26 kx27 (by omega) h (lv_sub hl [0, 2, 3, 4, 5, 6, 7, 8] rfl)
              · have hc29 : ¬ 24 ≤ (L16).toInt := i_nle hc29 rfl rfl
                refine lv_aload_n hx hb dX1_tellingMost_33 rfl (lv_at hl 4 rfl) ?_
                refine lv_iload_n hx hb dX1_tellingMost_34 rfl (lv_at hl 5 rfl) ?_
                refine lv_iload_n hx hb dX1_tellingMost_35 rfl (lv_at hl 6 rfl) ?_
                refine lv_iload hx hb dX1_tellingMost_36 (lv_at hl 1 rfl) ?_
                refine lv_iload hx hb dX1_tellingMost_38 (lv_at hl 0 rfl) ?_
                have f36 : wL19 62 = .inr (0, [.ref (ad 63)]) := ok26 62 (by decide)
                have f37 : wL19 62 = .inr (0, [.ref (ad 63)]) := f36
                refine n_Vi (na := 4) (As := [.int a0, .int a1, .int L2, .int L16]) (rest := []) X hD hN h rfl (c_mostAlike l G cI cB cZ cO ad wL19  ok26 a0 a1 L2 L16  ) ⟨kv_102, kv_103, kv_104, kv_82, kv_105⟩ rfl ⟨by decide, by decide, by decide⟩ ⟨Nat.le_of_ble_eq_true rfl, Nat.le_of_ble_eq_true rfl⟩ ⟨Nat.zero_le _, Nat.zero_le _⟩ (by decide) f37 rfl rfl hl.1 rfl (Nat.le_of_ble_eq_true rfl) dX1_tellingMost_40 (fun r33 w34 H locs hp35 h => ?_)
                obtain ⟨ok39, kk40, hr38⟩ := hp35
                have kx41 : KX w w34 := KX.tr kx27 kk40
                refine lv_istore (lv' := [(9, .int r33), (8, .int L16), (7, .int L2), (6, .int L17), (5, .int L18), (0, .ref (ad 62)), (1, .int a0), (2, .int a1), (3, .int a2), (4, .int a3)]) hx hb dX1_tellingMost_43 hl (by decide) rfl (fun ls hl => ?_)
                refine lv_iload hx hb dX1_tellingMost_45 (lv_at hl 0 rfl) ?_
                refine lv_iload hx hb dX1_tellingMost_47 (lv_at hl 3 rfl) ?_
                refine lv_icmp_ge (tgt := 66) hx hb dX1_tellingMost_49 (by decide) (fun hc42 => ?_) (fun hc42 => ?_)
                · have hc42 : (L17).toInt ≤ (r33).toInt := i_le hc42 rfl rfl
                  refine lv_iload hx hb dX1_tellingMost_66 (lv_at hl 3 rfl) ?_
                  refine lv_iconst (v := 1) hx hb dX1_tellingMost_68 (by decide) ?_
                  refine lv_icmp_ne (tgt := 75) hx hb dX1_tellingMost_69 (by decide) (fun hc43 => ?_) (fun hc43 => ?_)
                  · have hc43 : ¬ (L17).toInt = 1 := i_ne hc43 rfl rfl
                    obtain ⟨z44, e45, t46⟩ := x_add (x := L16) (y := 1) (a := L16.toInt) (b := 1) rfl rfl (by omega) (by omega)
                    refine lv_iinc (v := z44) (lv' := [(8, .int z44), (9, .int r33), (7, .int L2), (6, .int L17), (5, .int L18), (0, .ref (ad 62)), (1, .int a0), (2, .int a1), (3, .int a2), (4, .int a3)]) hx hb dX1_tellingMost_75 hl (k := 1) rfl e45 (by decide) rfl (fun ls hl => ?_)
                    refine lv_goto (tgt := 26) hx hb dX1_tellingMost_78 (by decide) ?_
                    exact ih22  z44 L17 L18 w34 _ _ _ (by omega) (by omega) ok39 kx41 (by omega) h (lv_sub hl [0, 2, 3, 4, 5, 6, 7, 8, 9] rfl)
                  · have hc43 : (L17).toInt = 1 := i_eq hc43 rfl rfl
                    refine lv_iload hx hb dX1_tellingMost_72 (lv_at hl 4 rfl) ?_
                    exact e_i X h hr hlk dX1_tellingMost_74 ⟨ok39, kx41, trivial⟩
                · have hc42 : ¬ (L17).toInt ≤ (r33).toInt := i_nle hc42 rfl rfl
                  refine lv_iload hx hb dX1_tellingMost_52 (lv_at hl 0 rfl) ?_
                  refine lv_istore (lv' := [(6, .int r33), (9, .int r33), (8, .int L16), (7, .int L2), (5, .int L18), (0, .ref (ad 62)), (1, .int a0), (2, .int a1), (3, .int a2), (4, .int a3)]) hx hb dX1_tellingMost_54 hl (by decide) rfl (fun ls hl => ?_)
                  refine lv_bipush (v := 100) hx hb dX1_tellingMost_56 (by decide) ?_
                  refine lv_iload hx hb dX1_tellingMost_58 (lv_at hl 3 rfl) ?_
                  obtain ⟨z49, e47, t48⟩ := x_mul (x := (100 : Int32)) (y := L2) (a := 100) (b := (L2).toInt) rfl rfl (by omega) (by omega)
                  refine o_imul (z := z49) hx hb dX1_tellingMost_60 e47 ?_
                  refine lv_iload hx hb dX1_tellingMost_61 (lv_at hl 2 rfl) ?_
                  obtain ⟨z52, e50, t51⟩ := x_add (x := z49) (y := L16) (a := (z49).toInt) (b := (L16).toInt) rfl rfl (by omega) (by omega)
                  refine o_iadd (z := z52) hx hb dX1_tellingMost_63 e50 ?_
                  refine lv_istore (lv' := [(5, .int z52), (6, .int r33), (9, .int r33), (8, .int L16), (7, .int L2), (0, .ref (ad 62)), (1, .int a0), (2, .int a1), (3, .int a2), (4, .int a3)]) hx hb dX1_tellingMost_64 hl (by decide) rfl (fun ls hl => ?_)
                  refine lv_iload hx hb dX1_tellingMost_66 (lv_at hl 1 rfl) ?_
                  refine lv_iconst (v := 1) hx hb dX1_tellingMost_68 (by decide) ?_
                  refine lv_icmp_ne (tgt := 75) hx hb dX1_tellingMost_69 (by decide) (fun hc53 => ?_) (fun hc53 => ?_)
                  · have hc53 : ¬ (r33).toInt = 1 := i_ne hc53 rfl rfl
                    obtain ⟨z54, e55, t56⟩ := x_add (x := L16) (y := 1) (a := L16.toInt) (b := 1) rfl rfl (by omega) (by omega)
                    refine lv_iinc (v := z54) (lv' := [(8, .int z54), (5, .int z52), (6, .int r33), (9, .int r33), (7, .int L2), (0, .ref (ad 62)), (1, .int a0), (2, .int a1), (3, .int a2), (4, .int a3)]) hx hb dX1_tellingMost_75 hl (k := 3) rfl e55 (by decide) rfl (fun ls hl => ?_)
                    refine lv_goto (tgt := 26) hx hb dX1_tellingMost_78 (by decide) ?_
                    exact ih22  z54 r33 z52 w34 _ _ _ (by omega) (by omega) ok39 kx41 (by omega) h (lv_sub hl [0, 4, 2, 1, 5, 6, 7, 8, 9] rfl)
                  · have hc53 : (r33).toInt = 1 := i_eq hc53 rfl rfl
                    refine lv_iload hx hb dX1_tellingMost_72 (lv_at hl 0 rfl) ?_
                    exact e_i X h hr hlk dX1_tellingMost_74 ⟨ok39, kx41, trivial⟩
          exact hloop20 25 (0 : Int32) L3 L4 wL5 _ _ _ (by have q0 : (0 : Int32).toInt = 0 := rfl; omega) (by have q0 : (0 : Int32).toInt = 0 := rfl; omega) ok12 kx13 (by have q0 : (0 : Int32).toInt = 0 := rfl; omega) h (lv_sub hl [0, 1, 2, 3, 4, 5, 6, 7, 8] rfl)
    exact hloop6 62 a2 (7 : Int32) ((-1) : Int32) w _ _ _ (by have q0 : (7 : Int32).toInt = 7 := rfl; have q1 : ((-1) : Int32).toInt = (-1) := rfl; omega) (by have q0 : (7 : Int32).toInt = 7 := rfl; have q1 : ((-1) : Int32).toInt = (-1) := rfl; omega) ok KX.rf (by have q0 : (7 : Int32).toInt = 7 := rfl; have q1 : ((-1) : Int32).toInt = (-1) := rfl; omega) h (lv_sub hl [0, 1, 2, 3, 4, 5, 6, 7] rfl)
  · have hc1 : (a1).toInt = 0 := i_eq hc1 rfl rfl
    refine lv_iconst (v := (-1)) hx hb dX1_tellingMost_4 (by decide) ?_
    exact e_i X h hr hlk dX1_tellingMost_5 ⟨ok, KX.rf, trivial⟩

set_option maxHeartbeats 4000000 in
set_option maxRecDepth 100000 in
theorem c_fitting (l : Launch) (G : va_G) (cI cB cZ cO : ClassId) (ad : Nat → Nat) (w : Nat → va_E) (rw : Nat) (hrw : isRw rw) (ok : OK cI cB cZ cO ad w) (a0 : Int32) (a2 : Int32)   : NI l G (tyq cI cB cZ cO) yX1_fitting cX1_fitting 6 (some .int) 4 92 74 ad w [.ref (ad 62), .int a0, .ref (ad rw), .int a2] (fun r w1 => w = w1 ∧ True) := by
  refine nk_i (own := "NoonShade$Guess") rfl (by decide) (Nat.le_of_ble_eq_true rfl) ?_
  intro p e s m below meth c ls X hD hN hr hlk h hl
  have hx := X.1.1
  have hb := X.1.2.1
  have hown := X.1.2.2.2.1
  have hts := X.1.2.2.2.2
  have hl : lv_has ls 6 [(0, .ref (ad 62)), (1, .int a0), (2, .ref (ad rw)), (3, .int a2)] := hl
  refine lv_iconst (v := 0) hx hb dX1_fitting_0 (by decide) ?_
  refine lv_istore (lv' := [(4, .int 0), (0, .ref (ad 62)), (1, .int a0), (2, .ref (ad rw)), (3, .int a2)]) hx hb dX1_fitting_1 hl (by decide) rfl (fun ls hl => ?_)
  refine lv_iconst (v := 0) hx hb dX1_fitting_3 (by decide) ?_
  refine lv_istore (lv' := [(5, .int 0), (4, .int 0), (0, .ref (ad 62)), (1, .int a0), (2, .ref (ad rw)), (3, .int a2)]) hx hb dX1_fitting_4 hl (by decide) rfl (fun ls hl => ?_)
  have hloop3 : ∀ (d4 : Nat) (L1 : Int32) (L2 : Int32) (H : Heap) (locs : List Loc) (ls : Array Slot), 0 ≤ L1.toInt → L1.toInt ≤ 6 → 6 - L1.toInt < (d4 : Int) → St G 74 ad (wA 74 ad s.heap.size) s.heap w H locs → lv_has ls 6 [(5, .int L1), (4, .int L2), (0, .ref (ad 62)), (1, .int a0), (2, .ref (ad rw)), (3, .int a2)] → W p l e { frames := 4, cells := 0, slots := 0, locals := 92 } s m [.ref (ad 62), .int a0, .ref (ad rw), .int a2].toArray below meth c H locs 0 0 (MQ below (va_Qi (fun r w1 => w = w1 ∧ True) (Aft G 74 ad) (wA 74 ad s.heap.size)) [.ref (ad 62), .int a0, .ref (ad rw), .int a2].toArray s 0 0 (wA 74 ad s.heap.size)) (F0 m 6 ls []) := by
    intro d4
    induction d4 with
    | zero => intro L1 L2 H locs ls hi7 hi8 hm6 h hl; exfalso; omega
    | succ d4 ih5 =>
      intro L1 L2 H locs ls hi7 hi8 hm6 h hl
      refine lv_iload hx hb dX1_fitting_6 (lv_at hl 0 rfl) ?_
      refine lv_bipush (v := 6) hx hb dX1_fitting_8 (by decide) ?_
      refine lv_icmp_ge (tgt := 39) hx hb dX1_fitting_10 (by decide) (fun hc12 => ?_) (fun hc12 => ?_)
      · have hc12 : 6 ≤ (L1).toInt := i_le hc12 rfl rfl
        refine lv_iload hx hb dX1_fitting_39 (lv_at hl 1 rfl) ?_
        exact e_i X h hr hlk dX1_fitting_41 ⟨rfl, trivial⟩
      · have hc12 : ¬ 6 ≤ (L1).toInt := i_nle hc12 rfl rfl
        refine lv_aload_n hx hb dX1_fitting_13 rfl (lv_at hl 4 rfl) ?_
        refine lv_iload_n hx hb dX1_fitting_14 rfl (lv_at hl 3 rfl) ?_
        refine lv_iload_n hx hb dX1_fitting_15 rfl (lv_at hl 5 rfl) ?_
        refine lv_iload hx hb dX1_fitting_16 (lv_at hl 0 rfl) ?_
        obtain ⟨z17, f16, h18, h19⟩ := (show sR ad 4 (rw + 1) 6 (w rw) from ok.r0 hrw)
        have f20 : w rw = .inr (4, [.ref (ad (rw + 1)), .int z17]) := f16
        refine n_Vi (na := 3) (As := [.int a0, .int a2, .int L1]) (rest := []) X hD hN h rfl (c_R_agree l G cI cB cZ cO ad w rw hrw ok a0 a2 L1  ) ⟨kv_106, kv_107, kv_108, kv_64, kv_109⟩ rfl ⟨by decide, by decide, by decide⟩ ⟨Nat.le_of_ble_eq_true rfl, Nat.le_of_ble_eq_true rfl⟩ ⟨Nat.zero_le _, Nat.zero_le _⟩ (by have := isRw.lt hrw; omega) f20 rfl rfl hl.1 rfl (Nat.le_of_ble_eq_true rfl) dX1_fitting_18 (fun r13 w14 H locs hp15 h => ?_)
        obtain ⟨rfl, hr21⟩ := hp15
        rcases hr21 with rfl | rfl
        · refine lv_if_eq (tgt := 33) hx hb dX1_fitting_21 (by decide) (fun hc => absurd hc (by decide)) (fun _ => ?_)
          refine lv_iload hx hb dX1_fitting_24 (lv_at hl 1 rfl) ?_
          refine lv_iconst (v := 1) hx hb dX1_fitting_26 (by decide) ?_
          refine lv_iload hx hb dX1_fitting_27 (lv_at hl 0 rfl) ?_
          obtain ⟨z24, e22, t23, t23b⟩ := x_shl7 (i := L1) (by omega) (by omega)
          refine o_ishl (z := z24) hx hb dX1_fitting_29 e22 ?_
          obtain ⟨z27, e25⟩ : ∃ z : Int32, L2 ||| z24 = z := ⟨_, rfl⟩
          refine o_ior (z := z27) hx hb dX1_fitting_30 e25 ?_
          refine lv_istore (lv' := [(4, .int z27), (5, .int L1), (0, .ref (ad 62)), (1, .int a0), (2, .ref (ad rw)), (3, .int a2)]) hx hb dX1_fitting_31 hl (by decide) rfl (fun ls hl => ?_)
          obtain ⟨z28, e29, t30⟩ := x_add (x := L1) (y := 1) (a := L1.toInt) (b := 1) rfl rfl (by omega) (by omega)
          refine lv_iinc (v := z28) (lv' := [(5, .int z28), (4, .int z27), (0, .ref (ad 62)), (1, .int a0), (2, .ref (ad rw)), (3, .int a2)]) hx hb dX1_fitting_33 hl (k := 1) rfl e29 (by decide) rfl (fun ls hl => ?_)
          refine lv_goto (tgt := 6) hx hb dX1_fitting_36 (by decide) ?_
          exact ih5  z28 z27  _ _ _ (by omega) (by omega)  (by omega) h (lv_sub hl [0, 1, 2, 3, 4, 5] rfl)
        · refine lv_if_eq (tgt := 33) hx hb dX1_fitting_21 (by decide) (fun _ => ?_) (fun hc => absurd (by decide) hc)
          obtain ⟨z31, e32, t33⟩ := x_add (x := L1) (y := 1) (a := L1.toInt) (b := 1) rfl rfl (by omega) (by omega)
          refine lv_iinc (v := z31) (lv' := [(5, .int z31), (4, .int L2), (0, .ref (ad 62)), (1, .int a0), (2, .ref (ad rw)), (3, .int a2)]) hx hb dX1_fitting_33 hl (k := 0) rfl e32 (by decide) rfl (fun ls hl => ?_)
          refine lv_goto (tgt := 6) hx hb dX1_fitting_36 (by decide) ?_
          exact ih5  z31 L2  _ _ _ (by omega) (by omega)  (by omega) h (lv_sub hl [0, 1, 2, 3, 4, 5] rfl)
  exact hloop3 7 (0 : Int32) (0 : Int32)  _ _ _ (by have q0 : (0 : Int32).toInt = 0 := rfl; omega) (by have q0 : (0 : Int32).toInt = 0 := rfl; omega)  (by have q0 : (0 : Int32).toInt = 0 := rfl; omega) h (lv_sub hl [0, 1, 2, 3, 4, 5] rfl)
