set_option maxHeartbeats 4000000 in
set_option maxRecDepth 100000 in
theorem c_M_in (l : Launch) (G : va_G) (cI cB cZ cO : ClassId) (ad : Nat → Nat) (w : Nat → va_E)   (x : Int64) (y : Int64) (t : Int64)  (u a b : Int) (hu : x.toInt = u) (ha : y.toInt = a) (hb2 : t.toInt = b) : NI l G (tyq cI cB cZ cO) yX9_in cX9_in 6 (some .boolean) 0 0 74 ad w [.long x, .long y, .long t] (fun r w1 => w = w1 ∧ ((a ≤ u ∧ u ≤ b ∧ r = 1) ∨ (¬ (a ≤ u ∧ u ≤ b) ∧ r = 0))) := by
  refine nk_i (own := "NoonShadeModel") rfl (by decide) (Nat.le_of_ble_eq_true rfl) ?_
  intro p e s m below meth c ls X hD hN hr hlk h hl
  have hx := X.1.1
  have hb := X.1.2.1
  have hown := X.1.2.2.2.1
  have hts := X.1.2.2.2.2
  have hl : lv_has ls 6 [(0, .long x), (2, .long y), (4, .long t)] := hl
  refine lv_lload_n hx hb dX9_in_0 rfl (lv_at hl 0 rfl) ?_
  refine lv_lload_n hx hb dX9_in_1 rfl (lv_at hl 1 rfl) ?_
  refine W.lcmp hx hb dX9_in_2 ?_
  refine lv_if_lt (tgt := 17) hx hb dX9_in_3 (by decide) (fun hc1 => ?_) (fun hc1 => ?_)
  · have hc1 : u < a := lcm_lt hc1 hu ha
    refine lv_iconst (v := 0) hx hb dX9_in_17 (by decide) ?_
    exact e_n X h hr hlk rfl dX9_in_18 ⟨rfl, Or.inr ⟨by omega, rfl⟩⟩
  · have hc1 : ¬ u < a := lcm_nlt hc1 hu ha
    refine lv_lload_n hx hb dX9_in_6 rfl (lv_at hl 0 rfl) ?_
    refine lv_lload hx hb dX9_in_7 (lv_at hl 2 rfl) ?_
    refine W.lcmp hx hb dX9_in_9 ?_
    refine lv_if_gt (tgt := 17) hx hb dX9_in_10 (by decide) (fun hc2 => ?_) (fun hc2 => ?_)
    · have hc2 : b < u := lcm_gt hc2 hu hb2
      refine lv_iconst (v := 0) hx hb dX9_in_17 (by decide) ?_
      exact e_n X h hr hlk rfl dX9_in_18 ⟨rfl, Or.inr ⟨by omega, rfl⟩⟩
    · have hc2 : ¬ b < u := lcm_ngt hc2 hu hb2
      refine lv_iconst (v := 1) hx hb dX9_in_13 (by decide) ?_
      refine lv_goto (tgt := 18) hx hb dX9_in_14 (by decide) ?_
      exact e_n X h hr hlk rfl dX9_in_18 ⟨rfl, Or.inl ⟨by omega, by omega, rfl⟩⟩

set_option maxHeartbeats 4000000 in
set_option maxRecDepth 100000 in
theorem c_M_bad (l : Launch) (G : va_G) (cI cB cZ cO : ClassId) (ad : Nat → Nat) (w : Nat → va_E)  (ok : OK cI cB cZ cO ad w) (q : Int32)   : NI l G (tyq cI cB cZ cO) yX9_bad cX9_bad 2 (some .int) 0 0 74 ad w [.ref (ad 64), .int q] (fun r w1 => OK cI cB cZ cO ad w1 ∧ KM w w1 ∧ q = r) := by
  refine nk_i (own := "NoonShadeModel") rfl (by decide) (Nat.le_of_ble_eq_true rfl) ?_
  intro p e s m below meth c ls X hD hN hr hlk h hl
  have hx := X.1.1
  have hb := X.1.2.1
  have hown := X.1.2.2.2.1
  have hts := X.1.2.2.2.2
  have hl : lv_has ls 2 [(0, .ref (ad 64)), (1, .int q)] := hl
  refine lv_aload_n hx hb dX9_bad_0 rfl (lv_at hl 0 rfl) ?_
  obtain ⟨x2, x3, t4, t5, t6, t7, t8, t9, f1, h10, h11⟩ := (show sM ad (w 64) from ok 64 (by decide))
  have f12 : w 64 = .inr (7, [.ref (ad 65), .ref (ad 66), .ref (ad 67), .ref (ad 68), .long x2, .long x3, .ref (ad 69), .int t4, .ref (ad 70), .ref (ad 71), .int t5, .int t6, .int t7, .int t8, .int t9, .ref (ad 72), .ref (ad 73)]) := f1
  refine r_get kc9 X h 64 3 (by decide) rfl f12 (by decide) kv_466 rfl dX9_bad_1 ?_
  refine lv_iconst (v := 0) hx hb dX9_bad_4 (by decide) ?_
  refine lv_dup2_11 hx hb dX9_bad_5 rfl rfl ?_
  obtain ⟨g14, f13, p15⟩ := (show sA cI 3 (anyA) (w 68) from ok 68 (by decide))
  have f16 : w 68 = .inl (cI, 3, .inl g14) := f13
  obtain ⟨v17, e18⟩ : ∃ z : Int32, g14 0 = z := ⟨_, rfl⟩
  refine o_iald (v := v17) X h 68 0 (by decide) rfl f16 rfl (by unfold vp_in; decide) e18 dX9_bad_6 ?_
  refine lv_iconst (v := 1) hx hb dX9_bad_7 (by decide) ?_
  obtain ⟨z22, e20⟩ : ∃ z : Int32, v17 + (1 : Int32) = z := ⟨_, rfl⟩
  refine o_iadd (z := z22) hx hb dX9_bad_8 e20 ?_
  obtain ⟨g23, e24⟩ : ∃ z : Nat → Int32, upd g14 0 z22 = z := ⟨_, rfl⟩
  have p25 : anyA g23 := trivial
  refine o_iast (f1 := g23) X hD h 68 0 (by decide) rfl f16 rfl (by unfold vp_in; decide) e24 dX9_bad_9 (fun H locs w26 e27 h => ?_)
  have f28 : w26 68 = .inl (cI, 3, .inl g23) := (congrFun e27 _).trans (va_up_self _ _ _)
  have ok29 : OK cI cB cZ cO ad w26 := OK.up ok e27 (sA_mk p25)
  have kx30 : KM w w26 := KM.up KM.rf e27 f16 rfl
  refine lv_iload_n hx hb dX9_bad_10 rfl (lv_at hl 1 rfl) ?_
  exact e_i X h hr hlk dX9_bad_11 ⟨ok29, kx30, rfl⟩

set_option maxHeartbeats 4000000 in
set_option maxRecDepth 100000 in
theorem c_M_no (l : Launch) (G : va_G) (cI cB cZ cO : ClassId) (ad : Nat → Nat) (w : Nat → va_E)  (ok : OK cI cB cZ cO ad w)    : NI l G (tyq cI cB cZ cO) yX9_no cX9_no 1 (some .int) 0 0 74 ad w [.ref (ad 64)] (fun r w1 => OK cI cB cZ cO ad w1 ∧ KM w w1 ∧ -3 = r) := by
  refine nk_i (own := "NoonShadeModel") rfl (by decide) (Nat.le_of_ble_eq_true rfl) ?_
  intro p e s m below meth c ls X hD hN hr hlk h hl
  have hx := X.1.1
  have hb := X.1.2.1
  have hown := X.1.2.2.2.1
  have hts := X.1.2.2.2.2
  have hl : lv_has ls 1 [(0, .ref (ad 64))] := hl
  refine lv_aload_n hx hb dX9_no_0 rfl (lv_at hl 0 rfl) ?_
  obtain ⟨x2, x3, t4, t5, t6, t7, t8, t9, f1, h10, h11⟩ := (show sM ad (w 64) from ok 64 (by decide))
  have f12 : w 64 = .inr (7, [.ref (ad 65), .ref (ad 66), .ref (ad 67), .ref (ad 68), .long x2, .long x3, .ref (ad 69), .int t4, .ref (ad 70), .ref (ad 71), .int t5, .int t6, .int t7, .int t8, .int t9, .ref (ad 72), .ref (ad 73)]) := f1
  refine r_get kc9 X h 64 3 (by decide) rfl f12 (by decide) kv_466 rfl dX9_no_1 ?_
  refine lv_iconst (v := 1) hx hb dX9_no_4 (by decide) ?_
  refine lv_dup2_11 hx hb dX9_no_5 rfl rfl ?_
  obtain ⟨g14, f13, p15⟩ := (show sA cI 3 (anyA) (w 68) from ok 68 (by decide))
  have f16 : w 68 = .inl (cI, 3, .inl g14) := f13
  obtain ⟨v17, e18⟩ : ∃ z : Int32, g14 1 = z := ⟨_, rfl⟩
  refine o_iald (v := v17) X h 68 0 (by decide) rfl f16 rfl (by unfold vp_in; decide) e18 dX9_no_6 ?_
  refine lv_iconst (v := 1) hx hb dX9_no_7 (by decide) ?_
  obtain ⟨z22, e20⟩ : ∃ z : Int32, v17 + (1 : Int32) = z := ⟨_, rfl⟩
  refine o_iadd (z := z22) hx hb dX9_no_8 e20 ?_
  obtain ⟨g23, e24⟩ : ∃ z : Nat → Int32, upd g14 1 z22 = z := ⟨_, rfl⟩
  have p25 : anyA g23 := trivial
  refine o_iast (f1 := g23) X hD h 68 0 (by decide) rfl f16 rfl (by unfold vp_in; decide) e24 dX9_no_9 (fun H locs w26 e27 h => ?_)
  have f28 : w26 68 = .inl (cI, 3, .inl g23) := (congrFun e27 _).trans (va_up_self _ _ _)
  have ok29 : OK cI cB cZ cO ad w26 := OK.up ok e27 (sA_mk p25)
  have kx30 : KM w w26 := KM.up KM.rf e27 f16 rfl
  refine lv_bipush (v := (-3)) hx hb dX9_no_10 (by decide) ?_
  exact e_i X h hr hlk dX9_no_12 ⟨ok29, kx30, rfl⟩

set_option maxHeartbeats 4000000 in
set_option maxRecDepth 100000 in
theorem c_M_full (l : Launch) (G : va_G) (cI cB cZ cO : ClassId) (ad : Nat → Nat) (w : Nat → va_E)  (ok : OK cI cB cZ cO ad w)    : NI l G (tyq cI cB cZ cO) yX9_full cX9_full 1 (some .int) 0 0 74 ad w [.ref (ad 64)] (fun r w1 => OK cI cB cZ cO ad w1 ∧ KM w w1 ∧ -4 = r) := by
  refine nk_i (own := "NoonShadeModel") rfl (by decide) (Nat.le_of_ble_eq_true rfl) ?_
  intro p e s m below meth c ls X hD hN hr hlk h hl
  have hx := X.1.1
  have hb := X.1.2.1
  have hown := X.1.2.2.2.1
  have hts := X.1.2.2.2.2
  have hl : lv_has ls 1 [(0, .ref (ad 64))] := hl
  refine lv_aload_n hx hb dX9_full_0 rfl (lv_at hl 0 rfl) ?_
  obtain ⟨x2, x3, t4, t5, t6, t7, t8, t9, f1, h10, h11⟩ := (show sM ad (w 64) from ok 64 (by decide))
  have f12 : w 64 = .inr (7, [.ref (ad 65), .ref (ad 66), .ref (ad 67), .ref (ad 68), .long x2, .long x3, .ref (ad 69), .int t4, .ref (ad 70), .ref (ad 71), .int t5, .int t6, .int t7, .int t8, .int t9, .ref (ad 72), .ref (ad 73)]) := f1
  refine r_get kc9 X h 64 3 (by decide) rfl f12 (by decide) kv_466 rfl dX9_full_1 ?_
  refine lv_iconst (v := 2) hx hb dX9_full_4 (by decide) ?_
  refine lv_dup2_11 hx hb dX9_full_5 rfl rfl ?_
  obtain ⟨g14, f13, p15⟩ := (show sA cI 3 (anyA) (w 68) from ok 68 (by decide))
  have f16 : w 68 = .inl (cI, 3, .inl g14) := f13
  obtain ⟨v17, e18⟩ : ∃ z : Int32, g14 2 = z := ⟨_, rfl⟩
  refine o_iald (v := v17) X h 68 0 (by decide) rfl f16 rfl (by unfold vp_in; decide) e18 dX9_full_6 ?_
  refine lv_iconst (v := 1) hx hb dX9_full_7 (by decide) ?_
  obtain ⟨z22, e20⟩ : ∃ z : Int32, v17 + (1 : Int32) = z := ⟨_, rfl⟩
  refine o_iadd (z := z22) hx hb dX9_full_8 e20 ?_
  obtain ⟨g23, e24⟩ : ∃ z : Nat → Int32, upd g14 2 z22 = z := ⟨_, rfl⟩
  have p25 : anyA g23 := trivial
  refine o_iast (f1 := g23) X hD h 68 0 (by decide) rfl f16 rfl (by unfold vp_in; decide) e24 dX9_full_9 (fun H locs w26 e27 h => ?_)
  have f28 : w26 68 = .inl (cI, 3, .inl g23) := (congrFun e27 _).trans (va_up_self _ _ _)
  have ok29 : OK cI cB cZ cO ad w26 := OK.up ok e27 (sA_mk p25)
  have kx30 : KM w w26 := KM.up KM.rf e27 f16 rfl
  refine lv_bipush (v := (-4)) hx hb dX9_full_10 (by decide) ?_
  exact e_i X h hr hlk dX9_full_12 ⟨ok29, kx30, rfl⟩

set_option maxHeartbeats 4000000 in
set_option maxRecDepth 100000 in
theorem c_M_has (l : Launch) (G : va_G) (cI cB cZ cO : ClassId) (ad : Nat → Nat) (w : Nat → va_E)   (x : Int32) (k : Int32)   : NI l G (tyq cI cB cZ cO) yX9_has cX9_has 2 (some .boolean) 0 0 74 ad w [.int x, .int k] (fun r w1 => w = w1 ∧ (r = 1 ∨ r = 0)) := by
  refine nk_i (own := "NoonShadeModel") rfl (by decide) (Nat.le_of_ble_eq_true rfl) ?_
  intro p e s m below meth c ls X hD hN hr hlk h hl
  have hx := X.1.1
  have hb := X.1.2.1
  have hown := X.1.2.2.2.1
  have hts := X.1.2.2.2.2
  have hl : lv_has ls 2 [(0, .int x), (1, .int k)] := hl
  refine lv_iload_n hx hb dX9_has_0 rfl (lv_at hl 0 rfl) ?_
  refine lv_iload_n hx hb dX9_has_1 rfl (lv_at hl 1 rfl) ?_
  obtain ⟨z3, e1⟩ : ∃ z : Int32, x >>> (k &&& 31) = z := ⟨_, rfl⟩
  refine o_ishr (z := z3) hx hb dX9_has_2 e1 ?_
  refine lv_iconst (v := 1) hx hb dX9_has_3 (by decide) ?_
  obtain ⟨z6, e4⟩ : ∃ z : Int32, z3 &&& (1 : Int32) = z := ⟨_, rfl⟩
  refine o_iand (z := z6) hx hb dX9_has_4 e4 ?_
  refine lv_iconst (v := 1) hx hb dX9_has_5 (by decide) ?_
  refine lv_icmp_ne (tgt := 13) hx hb dX9_has_6 (by decide) (fun hc7 => ?_) (fun hc7 => ?_)
  · have hc7 : ¬ (z6).toInt = 1 := i_ne hc7 rfl rfl
    refine lv_iconst (v := 0) hx hb dX9_has_13 (by decide) ?_
    exact e_n X h hr hlk rfl dX9_has_14 ⟨rfl, Or.inr rfl⟩
  · have hc7 : (z6).toInt = 1 := i_eq hc7 rfl rfl
    refine lv_iconst (v := 1) hx hb dX9_has_9 (by decide) ?_
    refine lv_goto (tgt := 14) hx hb dX9_has_10 (by decide) ?_
    exact e_n X h hr hlk rfl dX9_has_14 ⟨rfl, Or.inl rfl⟩

set_option maxHeartbeats 4000000 in
set_option maxRecDepth 100000 in
theorem c_M_bits (l : Launch) (G : va_G) (cI cB cZ cO : ClassId) (ad : Nat → Nat) (w : Nat → va_E)   (x : Int32)   : NI l G (tyq cI cB cZ cO) yX9_bits cX9_bits 3 (some .int) 0 0 74 ad w [.int x] (fun r w1 => w = w1 ∧ True) := by
  refine nk_i (own := "NoonShadeModel") rfl (by decide) (Nat.le_of_ble_eq_true rfl) ?_
  intro p e s m below meth c ls X hD hN hr hlk h hl
  have hx := X.1.1
  have hb := X.1.2.1
  have hown := X.1.2.2.2.1
  have hts := X.1.2.2.2.2
  have hl : lv_has ls 3 [(0, .int x)] := hl
  have lo_x := ilo x
  have hi_x := ihi x
  refine lv_iconst (v := 0) hx hb dX9_bits_0 (by decide) ?_
  refine lv_istore_n (lv' := [(1, .int 0), (0, .int x)]) hx hb dX9_bits_1 rfl hl (by decide) rfl (fun ls hl => ?_)
  refine lv_iload_n hx hb dX9_bits_2 rfl (lv_at hl 1 rfl) ?_
  refine lv_istore_n (lv' := [(2, .int x), (1, .int 0), (0, .int x)]) hx hb dX9_bits_3 rfl hl (by decide) rfl (fun ls hl => ?_)
  have hloop3 : ∀ (d4 : Nat) (L1 : Int32) (L2 : Int32) (H : Heap) (locs : List Loc) (ls : Array Slot), (-2147483648) ≤ L1.toInt → L1.toInt ≤ 2147483647 → L1.toInt + 2147483648 < (d4 : Int) → St G 74 ad (wA 74 ad s.heap.size) s.heap w H locs → lv_has ls 3 [(2, .int L1), (1, .int L2), (0, .int x)] → W p l e { frames := 0, cells := 0, slots := 0, locals := 0 } s m [.int x].toArray below meth c H locs 0 0 (MQ below (va_Qi (fun r w1 => w = w1 ∧ True) (Aft G 74 ad) (wA 74 ad s.heap.size)) [.int x].toArray s 0 0 (wA 74 ad s.heap.size)) (F0 m 4 ls []) := by
    intro d4
    induction d4 with
    | zero => intro L1 L2 H locs ls hi7 hi8 hm6 h hl; exfalso; omega
    | succ d4 ih5 =>
      intro L1 L2 H locs ls hi7 hi8 hm6 h hl
      refine lv_iload_n hx hb dX9_bits_4 rfl (lv_at hl 0 rfl) ?_
      refine lv_if_le (tgt := 21) hx hb dX9_bits_5 (by decide) (fun hc12 => ?_) (fun hc12 => ?_)
      · have hc12 : (L1).toInt ≤ 0 := i_le hc12 rfl rfl
        refine lv_iload_n hx hb dX9_bits_21 rfl (lv_at hl 1 rfl) ?_
        exact e_i X h hr hlk dX9_bits_22 ⟨rfl, trivial⟩
      · have hc12 : ¬ (L1).toInt ≤ 0 := i_nle hc12 rfl rfl
        refine lv_iload_n hx hb dX9_bits_8 rfl (lv_at hl 1 rfl) ?_
        refine lv_iload_n hx hb dX9_bits_9 rfl (lv_at hl 0 rfl) ?_
        refine lv_iconst (v := 1) hx hb dX9_bits_10 (by decide) ?_
        obtain ⟨z15, e13⟩ : ∃ z : Int32, L1 &&& (1 : Int32) = z := ⟨_, rfl⟩
        refine o_iand (z := z15) hx hb dX9_bits_11 e13 ?_
        obtain ⟨z18, e16⟩ : ∃ z : Int32, L2 + z15 = z := ⟨_, rfl⟩
        refine o_iadd (z := z18) hx hb dX9_bits_12 e16 ?_
        refine lv_istore_n (lv' := [(1, .int z18), (2, .int L1), (0, .int x)]) hx hb dX9_bits_13 rfl hl (by decide) rfl (fun ls hl => ?_)
        refine lv_iload_n hx hb dX9_bits_14 rfl (lv_at hl 1 rfl) ?_
        refine lv_iconst (v := 1) hx hb dX9_bits_15 (by decide) ?_
        obtain ⟨z21, e19, t20⟩ := x_shr1 (x := L1) (by omega)
        refine o_ishr (z := z21) hx hb dX9_bits_16 e19 ?_
        refine lv_istore_n (lv' := [(2, .int z21), (1, .int z18), (0, .int x)]) hx hb dX9_bits_17 rfl hl (by decide) rfl (fun ls hl => ?_)
        refine lv_goto (tgt := 4) hx hb dX9_bits_18 (by decide) ?_
        exact ih5  z21 z18  _ _ _ (by omega) (by omega)  (by omega) h (lv_sub hl [0, 1, 2] rfl)
  exact hloop3 4294967296 x (0 : Int32)  _ _ _ (by have q0 : (0 : Int32).toInt = 0 := rfl; omega) (by have q0 : (0 : Int32).toInt = 0 := rfl; omega)  (by have q0 : (0 : Int32).toInt = 0 := rfl; omega) h (lv_sub hl [0, 1, 2] rfl)

set_option maxHeartbeats 4000000 in
set_option maxRecDepth 100000 in
theorem c_M_isCaster (l : Launch) (G : va_G) (cI cB cZ cO : ClassId) (ad : Nat → Nat) (w : Nat → va_E)  (ok : OK cI cB cZ cO ad w) (i : Int32)   : NI l G (tyq cI cB cZ cO) yX9_isCaster cX9_isCaster 2 (some .boolean) 1 25 74 ad w [.ref (ad 64), .int i] (fun r w1 => w = w1 ∧ ((0 ≤ i.toInt ∧ i.toInt ≤ 6 ∧ r = 1) ∨ r = 0)) := by
  refine nk_i (own := "NoonShadeModel") rfl (by decide) (Nat.le_of_ble_eq_true rfl) ?_
  intro p e s m below meth c ls X hD hN hr hlk h hl
  have hx := X.1.1
  have hb := X.1.2.1
  have hown := X.1.2.2.2.1
  have hts := X.1.2.2.2.2
  have hl : lv_has ls 2 [(0, .ref (ad 64)), (1, .int i)] := hl
  refine lv_iload_n hx hb dX9_isCaster_0 rfl (lv_at hl 1 rfl) ?_
  obtain ⟨z1, e2⟩ : ∃ z : Int64, i.toInt64 = z := ⟨_, rfl⟩
  have tz1 : z1.toInt = (i).toInt := by rw [← e2]; exact Int32.toInt_toInt64 _
  refine lv_i2l (v := z1) hx hb dX9_isCaster_1 e2 ?_
  refine lv_lconst (v := 0) hx hb dX9_isCaster_2 (by decide) ?_
  refine lv_aload_n hx hb dX9_isCaster_3 rfl (lv_at hl 0 rfl) ?_
  obtain ⟨x4, x5, t6, t7, t8, t9, t10, t11, f3, h12, h13⟩ := (show sM ad (w 64) from ok 64 (by decide))
  have f14 : w 64 = .inr (7, [.ref (ad 65), .ref (ad 66), .ref (ad 67), .ref (ad 68), .long x4, .long x5, .ref (ad 69), .int t6, .ref (ad 70), .ref (ad 71), .int t7, .int t8, .int t9, .int t10, .int t11, .ref (ad 72), .ref (ad 73)]) := f3
  refine r_get kc9 X h 64 0 (by decide) rfl f14 (by decide) kv_467 rfl dX9_isCaster_4 ?_
  refine lv_iconst (v := 0) hx hb dX9_isCaster_7 (by decide) ?_
  obtain ⟨g16, f15, p17⟩ := (show sA cI 177 (alA) (w 65) from ok 65 (by decide))
  have f18 : w 65 = .inl (cI, 177, .inl g16) := f15
  obtain ⟨v19, e20⟩ : ∃ z : Int32, g16 0 = z := ⟨_, rfl⟩
  have h21 := (alA_rd p17 e20).1 rfl
  refine o_iald (v := v19) X h 65 0 (by decide) rfl f18 rfl (by unfold vp_in; decide) e20 dX9_isCaster_8 ?_
  refine lv_iconst (v := 1) hx hb dX9_isCaster_9 (by decide) ?_
  obtain ⟨z24, e22, t23⟩ := x_sub (x := v19) (y := (1 : Int32)) (a := (v19).toInt) (b := 1) rfl rfl (by omega) (by omega)
  refine o_isub (z := z24) hx hb dX9_isCaster_10 e22 ?_
  obtain ⟨z25, e26⟩ : ∃ z : Int64, z24.toInt64 = z := ⟨_, rfl⟩
  have tz25 : z25.toInt = (z24).toInt := by rw [← e26]; exact Int32.toInt_toInt64 _
  refine lv_i2l (v := z25) hx hb dX9_isCaster_11 e26 ?_
  refine n_Si (na := 3) (As := [.long z1, .long 0, .long z25]) (rest := []) X hD hN h (c_M_in l G cI cB cZ cO ad w z1 (0 : Int64) z25 ((i).toInt) 0 ((z24).toInt) tz1 rfl tz25) ⟨kv_468, kv_469, kv_470, kv_471⟩ ⟨by decide, by decide, by decide⟩ ⟨Nat.le_of_ble_eq_true rfl, Nat.le_of_ble_eq_true rfl⟩ ⟨Nat.zero_le _, Nat.zero_le _⟩ rfl hl.1 rfl (Nat.le_of_ble_eq_true rfl) dX9_isCaster_12 (fun r27 w28 H locs hp29 h => ?_)
  obtain ⟨rfl, hq30⟩ := hp29
  rcases hq30 with ⟨hq31, hq32, rfl⟩ | ⟨hq30, rfl⟩
  · exact e_n X h hr hlk rfl dX9_isCaster_15 ⟨rfl, Or.inl ⟨by omega, by omega, rfl⟩⟩
  · exact e_n X h hr hlk rfl dX9_isCaster_15 ⟨rfl, Or.inr rfl⟩

set_option maxHeartbeats 4000000 in
set_option maxRecDepth 100000 in
theorem c_M_isJar (l : Launch) (G : va_G) (cI cB cZ cO : ClassId) (ad : Nat → Nat) (w : Nat → va_E)  (ok : OK cI cB cZ cO ad w) (i : Int32)   : NI l G (tyq cI cB cZ cO) yX9_isJar cX9_isJar 2 (some .boolean) 1 25 74 ad w [.ref (ad 64), .int i] (fun r w1 => w = w1 ∧ ((0 ≤ i.toInt ∧ i.toInt ≤ 3 ∧ r = 1) ∨ r = 0)) := by
  refine nk_i (own := "NoonShadeModel") rfl (by decide) (Nat.le_of_ble_eq_true rfl) ?_
  intro p e s m below meth c ls X hD hN hr hlk h hl
  have hx := X.1.1
  have hb := X.1.2.1
  have hown := X.1.2.2.2.1
  have hts := X.1.2.2.2.2
  have hl : lv_has ls 2 [(0, .ref (ad 64)), (1, .int i)] := hl
  refine lv_iload_n hx hb dX9_isJar_0 rfl (lv_at hl 1 rfl) ?_
  obtain ⟨z1, e2⟩ : ∃ z : Int64, i.toInt64 = z := ⟨_, rfl⟩
  have tz1 : z1.toInt = (i).toInt := by rw [← e2]; exact Int32.toInt_toInt64 _
  refine lv_i2l (v := z1) hx hb dX9_isJar_1 e2 ?_
  refine lv_lconst (v := 0) hx hb dX9_isJar_2 (by decide) ?_
  refine lv_aload_n hx hb dX9_isJar_3 rfl (lv_at hl 0 rfl) ?_
  obtain ⟨x4, x5, t6, t7, t8, t9, t10, t11, f3, h12, h13⟩ := (show sM ad (w 64) from ok 64 (by decide))
  have f14 : w 64 = .inr (7, [.ref (ad 65), .ref (ad 66), .ref (ad 67), .ref (ad 68), .long x4, .long x5, .ref (ad 69), .int t6, .ref (ad 70), .ref (ad 71), .int t7, .int t8, .int t9, .int t10, .int t11, .ref (ad 72), .ref (ad 73)]) := f3
  refine r_get kc9 X h 64 0 (by decide) rfl f14 (by decide) kv_467 rfl dX9_isJar_4 ?_
  refine lv_iconst (v := 1) hx hb dX9_isJar_7 (by decide) ?_
  obtain ⟨g16, f15, p17⟩ := (show sA cI 177 (alA) (w 65) from ok 65 (by decide))
  have f18 : w 65 = .inl (cI, 177, .inl g16) := f15
  obtain ⟨v19, e20⟩ : ∃ z : Int32, g16 1 = z := ⟨_, rfl⟩
  have h21 := (alA_rd p17 e20).2.1 rfl
  refine o_iald (v := v19) X h 65 0 (by decide) rfl f18 rfl (by unfold vp_in; decide) e20 dX9_isJar_8 ?_
  refine lv_iconst (v := 1) hx hb dX9_isJar_9 (by decide) ?_
  obtain ⟨z24, e22, t23⟩ := x_sub (x := v19) (y := (1 : Int32)) (a := (v19).toInt) (b := 1) rfl rfl (by omega) (by omega)
  refine o_isub (z := z24) hx hb dX9_isJar_10 e22 ?_
  obtain ⟨z25, e26⟩ : ∃ z : Int64, z24.toInt64 = z := ⟨_, rfl⟩
  have tz25 : z25.toInt = (z24).toInt := by rw [← e26]; exact Int32.toInt_toInt64 _
  refine lv_i2l (v := z25) hx hb dX9_isJar_11 e26 ?_
  refine n_Si (na := 3) (As := [.long z1, .long 0, .long z25]) (rest := []) X hD hN h (c_M_in l G cI cB cZ cO ad w z1 (0 : Int64) z25 ((i).toInt) 0 ((z24).toInt) tz1 rfl tz25) ⟨kv_468, kv_469, kv_470, kv_471⟩ ⟨by decide, by decide, by decide⟩ ⟨Nat.le_of_ble_eq_true rfl, Nat.le_of_ble_eq_true rfl⟩ ⟨Nat.zero_le _, Nat.zero_le _⟩ rfl hl.1 rfl (Nat.le_of_ble_eq_true rfl) dX9_isJar_12 (fun r27 w28 H locs hp29 h => ?_)
  obtain ⟨rfl, hq30⟩ := hp29
  rcases hq30 with ⟨hq31, hq32, rfl⟩ | ⟨hq30, rfl⟩
  · exact e_n X h hr hlk rfl dX9_isJar_15 ⟨rfl, Or.inl ⟨by omega, by omega, rfl⟩⟩
  · exact e_n X h hr hlk rfl dX9_isJar_15 ⟨rfl, Or.inr rfl⟩

set_option maxHeartbeats 4000000 in
set_option maxRecDepth 100000 in
theorem c_M_isKind (l : Launch) (G : va_G) (cI cB cZ cO : ClassId) (ad : Nat → Nat) (w : Nat → va_E)   (i : Int32)   : NI l G (tyq cI cB cZ cO) yX9_isKind cX9_isKind 1 (some .boolean) 1 25 74 ad w [.int i] (fun r w1 => w = w1 ∧ ((0 ≤ i.toInt ∧ i.toInt ≤ 5 ∧ r = 1) ∨ (¬ (0 ≤ i.toInt ∧ i.toInt ≤ 5) ∧ r = 0))) := by
  refine nk_i (own := "NoonShadeModel") rfl (by decide) (Nat.le_of_ble_eq_true rfl) ?_
  intro p e s m below meth c ls X hD hN hr hlk h hl
  have hx := X.1.1
  have hb := X.1.2.1
  have hown := X.1.2.2.2.1
  have hts := X.1.2.2.2.2
  have hl : lv_has ls 1 [(0, .int i)] := hl
  refine lv_iload_n hx hb dX9_isKind_0 rfl (lv_at hl 0 rfl) ?_
  obtain ⟨z1, e2⟩ : ∃ z : Int64, i.toInt64 = z := ⟨_, rfl⟩
  have tz1 : z1.toInt = (i).toInt := by rw [← e2]; exact Int32.toInt_toInt64 _
  refine lv_i2l (v := z1) hx hb dX9_isKind_1 e2 ?_
  refine lv_lconst (v := 0) hx hb dX9_isKind_2 (by decide) ?_
  refine lv_ldc2 (v := 5) hx hb hown (hts _ kv_472) dX9_isKind_3 ?_
  refine n_Si (na := 3) (As := [.long z1, .long 0, .long 5]) (rest := []) X hD hN h (c_M_in l G cI cB cZ cO ad w z1 (0 : Int64) (5 : Int64) ((i).toInt) 0 5 tz1 rfl rfl) ⟨kv_468, kv_469, kv_470, kv_471⟩ ⟨by decide, by decide, by decide⟩ ⟨Nat.le_of_ble_eq_true rfl, Nat.le_of_ble_eq_true rfl⟩ ⟨Nat.zero_le _, Nat.zero_le _⟩ rfl hl.1 rfl (Nat.le_of_ble_eq_true rfl) dX9_isKind_6 (fun r3 w4 H locs hp5 h => ?_)
  obtain ⟨rfl, hq6⟩ := hp5
  rcases hq6 with ⟨hq7, hq8, rfl⟩ | ⟨hq6, rfl⟩
  · exact e_n X h hr hlk rfl dX9_isKind_9 ⟨rfl, Or.inl ⟨by omega, by omega, rfl⟩⟩
  · exact e_n X h hr hlk rfl dX9_isKind_9 ⟨rfl, Or.inr ⟨by omega, rfl⟩⟩

set_option maxHeartbeats 4000000 in
set_option maxRecDepth 100000 in
theorem c_M_isHeight (l : Launch) (G : va_G) (cI cB cZ cO : ClassId) (ad : Nat → Nat) (w : Nat → va_E)   (i : Int32)   : NI l G (tyq cI cB cZ cO) yX9_isHeight cX9_isHeight 1 (some .boolean) 1 25 74 ad w [.int i] (fun r w1 => w = w1 ∧ ((1 ≤ i.toInt ∧ i.toInt ≤ 9 ∧ r = 1) ∨ (¬ (1 ≤ i.toInt ∧ i.toInt ≤ 9) ∧ r = 0))) := by
  refine nk_i (own := "NoonShadeModel") rfl (by decide) (Nat.le_of_ble_eq_true rfl) ?_
  intro p e s m below meth c ls X hD hN hr hlk h hl
  have hx := X.1.1
  have hb := X.1.2.1
  have hown := X.1.2.2.2.1
  have hts := X.1.2.2.2.2
  have hl : lv_has ls 1 [(0, .int i)] := hl
  refine lv_iload_n hx hb dX9_isHeight_0 rfl (lv_at hl 0 rfl) ?_
  obtain ⟨z1, e2⟩ : ∃ z : Int64, i.toInt64 = z := ⟨_, rfl⟩
  have tz1 : z1.toInt = (i).toInt := by rw [← e2]; exact Int32.toInt_toInt64 _
  refine lv_i2l (v := z1) hx hb dX9_isHeight_1 e2 ?_
  refine lv_lconst (v := 1) hx hb dX9_isHeight_2 (by decide) ?_
  refine lv_ldc2 (v := 9) hx hb hown (hts _ kv_473) dX9_isHeight_3 ?_
  refine n_Si (na := 3) (As := [.long z1, .long 1, .long 9]) (rest := []) X hD hN h (c_M_in l G cI cB cZ cO ad w z1 (1 : Int64) (9 : Int64) ((i).toInt) 1 9 tz1 rfl rfl) ⟨kv_468, kv_469, kv_470, kv_471⟩ ⟨by decide, by decide, by decide⟩ ⟨Nat.le_of_ble_eq_true rfl, Nat.le_of_ble_eq_true rfl⟩ ⟨Nat.zero_le _, Nat.zero_le _⟩ rfl hl.1 rfl (Nat.le_of_ble_eq_true rfl) dX9_isHeight_6 (fun r3 w4 H locs hp5 h => ?_)
  obtain ⟨rfl, hq6⟩ := hp5
  rcases hq6 with ⟨hq7, hq8, rfl⟩ | ⟨hq6, rfl⟩
  · exact e_n X h hr hlk rfl dX9_isHeight_9 ⟨rfl, Or.inl ⟨by omega, by omega, rfl⟩⟩
  · exact e_n X h hr hlk rfl dX9_isHeight_9 ⟨rfl, Or.inr ⟨by omega, rfl⟩⟩

set_option maxHeartbeats 4000000 in
set_option maxRecDepth 100000 in
theorem c_M_isTaste (l : Launch) (G : va_G) (cI cB cZ cO : ClassId) (ad : Nat → Nat) (w : Nat → va_E)   (i : Int32)   : NI l G (tyq cI cB cZ cO) yX9_isTaste cX9_isTaste 1 (some .boolean) 1 25 74 ad w [.int i] (fun r w1 => w = w1 ∧ ((0 ≤ i.toInt ∧ i.toInt ≤ 3 ∧ r = 1) ∨ (¬ (0 ≤ i.toInt ∧ i.toInt ≤ 3) ∧ r = 0))) := by
  refine nk_i (own := "NoonShadeModel") rfl (by decide) (Nat.le_of_ble_eq_true rfl) ?_
  intro p e s m below meth c ls X hD hN hr hlk h hl
  have hx := X.1.1
  have hb := X.1.2.1
  have hown := X.1.2.2.2.1
  have hts := X.1.2.2.2.2
  have hl : lv_has ls 1 [(0, .int i)] := hl
  refine lv_iload_n hx hb dX9_isTaste_0 rfl (lv_at hl 0 rfl) ?_
  obtain ⟨z1, e2⟩ : ∃ z : Int64, i.toInt64 = z := ⟨_, rfl⟩
  have tz1 : z1.toInt = (i).toInt := by rw [← e2]; exact Int32.toInt_toInt64 _
  refine lv_i2l (v := z1) hx hb dX9_isTaste_1 e2 ?_
  refine lv_lconst (v := 0) hx hb dX9_isTaste_2 (by decide) ?_
  refine lv_ldc2 (v := 3) hx hb hown (hts _ kv_474) dX9_isTaste_3 ?_
  refine n_Si (na := 3) (As := [.long z1, .long 0, .long 3]) (rest := []) X hD hN h (c_M_in l G cI cB cZ cO ad w z1 (0 : Int64) (3 : Int64) ((i).toInt) 0 3 tz1 rfl rfl) ⟨kv_468, kv_469, kv_470, kv_471⟩ ⟨by decide, by decide, by decide⟩ ⟨Nat.le_of_ble_eq_true rfl, Nat.le_of_ble_eq_true rfl⟩ ⟨Nat.zero_le _, Nat.zero_le _⟩ rfl hl.1 rfl (Nat.le_of_ble_eq_true rfl) dX9_isTaste_6 (fun r3 w4 H locs hp5 h => ?_)
  obtain ⟨rfl, hq6⟩ := hp5
  rcases hq6 with ⟨hq7, hq8, rfl⟩ | ⟨hq6, rfl⟩
  · exact e_n X h hr hlk rfl dX9_isTaste_9 ⟨rfl, Or.inl ⟨by omega, by omega, rfl⟩⟩
  · exact e_n X h hr hlk rfl dX9_isTaste_9 ⟨rfl, Or.inr ⟨by omega, rfl⟩⟩

set_option maxHeartbeats 4000000 in
set_option maxRecDepth 100000 in
theorem c_M_isHour (l : Launch) (G : va_G) (cI cB cZ cO : ClassId) (ad : Nat → Nat) (w : Nat → va_E)   (i : Int32)   : NI l G (tyq cI cB cZ cO) yX9_isHour cX9_isHour 1 (some .boolean) 1 25 74 ad w [.int i] (fun r w1 => w = w1 ∧ ((0 ≤ i.toInt ∧ i.toInt ≤ 23 ∧ r = 1) ∨ (¬ (0 ≤ i.toInt ∧ i.toInt ≤ 23) ∧ r = 0))) := by
  refine nk_i (own := "NoonShadeModel") rfl (by decide) (Nat.le_of_ble_eq_true rfl) ?_
  intro p e s m below meth c ls X hD hN hr hlk h hl
  have hx := X.1.1
  have hb := X.1.2.1
  have hown := X.1.2.2.2.1
  have hts := X.1.2.2.2.2
  have hl : lv_has ls 1 [(0, .int i)] := hl
  refine lv_iload_n hx hb dX9_isHour_0 rfl (lv_at hl 0 rfl) ?_
  obtain ⟨z1, e2⟩ : ∃ z : Int64, i.toInt64 = z := ⟨_, rfl⟩
  have tz1 : z1.toInt = (i).toInt := by rw [← e2]; exact Int32.toInt_toInt64 _
  refine lv_i2l (v := z1) hx hb dX9_isHour_1 e2 ?_
  refine lv_lconst (v := 0) hx hb dX9_isHour_2 (by decide) ?_
  refine lv_ldc2 (v := 23) hx hb hown (hts _ kv_475) dX9_isHour_3 ?_
  refine n_Si (na := 3) (As := [.long z1, .long 0, .long 23]) (rest := []) X hD hN h (c_M_in l G cI cB cZ cO ad w z1 (0 : Int64) (23 : Int64) ((i).toInt) 0 23 tz1 rfl rfl) ⟨kv_468, kv_469, kv_470, kv_471⟩ ⟨by decide, by decide, by decide⟩ ⟨Nat.le_of_ble_eq_true rfl, Nat.le_of_ble_eq_true rfl⟩ ⟨Nat.zero_le _, Nat.zero_le _⟩ rfl hl.1 rfl (Nat.le_of_ble_eq_true rfl) dX9_isHour_6 (fun r3 w4 H locs hp5 h => ?_)
  obtain ⟨rfl, hq6⟩ := hp5
  rcases hq6 with ⟨hq7, hq8, rfl⟩ | ⟨hq6, rfl⟩
  · exact e_n X h hr hlk rfl dX9_isHour_9 ⟨rfl, Or.inl ⟨by omega, by omega, rfl⟩⟩
  · exact e_n X h hr hlk rfl dX9_isHour_9 ⟨rfl, Or.inr ⟨by omega, rfl⟩⟩

set_option maxHeartbeats 4000000 in
set_option maxRecDepth 100000 in
theorem c_M_isCool (l : Launch) (G : va_G) (cI cB cZ cO : ClassId) (ad : Nat → Nat) (w : Nat → va_E)   (i : Int32)   : NI l G (tyq cI cB cZ cO) yX9_isCool cX9_isCool 1 (some .boolean) 1 25 74 ad w [.int i] (fun r w1 => w = w1 ∧ ((0 ≤ i.toInt ∧ i.toInt ≤ 60 ∧ r = 1) ∨ (¬ (0 ≤ i.toInt ∧ i.toInt ≤ 60) ∧ r = 0))) := by
  refine nk_i (own := "NoonShadeModel") rfl (by decide) (Nat.le_of_ble_eq_true rfl) ?_
  intro p e s m below meth c ls X hD hN hr hlk h hl
  have hx := X.1.1
  have hb := X.1.2.1
  have hown := X.1.2.2.2.1
  have hts := X.1.2.2.2.2
  have hl : lv_has ls 1 [(0, .int i)] := hl
  refine lv_iload_n hx hb dX9_isCool_0 rfl (lv_at hl 0 rfl) ?_
  obtain ⟨z1, e2⟩ : ∃ z : Int64, i.toInt64 = z := ⟨_, rfl⟩
  have tz1 : z1.toInt = (i).toInt := by rw [← e2]; exact Int32.toInt_toInt64 _
  refine lv_i2l (v := z1) hx hb dX9_isCool_1 e2 ?_
  refine lv_lconst (v := 0) hx hb dX9_isCool_2 (by decide) ?_
  refine lv_ldc2 (v := 60) hx hb hown (hts _ kv_476) dX9_isCool_3 ?_
  refine n_Si (na := 3) (As := [.long z1, .long 0, .long 60]) (rest := []) X hD hN h (c_M_in l G cI cB cZ cO ad w z1 (0 : Int64) (60 : Int64) ((i).toInt) 0 60 tz1 rfl rfl) ⟨kv_468, kv_469, kv_470, kv_471⟩ ⟨by decide, by decide, by decide⟩ ⟨Nat.le_of_ble_eq_true rfl, Nat.le_of_ble_eq_true rfl⟩ ⟨Nat.zero_le _, Nat.zero_le _⟩ rfl hl.1 rfl (Nat.le_of_ble_eq_true rfl) dX9_isCool_6 (fun r3 w4 H locs hp5 h => ?_)
  obtain ⟨rfl, hq6⟩ := hp5
  rcases hq6 with ⟨hq7, hq8, rfl⟩ | ⟨hq6, rfl⟩
  · exact e_n X h hr hlk rfl dX9_isCool_9 ⟨rfl, Or.inl ⟨by omega, by omega, rfl⟩⟩
  · exact e_n X h hr hlk rfl dX9_isCool_9 ⟨rfl, Or.inr ⟨by omega, rfl⟩⟩

set_option maxHeartbeats 4000000 in
set_option maxRecDepth 100000 in
theorem c_M_givesAs (l : Launch) (G : va_G) (cI cB cZ cO : ClassId) (ad : Nat → Nat) (w : Nat → va_E)   (k : Int32) (q : Int32) (t : Int32)   : NI l G (tyq cI cB cZ cO) yX9_givesAs cX9_givesAs 6 (some .int) 0 0 74 ad w [.int k, .int q, .int t] (fun r w1 => w = w1 ∧ True) := by
  refine nk_i (own := "NoonShadeModel") rfl (by decide) (Nat.le_of_ble_eq_true rfl) ?_
  intro p e s m below meth c ls X hD hN hr hlk h hl
  have hx := X.1.1
  have hb := X.1.2.1
  have hown := X.1.2.2.2.1
  have hts := X.1.2.2.2.2
  have hl : lv_has ls 6 [(0, .int k), (1, .int q), (2, .int t)] := hl
  refine lv_iload_n hx hb dX9_givesAs_0 rfl (lv_at hl 1 rfl) ?_
  refine lv_iconst (v := 1) hx hb dX9_givesAs_1 (by decide) ?_
  obtain ⟨z3, e1⟩ : ∃ z : Int32, q + (1 : Int32) = z := ⟨_, rfl⟩
  refine o_iadd (z := z3) hx hb dX9_givesAs_2 e1 ?_
  refine lv_iconst (v := 2) hx hb dX9_givesAs_3 (by decide) ?_
  obtain ⟨z6, e4⟩ : ∃ z : Int32, z3 / (2 : Int32) = z := ⟨_, rfl⟩
  refine o_idiv (z := z6) hx hb dX9_givesAs_4 (by decide) e4 ?_
  refine lv_istore_n (lv' := [(3, .int z6), (0, .int k), (1, .int q), (2, .int t)]) hx hb dX9_givesAs_5 rfl hl (by decide) rfl (fun ls hl => ?_)
  refine lv_iload_n hx hb dX9_givesAs_6 rfl (lv_at hl 3 rfl) ?_
  refine lv_bipush (v := 11) hx hb dX9_givesAs_7 (by decide) ?_
  refine lv_icmp_lt (tgt := 24) hx hb dX9_givesAs_9 (by decide) (fun hc7 => ?_) (fun hc7 => ?_)
  · have hc7 : (t).toInt < 11 := i_lt hc7 rfl rfl
    refine lv_iload_n hx hb dX9_givesAs_24 rfl (lv_at hl 0 rfl) ?_
    refine lv_istore (lv' := [(4, .int z6), (3, .int z6), (0, .int k), (1, .int q), (2, .int t)]) hx hb dX9_givesAs_25 hl (by decide) rfl (fun ls hl => ?_)
    refine lv_iload_n hx hb dX9_givesAs_27 rfl (lv_at hl 4 rfl) ?_
    refine lv_bipush (v := 12) hx hb dX9_givesAs_28 (by decide) ?_
    refine lv_icmp_le (tgt := 40) hx hb dX9_givesAs_30 (by decide) (fun hc8 => ?_) (fun hc8 => ?_)
    · have hc8 : (t).toInt ≤ 12 := i_le hc8 rfl rfl
      refine lv_bipush (v := 12) hx hb dX9_givesAs_40 (by decide) ?_
      refine lv_iload_n hx hb dX9_givesAs_42 rfl (lv_at hl 4 rfl) ?_
      obtain ⟨z11, e9⟩ : ∃ z : Int32, (12 : Int32) - t = z := ⟨_, rfl⟩
      refine o_isub (z := z11) hx hb dX9_givesAs_43 e9 ?_
      refine lv_istore (lv' := [(5, .int z11), (4, .int z6), (3, .int z6), (0, .int k), (1, .int q), (2, .int t)]) hx hb dX9_givesAs_44 hl (by decide) rfl (fun ls hl => ?_)
      refine lv_iload_n hx hb dX9_givesAs_46 rfl (lv_at hl 3 rfl) ?_
      by_cases hs12 : 1 ≤ (k).toInt ∧ (k).toInt ≤ 5
      · have ha13 : k = 1 ∨ k = 2 ∨ k = 3 ∨ k = 4 ∨ k = 5 := by simp only [fa_eq]; have := hs12; simp only [show ((1 : Int32).toInt = 1) from rfl, show ((2 : Int32).toInt = 2) from rfl, show ((3 : Int32).toInt = 3) from rfl, show ((4 : Int32).toInt = 4) from rfl, show ((5 : Int32).toInt = 5) from rfl]; omega
        rcases ha13 with hq | hq | hq | hq | hq
        · refine lv_tableIn (tgt := 80) (off := 33) hx hb dX9_givesAs_47 (by rw [hq]; decide) (by rw [hq]; decide) (by rw [hq]; decide) (by decide) ?_
          refine lv_iload hx hb dX9_givesAs_80 (lv_at hl 1 rfl) ?_
          exact e_i X h hr hlk dX9_givesAs_82 ⟨rfl, trivial⟩
        · refine lv_tableIn (tgt := 83) (off := 36) hx hb dX9_givesAs_47 (by rw [hq]; decide) (by rw [hq]; decide) (by rw [hq]; decide) (by decide) ?_
          refine lv_iload hx hb dX9_givesAs_83 (lv_at hl 1 rfl) ?_
          refine lv_iconst (v := 2) hx hb dX9_givesAs_85 (by decide) ?_
          obtain ⟨z16, e14⟩ : ∃ z : Int32, z6 / (2 : Int32) = z := ⟨_, rfl⟩
          refine o_idiv (z := z16) hx hb dX9_givesAs_86 (by decide) e14 ?_
          exact e_i X h hr hlk dX9_givesAs_87 ⟨rfl, trivial⟩
        · refine lv_tableIn (tgt := 88) (off := 41) hx hb dX9_givesAs_47 (by rw [hq]; decide) (by rw [hq]; decide) (by rw [hq]; decide) (by decide) ?_
          refine lv_iload_n hx hb dX9_givesAs_88 rfl (lv_at hl 5 rfl) ?_
          refine lv_iconst (v := 3) hx hb dX9_givesAs_89 (by decide) ?_
          obtain ⟨z19, e17⟩ : ∃ z : Int32, t - t / (3 : Int32) * (3 : Int32) = z := ⟨_, rfl⟩
          refine o_irem (z := z19) hx hb dX9_givesAs_90 (by decide) e17 ?_
          refine lv_if_ne (tgt := 98) hx hb dX9_givesAs_91 (by decide) (fun hc20 => ?_) (fun hc20 => ?_)
          · have hc20 : ¬ (z19).toInt = 0 := i_ne hc20 rfl rfl
            refine lv_iconst (v := 2) hx hb dX9_givesAs_98 (by decide) ?_
            refine lv_iload_n hx hb dX9_givesAs_99 rfl (lv_at hl 2 rfl) ?_
            obtain ⟨z23, e21⟩ : ∃ z : Int32, (2 : Int32) * z6 = z := ⟨_, rfl⟩
            refine o_imul (z := z23) hx hb dX9_givesAs_100 e21 ?_
            exact e_i X h hr hlk dX9_givesAs_101 ⟨rfl, trivial⟩
          · have hc20 : (z19).toInt = 0 := i_eq hc20 rfl rfl
            refine lv_iconst (v := 0) hx hb dX9_givesAs_94 (by decide) ?_
            refine lv_goto (tgt := 101) hx hb dX9_givesAs_95 (by decide) ?_
            exact e_i X h hr hlk dX9_givesAs_101 ⟨rfl, trivial⟩
        · refine lv_tableIn (tgt := 102) (off := 55) hx hb dX9_givesAs_47 (by rw [hq]; decide) (by rw [hq]; decide) (by rw [hq]; decide) (by decide) ?_
          refine lv_iload_n hx hb dX9_givesAs_102 rfl (lv_at hl 2 rfl) ?_
          refine lv_iload hx hb dX9_givesAs_103 (lv_at hl 0 rfl) ?_
          refine lv_bipush (v := 9) hx hb dX9_givesAs_105 (by decide) ?_
          refine lv_icmp_le (tgt := 115) hx hb dX9_givesAs_107 (by decide) (fun hc24 => ?_) (fun hc24 => ?_)
          · have hc24 : (z11).toInt ≤ 9 := i_le hc24 rfl rfl
            refine lv_iload hx hb dX9_givesAs_115 (lv_at hl 0 rfl) ?_
            obtain ⟨z27, e25⟩ : ∃ z : Int32, z6 + z11 = z := ⟨_, rfl⟩
            refine o_iadd (z := z27) hx hb dX9_givesAs_117 e25 ?_
            exact e_i X h hr hlk dX9_givesAs_118 ⟨rfl, trivial⟩
          · have hc24 : ¬ (z11).toInt ≤ 9 := i_nle hc24 rfl rfl
            refine lv_bipush (v := 9) hx hb dX9_givesAs_110 (by decide) ?_
            refine lv_goto (tgt := 117) hx hb dX9_givesAs_112 (by decide) ?_
            obtain ⟨z30, e28⟩ : ∃ z : Int32, z6 + (9 : Int32) = z := ⟨_, rfl⟩
            refine o_iadd (z := z30) hx hb dX9_givesAs_117 e28 ?_
            exact e_i X h hr hlk dX9_givesAs_118 ⟨rfl, trivial⟩
        · refine lv_tableIn (tgt := 119) (off := 72) hx hb dX9_givesAs_47 (by rw [hq]; decide) (by rw [hq]; decide) (by rw [hq]; decide) (by decide) ?_
          refine lv_iload hx hb dX9_givesAs_119 (lv_at hl 1 rfl) ?_
          refine lv_iconst (v := 3) hx hb dX9_givesAs_121 (by decide) ?_
          obtain ⟨z33, e31⟩ : ∃ z : Int32, z6 + (3 : Int32) = z := ⟨_, rfl⟩
          refine o_iadd (z := z33) hx hb dX9_givesAs_122 e31 ?_
          exact e_i X h hr hlk dX9_givesAs_123 ⟨rfl, trivial⟩
      · refine lv_tableOut (tgt := 124) hx hb dX9_givesAs_47 (by omega) (by decide) ?_
        refine lv_iload_n hx hb dX9_givesAs_124 rfl (lv_at hl 2 rfl) ?_
        exact e_i X h hr hlk dX9_givesAs_125 ⟨rfl, trivial⟩
    · have hc8 : ¬ (t).toInt ≤ 12 := i_nle hc8 rfl rfl
      exfalso; omega
  · have hc7 : ¬ (t).toInt < 11 := i_nlt hc7 rfl rfl
    refine lv_iload_n hx hb dX9_givesAs_12 rfl (lv_at hl 3 rfl) ?_
    refine lv_bipush (v := 13) hx hb dX9_givesAs_13 (by decide) ?_
    refine lv_icmp_gt (tgt := 24) hx hb dX9_givesAs_15 (by decide) (fun hc34 => ?_) (fun hc34 => ?_)
    · have hc34 : 13 < (t).toInt := i_lt hc34 rfl rfl
      refine lv_iload_n hx hb dX9_givesAs_24 rfl (lv_at hl 0 rfl) ?_
      refine lv_istore (lv' := [(4, .int z6), (3, .int z6), (0, .int k), (1, .int q), (2, .int t)]) hx hb dX9_givesAs_25 hl (by decide) rfl (fun ls hl => ?_)
      refine lv_iload_n hx hb dX9_givesAs_27 rfl (lv_at hl 4 rfl) ?_
      refine lv_bipush (v := 12) hx hb dX9_givesAs_28 (by decide) ?_
      refine lv_icmp_le (tgt := 40) hx hb dX9_givesAs_30 (by decide) (fun hc35 => ?_) (fun hc35 => ?_)
      · have hc35 : (t).toInt ≤ 12 := i_le hc35 rfl rfl
        exfalso; omega
      · have hc35 : ¬ (t).toInt ≤ 12 := i_nle hc35 rfl rfl
        refine lv_iload_n hx hb dX9_givesAs_33 rfl (lv_at hl 4 rfl) ?_
        refine lv_bipush (v := 12) hx hb dX9_givesAs_34 (by decide) ?_
        obtain ⟨z38, e36⟩ : ∃ z : Int32, t - (12 : Int32) = z := ⟨_, rfl⟩
        refine o_isub (z := z38) hx hb dX9_givesAs_36 e36 ?_
        refine lv_goto (tgt := 44) hx hb dX9_givesAs_37 (by decide) ?_
        refine lv_istore (lv' := [(5, .int z38), (4, .int z6), (3, .int z6), (0, .int k), (1, .int q), (2, .int t)]) hx hb dX9_givesAs_44 hl (by decide) rfl (fun ls hl => ?_)
        refine lv_iload_n hx hb dX9_givesAs_46 rfl (lv_at hl 3 rfl) ?_
        by_cases hs39 : 1 ≤ (k).toInt ∧ (k).toInt ≤ 5
        · have ha40 : k = 1 ∨ k = 2 ∨ k = 3 ∨ k = 4 ∨ k = 5 := by simp only [fa_eq]; have := hs39; simp only [show ((1 : Int32).toInt = 1) from rfl, show ((2 : Int32).toInt = 2) from rfl, show ((3 : Int32).toInt = 3) from rfl, show ((4 : Int32).toInt = 4) from rfl, show ((5 : Int32).toInt = 5) from rfl]; omega
          rcases ha40 with hq | hq | hq | hq | hq
          · refine lv_tableIn (tgt := 80) (off := 33) hx hb dX9_givesAs_47 (by rw [hq]; decide) (by rw [hq]; decide) (by rw [hq]; decide) (by decide) ?_
            refine lv_iload hx hb dX9_givesAs_80 (lv_at hl 1 rfl) ?_
            exact e_i X h hr hlk dX9_givesAs_82 ⟨rfl, trivial⟩
          · refine lv_tableIn (tgt := 83) (off := 36) hx hb dX9_givesAs_47 (by rw [hq]; decide) (by rw [hq]; decide) (by rw [hq]; decide) (by decide) ?_
            refine lv_iload hx hb dX9_givesAs_83 (lv_at hl 1 rfl) ?_
            refine lv_iconst (v := 2) hx hb dX9_givesAs_85 (by decide) ?_
            obtain ⟨z43, e41⟩ : ∃ z : Int32, z6 / (2 : Int32) = z := ⟨_, rfl⟩
            refine o_idiv (z := z43) hx hb dX9_givesAs_86 (by decide) e41 ?_
            exact e_i X h hr hlk dX9_givesAs_87 ⟨rfl, trivial⟩
          · refine lv_tableIn (tgt := 88) (off := 41) hx hb dX9_givesAs_47 (by rw [hq]; decide) (by rw [hq]; decide) (by rw [hq]; decide) (by decide) ?_
            refine lv_iload_n hx hb dX9_givesAs_88 rfl (lv_at hl 5 rfl) ?_
            refine lv_iconst (v := 3) hx hb dX9_givesAs_89 (by decide) ?_
            obtain ⟨z46, e44, t45⟩ := x_rem (x := t) (y := (3 : Int32)) (a := (t).toInt) (b := 3) rfl rfl (by omega) (by omega)
            refine o_irem (z := z46) hx hb dX9_givesAs_90 (by decide) e44 ?_
            refine lv_if_ne (tgt := 98) hx hb dX9_givesAs_91 (by decide) (fun hc47 => ?_) (fun hc47 => ?_)
            · have hc47 : ¬ (z46).toInt = 0 := i_ne hc47 rfl rfl
              refine lv_iconst (v := 2) hx hb dX9_givesAs_98 (by decide) ?_
              refine lv_iload_n hx hb dX9_givesAs_99 rfl (lv_at hl 2 rfl) ?_
              obtain ⟨z50, e48⟩ : ∃ z : Int32, (2 : Int32) * z6 = z := ⟨_, rfl⟩
              refine o_imul (z := z50) hx hb dX9_givesAs_100 e48 ?_
              exact e_i X h hr hlk dX9_givesAs_101 ⟨rfl, trivial⟩
            · have hc47 : (z46).toInt = 0 := i_eq hc47 rfl rfl
              refine lv_iconst (v := 0) hx hb dX9_givesAs_94 (by decide) ?_
              refine lv_goto (tgt := 101) hx hb dX9_givesAs_95 (by decide) ?_
              exact e_i X h hr hlk dX9_givesAs_101 ⟨rfl, trivial⟩
          · refine lv_tableIn (tgt := 102) (off := 55) hx hb dX9_givesAs_47 (by rw [hq]; decide) (by rw [hq]; decide) (by rw [hq]; decide) (by decide) ?_
            refine lv_iload_n hx hb dX9_givesAs_102 rfl (lv_at hl 2 rfl) ?_
            refine lv_iload hx hb dX9_givesAs_103 (lv_at hl 0 rfl) ?_
            refine lv_bipush (v := 9) hx hb dX9_givesAs_105 (by decide) ?_
            refine lv_icmp_le (tgt := 115) hx hb dX9_givesAs_107 (by decide) (fun hc51 => ?_) (fun hc51 => ?_)
            · have hc51 : (z38).toInt ≤ 9 := i_le hc51 rfl rfl
              refine lv_iload hx hb dX9_givesAs_115 (lv_at hl 0 rfl) ?_
              obtain ⟨z54, e52⟩ : ∃ z : Int32, z6 + z38 = z := ⟨_, rfl⟩
              refine o_iadd (z := z54) hx hb dX9_givesAs_117 e52 ?_
              exact e_i X h hr hlk dX9_givesAs_118 ⟨rfl, trivial⟩
            · have hc51 : ¬ (z38).toInt ≤ 9 := i_nle hc51 rfl rfl
              refine lv_bipush (v := 9) hx hb dX9_givesAs_110 (by decide) ?_
              refine lv_goto (tgt := 117) hx hb dX9_givesAs_112 (by decide) ?_
              obtain ⟨z57, e55⟩ : ∃ z : Int32, z6 + (9 : Int32) = z := ⟨_, rfl⟩
              refine o_iadd (z := z57) hx hb dX9_givesAs_117 e55 ?_
              exact e_i X h hr hlk dX9_givesAs_118 ⟨rfl, trivial⟩
          · refine lv_tableIn (tgt := 119) (off := 72) hx hb dX9_givesAs_47 (by rw [hq]; decide) (by rw [hq]; decide) (by rw [hq]; decide) (by decide) ?_
            refine lv_iload hx hb dX9_givesAs_119 (lv_at hl 1 rfl) ?_
            refine lv_iconst (v := 3) hx hb dX9_givesAs_121 (by decide) ?_
            obtain ⟨z60, e58⟩ : ∃ z : Int32, z6 + (3 : Int32) = z := ⟨_, rfl⟩
            refine o_iadd (z := z60) hx hb dX9_givesAs_122 e58 ?_
            exact e_i X h hr hlk dX9_givesAs_123 ⟨rfl, trivial⟩
        · refine lv_tableOut (tgt := 124) hx hb dX9_givesAs_47 (by omega) (by decide) ?_
          refine lv_iload_n hx hb dX9_givesAs_124 rfl (lv_at hl 2 rfl) ?_
          exact e_i X h hr hlk dX9_givesAs_125 ⟨rfl, trivial⟩
    · have hc34 : ¬ 13 < (t).toInt := i_nlt hc34 rfl rfl
      refine lv_iload_n hx hb dX9_givesAs_18 rfl (lv_at hl 0 rfl) ?_
      refine lv_iload_n hx hb dX9_givesAs_19 rfl (lv_at hl 2 rfl) ?_
      obtain ⟨z63, e61⟩ : ∃ z : Int32, z6 + q = z := ⟨_, rfl⟩
      refine o_iadd (z := z63) hx hb dX9_givesAs_20 e61 ?_
      refine lv_goto (tgt := 25) hx hb dX9_givesAs_21 (by decide) ?_
      refine lv_istore (lv' := [(4, .int z63), (3, .int z6), (0, .int k), (1, .int q), (2, .int t)]) hx hb dX9_givesAs_25 hl (by decide) rfl (fun ls hl => ?_)
      refine lv_iload_n hx hb dX9_givesAs_27 rfl (lv_at hl 4 rfl) ?_
      refine lv_bipush (v := 12) hx hb dX9_givesAs_28 (by decide) ?_
      refine lv_icmp_le (tgt := 40) hx hb dX9_givesAs_30 (by decide) (fun hc64 => ?_) (fun hc64 => ?_)
      · have hc64 : (t).toInt ≤ 12 := i_le hc64 rfl rfl
        refine lv_bipush (v := 12) hx hb dX9_givesAs_40 (by decide) ?_
        refine lv_iload_n hx hb dX9_givesAs_42 rfl (lv_at hl 4 rfl) ?_
        obtain ⟨z67, e65, t66⟩ := x_sub (x := (12 : Int32)) (y := t) (a := 12) (b := (t).toInt) rfl rfl (by omega) (by omega)
        refine o_isub (z := z67) hx hb dX9_givesAs_43 e65 ?_
        refine lv_istore (lv' := [(5, .int z67), (4, .int z63), (3, .int z6), (0, .int k), (1, .int q), (2, .int t)]) hx hb dX9_givesAs_44 hl (by decide) rfl (fun ls hl => ?_)
        refine lv_iload_n hx hb dX9_givesAs_46 rfl (lv_at hl 3 rfl) ?_
        by_cases hs68 : 1 ≤ (k).toInt ∧ (k).toInt ≤ 5
        · have ha69 : k = 1 ∨ k = 2 ∨ k = 3 ∨ k = 4 ∨ k = 5 := by simp only [fa_eq]; have := hs68; simp only [show ((1 : Int32).toInt = 1) from rfl, show ((2 : Int32).toInt = 2) from rfl, show ((3 : Int32).toInt = 3) from rfl, show ((4 : Int32).toInt = 4) from rfl, show ((5 : Int32).toInt = 5) from rfl]; omega
          rcases ha69 with hq | hq | hq | hq | hq
          · refine lv_tableIn (tgt := 80) (off := 33) hx hb dX9_givesAs_47 (by rw [hq]; decide) (by rw [hq]; decide) (by rw [hq]; decide) (by decide) ?_
            refine lv_iload hx hb dX9_givesAs_80 (lv_at hl 1 rfl) ?_
            exact e_i X h hr hlk dX9_givesAs_82 ⟨rfl, trivial⟩
          · refine lv_tableIn (tgt := 83) (off := 36) hx hb dX9_givesAs_47 (by rw [hq]; decide) (by rw [hq]; decide) (by rw [hq]; decide) (by decide) ?_
            refine lv_iload hx hb dX9_givesAs_83 (lv_at hl 1 rfl) ?_
            refine lv_iconst (v := 2) hx hb dX9_givesAs_85 (by decide) ?_
            obtain ⟨z72, e70⟩ : ∃ z : Int32, z63 / (2 : Int32) = z := ⟨_, rfl⟩
            refine o_idiv (z := z72) hx hb dX9_givesAs_86 (by decide) e70 ?_
            exact e_i X h hr hlk dX9_givesAs_87 ⟨rfl, trivial⟩
          · refine lv_tableIn (tgt := 88) (off := 41) hx hb dX9_givesAs_47 (by rw [hq]; decide) (by rw [hq]; decide) (by rw [hq]; decide) (by decide) ?_
            refine lv_iload_n hx hb dX9_givesAs_88 rfl (lv_at hl 5 rfl) ?_
            refine lv_iconst (v := 3) hx hb dX9_givesAs_89 (by decide) ?_
            obtain ⟨z75, e73, t74⟩ := x_rem (x := t) (y := (3 : Int32)) (a := (t).toInt) (b := 3) rfl rfl (by omega) (by omega)
            refine o_irem (z := z75) hx hb dX9_givesAs_90 (by decide) e73 ?_
            refine lv_if_ne (tgt := 98) hx hb dX9_givesAs_91 (by decide) (fun hc76 => ?_) (fun hc76 => ?_)
            · have hc76 : ¬ (z75).toInt = 0 := i_ne hc76 rfl rfl
              refine lv_iconst (v := 2) hx hb dX9_givesAs_98 (by decide) ?_
              refine lv_iload_n hx hb dX9_givesAs_99 rfl (lv_at hl 2 rfl) ?_
              obtain ⟨z79, e77⟩ : ∃ z : Int32, (2 : Int32) * z6 = z := ⟨_, rfl⟩
              refine o_imul (z := z79) hx hb dX9_givesAs_100 e77 ?_
              exact e_i X h hr hlk dX9_givesAs_101 ⟨rfl, trivial⟩
            · have hc76 : (z75).toInt = 0 := i_eq hc76 rfl rfl
              refine lv_iconst (v := 0) hx hb dX9_givesAs_94 (by decide) ?_
              refine lv_goto (tgt := 101) hx hb dX9_givesAs_95 (by decide) ?_
              exact e_i X h hr hlk dX9_givesAs_101 ⟨rfl, trivial⟩
          · refine lv_tableIn (tgt := 102) (off := 55) hx hb dX9_givesAs_47 (by rw [hq]; decide) (by rw [hq]; decide) (by rw [hq]; decide) (by decide) ?_
            refine lv_iload_n hx hb dX9_givesAs_102 rfl (lv_at hl 2 rfl) ?_
            refine lv_iload hx hb dX9_givesAs_103 (lv_at hl 0 rfl) ?_
            refine lv_bipush (v := 9) hx hb dX9_givesAs_105 (by decide) ?_
            refine lv_icmp_le (tgt := 115) hx hb dX9_givesAs_107 (by decide) (fun hc80 => ?_) (fun hc80 => ?_)
            · have hc80 : (z67).toInt ≤ 9 := i_le hc80 rfl rfl
              refine lv_iload hx hb dX9_givesAs_115 (lv_at hl 0 rfl) ?_
              obtain ⟨z83, e81⟩ : ∃ z : Int32, z6 + z67 = z := ⟨_, rfl⟩
              refine o_iadd (z := z83) hx hb dX9_givesAs_117 e81 ?_
              exact e_i X h hr hlk dX9_givesAs_118 ⟨rfl, trivial⟩
            · have hc80 : ¬ (z67).toInt ≤ 9 := i_nle hc80 rfl rfl
              exfalso; omega
          · refine lv_tableIn (tgt := 119) (off := 72) hx hb dX9_givesAs_47 (by rw [hq]; decide) (by rw [hq]; decide) (by rw [hq]; decide) (by decide) ?_
            refine lv_iload hx hb dX9_givesAs_119 (lv_at hl 1 rfl) ?_
            refine lv_iconst (v := 3) hx hb dX9_givesAs_121 (by decide) ?_
            obtain ⟨z86, e84⟩ : ∃ z : Int32, z63 + (3 : Int32) = z := ⟨_, rfl⟩
            refine o_iadd (z := z86) hx hb dX9_givesAs_122 e84 ?_
            exact e_i X h hr hlk dX9_givesAs_123 ⟨rfl, trivial⟩
        · refine lv_tableOut (tgt := 124) hx hb dX9_givesAs_47 (by omega) (by decide) ?_
          refine lv_iload_n hx hb dX9_givesAs_124 rfl (lv_at hl 2 rfl) ?_
          exact e_i X h hr hlk dX9_givesAs_125 ⟨rfl, trivial⟩
      · have hc64 : ¬ (t).toInt ≤ 12 := i_nle hc64 rfl rfl
        refine lv_iload_n hx hb dX9_givesAs_33 rfl (lv_at hl 4 rfl) ?_
        refine lv_bipush (v := 12) hx hb dX9_givesAs_34 (by decide) ?_
        obtain ⟨z89, e87, t88⟩ := x_sub (x := t) (y := (12 : Int32)) (a := (t).toInt) (b := 12) rfl rfl (by omega) (by omega)
        refine o_isub (z := z89) hx hb dX9_givesAs_36 e87 ?_
        refine lv_goto (tgt := 44) hx hb dX9_givesAs_37 (by decide) ?_
        refine lv_istore (lv' := [(5, .int z89), (4, .int z63), (3, .int z6), (0, .int k), (1, .int q), (2, .int t)]) hx hb dX9_givesAs_44 hl (by decide) rfl (fun ls hl => ?_)
        refine lv_iload_n hx hb dX9_givesAs_46 rfl (lv_at hl 3 rfl) ?_
        by_cases hs90 : 1 ≤ (k).toInt ∧ (k).toInt ≤ 5
        · have ha91 : k = 1 ∨ k = 2 ∨ k = 3 ∨ k = 4 ∨ k = 5 := by simp only [fa_eq]; have := hs90; simp only [show ((1 : Int32).toInt = 1) from rfl, show ((2 : Int32).toInt = 2) from rfl, show ((3 : Int32).toInt = 3) from rfl, show ((4 : Int32).toInt = 4) from rfl, show ((5 : Int32).toInt = 5) from rfl]; omega
          rcases ha91 with hq | hq | hq | hq | hq
          · refine lv_tableIn (tgt := 80) (off := 33) hx hb dX9_givesAs_47 (by rw [hq]; decide) (by rw [hq]; decide) (by rw [hq]; decide) (by decide) ?_
            refine lv_iload hx hb dX9_givesAs_80 (lv_at hl 1 rfl) ?_
            exact e_i X h hr hlk dX9_givesAs_82 ⟨rfl, trivial⟩
          · refine lv_tableIn (tgt := 83) (off := 36) hx hb dX9_givesAs_47 (by rw [hq]; decide) (by rw [hq]; decide) (by rw [hq]; decide) (by decide) ?_
            refine lv_iload hx hb dX9_givesAs_83 (lv_at hl 1 rfl) ?_
            refine lv_iconst (v := 2) hx hb dX9_givesAs_85 (by decide) ?_
            obtain ⟨z94, e92⟩ : ∃ z : Int32, z63 / (2 : Int32) = z := ⟨_, rfl⟩
            refine o_idiv (z := z94) hx hb dX9_givesAs_86 (by decide) e92 ?_
            exact e_i X h hr hlk dX9_givesAs_87 ⟨rfl, trivial⟩
          · refine lv_tableIn (tgt := 88) (off := 41) hx hb dX9_givesAs_47 (by rw [hq]; decide) (by rw [hq]; decide) (by rw [hq]; decide) (by decide) ?_
            refine lv_iload_n hx hb dX9_givesAs_88 rfl (lv_at hl 5 rfl) ?_
            refine lv_iconst (v := 3) hx hb dX9_givesAs_89 (by decide) ?_
            obtain ⟨z97, e95, t96⟩ := x_rem (x := t) (y := (3 : Int32)) (a := (t).toInt) (b := 3) rfl rfl (by omega) (by omega)
            refine o_irem (z := z97) hx hb dX9_givesAs_90 (by decide) e95 ?_
            refine lv_if_ne (tgt := 98) hx hb dX9_givesAs_91 (by decide) (fun hc98 => ?_) (fun hc98 => ?_)
            · have hc98 : ¬ (z97).toInt = 0 := i_ne hc98 rfl rfl
              refine lv_iconst (v := 2) hx hb dX9_givesAs_98 (by decide) ?_
              refine lv_iload_n hx hb dX9_givesAs_99 rfl (lv_at hl 2 rfl) ?_
              obtain ⟨z101, e99⟩ : ∃ z : Int32, (2 : Int32) * z6 = z := ⟨_, rfl⟩
              refine o_imul (z := z101) hx hb dX9_givesAs_100 e99 ?_
              exact e_i X h hr hlk dX9_givesAs_101 ⟨rfl, trivial⟩
            · have hc98 : (z97).toInt = 0 := i_eq hc98 rfl rfl
              refine lv_iconst (v := 0) hx hb dX9_givesAs_94 (by decide) ?_
              refine lv_goto (tgt := 101) hx hb dX9_givesAs_95 (by decide) ?_
              exact e_i X h hr hlk dX9_givesAs_101 ⟨rfl, trivial⟩
          · refine lv_tableIn (tgt := 102) (off := 55) hx hb dX9_givesAs_47 (by rw [hq]; decide) (by rw [hq]; decide) (by rw [hq]; decide) (by decide) ?_
            refine lv_iload_n hx hb dX9_givesAs_102 rfl (lv_at hl 2 rfl) ?_
            refine lv_iload hx hb dX9_givesAs_103 (lv_at hl 0 rfl) ?_
            refine lv_bipush (v := 9) hx hb dX9_givesAs_105 (by decide) ?_
            refine lv_icmp_le (tgt := 115) hx hb dX9_givesAs_107 (by decide) (fun hc102 => ?_) (fun hc102 => ?_)
            · have hc102 : (z89).toInt ≤ 9 := i_le hc102 rfl rfl
              refine lv_iload hx hb dX9_givesAs_115 (lv_at hl 0 rfl) ?_
              obtain ⟨z105, e103⟩ : ∃ z : Int32, z6 + z89 = z := ⟨_, rfl⟩
              refine o_iadd (z := z105) hx hb dX9_givesAs_117 e103 ?_
              exact e_i X h hr hlk dX9_givesAs_118 ⟨rfl, trivial⟩
            · have hc102 : ¬ (z89).toInt ≤ 9 := i_nle hc102 rfl rfl
              exfalso; omega
          · refine lv_tableIn (tgt := 119) (off := 72) hx hb dX9_givesAs_47 (by rw [hq]; decide) (by rw [hq]; decide) (by rw [hq]; decide) (by decide) ?_
            refine lv_iload hx hb dX9_givesAs_119 (lv_at hl 1 rfl) ?_
            refine lv_iconst (v := 3) hx hb dX9_givesAs_121 (by decide) ?_
            obtain ⟨z108, e106⟩ : ∃ z : Int32, z63 + (3 : Int32) = z := ⟨_, rfl⟩
            refine o_iadd (z := z108) hx hb dX9_givesAs_122 e106 ?_
            exact e_i X h hr hlk dX9_givesAs_123 ⟨rfl, trivial⟩
        · refine lv_tableOut (tgt := 124) hx hb dX9_givesAs_47 (by omega) (by decide) ?_
          refine lv_iload_n hx hb dX9_givesAs_124 rfl (lv_at hl 2 rfl) ?_
          exact e_i X h hr hlk dX9_givesAs_125 ⟨rfl, trivial⟩

set_option maxHeartbeats 4000000 in
set_option maxRecDepth 100000 in
theorem c_M_losesAs (l : Launch) (G : va_G) (cI cB cZ cO : ClassId) (ad : Nat → Nat) (w : Nat → va_E)   (k : Int32) (q : Int32) (t : Int32)   : NI l G (tyq cI cB cZ cO) yX9_losesAs cX9_losesAs 4 (some .int) 0 0 74 ad w [.int k, .int q, .int t] (fun r w1 => w = w1 ∧ True) := by
  refine nk_i (own := "NoonShadeModel") rfl (by decide) (Nat.le_of_ble_eq_true rfl) ?_
  intro p e s m below meth c ls X hD hN hr hlk h hl
  have hx := X.1.1
  have hb := X.1.2.1
  have hown := X.1.2.2.2.1
  have hts := X.1.2.2.2.2
  have hl : lv_has ls 4 [(0, .int k), (1, .int q), (2, .int t)] := hl
  refine lv_iload_n hx hb dX9_losesAs_0 rfl (lv_at hl 2 rfl) ?_
  refine lv_bipush (v := 6) hx hb dX9_losesAs_1 (by decide) ?_
  refine lv_icmp_ge (tgt := 10) hx hb dX9_losesAs_3 (by decide) (fun hc1 => ?_) (fun hc1 => ?_)
  · have hc1 : 6 ≤ (t).toInt := i_le hc1 rfl rfl
    refine lv_iconst (v := 1) hx hb dX9_losesAs_10 (by decide) ?_
    refine lv_istore_n (lv' := [(3, .int 1), (0, .int k), (1, .int q), (2, .int t)]) hx hb dX9_losesAs_11 rfl hl (by decide) rfl (fun ls hl => ?_)
    refine lv_iload_n hx hb dX9_losesAs_12 rfl (lv_at hl 1 rfl) ?_
    by_cases hs2 : 1 ≤ (k).toInt ∧ (k).toInt ≤ 5
    · have ha3 : k = 1 ∨ k = 2 ∨ k = 3 ∨ k = 4 ∨ k = 5 := by simp only [fa_eq]; have := hs2; simp only [show ((1 : Int32).toInt = 1) from rfl, show ((2 : Int32).toInt = 2) from rfl, show ((3 : Int32).toInt = 3) from rfl, show ((4 : Int32).toInt = 4) from rfl, show ((5 : Int32).toInt = 5) from rfl]; omega
      rcases ha3 with hq | hq | hq | hq | hq
      · refine lv_tableIn (tgt := 48) (off := 35) hx hb dX9_losesAs_13 (by rw [hq]; decide) (by rw [hq]; decide) (by rw [hq]; decide) (by decide) ?_
        refine lv_iconst (v := 3) hx hb dX9_losesAs_48 (by decide) ?_
        exact e_i X h hr hlk dX9_losesAs_49 ⟨rfl, trivial⟩
      · refine lv_tableIn (tgt := 50) (off := 37) hx hb dX9_losesAs_13 (by rw [hq]; decide) (by rw [hq]; decide) (by rw [hq]; decide) (by decide) ?_
        refine lv_iload_n hx hb dX9_losesAs_50 rfl (lv_at hl 0 rfl) ?_
        exact e_i X h hr hlk dX9_losesAs_51 ⟨rfl, trivial⟩
      · refine lv_tableIn (tgt := 52) (off := 39) hx hb dX9_losesAs_13 (by rw [hq]; decide) (by rw [hq]; decide) (by rw [hq]; decide) (by decide) ?_
        refine lv_iconst (v := 3) hx hb dX9_losesAs_52 (by decide) ?_
        refine lv_iload_n hx hb dX9_losesAs_53 rfl (lv_at hl 2 rfl) ?_
        refine lv_bipush (v := 10) hx hb dX9_losesAs_54 (by decide) ?_
        obtain ⟨z6, e4⟩ : ∃ z : Int32, q / (10 : Int32) = z := ⟨_, rfl⟩
        refine o_idiv (z := z6) hx hb dX9_losesAs_56 (by decide) e4 ?_
        obtain ⟨z9, e7⟩ : ∃ z : Int32, (3 : Int32) + z6 = z := ⟨_, rfl⟩
        refine o_iadd (z := z9) hx hb dX9_losesAs_57 e7 ?_
        exact e_i X h hr hlk dX9_losesAs_58 ⟨rfl, trivial⟩
      · refine lv_tableIn (tgt := 59) (off := 46) hx hb dX9_losesAs_13 (by rw [hq]; decide) (by rw [hq]; decide) (by rw [hq]; decide) (by decide) ?_
        refine lv_iload_n hx hb dX9_losesAs_59 rfl (lv_at hl 2 rfl) ?_
        refine lv_iconst (v := 1) hx hb dX9_losesAs_60 (by decide) ?_
        obtain ⟨z12, e10⟩ : ∃ z : Int32, q + (1 : Int32) = z := ⟨_, rfl⟩
        refine o_iadd (z := z12) hx hb dX9_losesAs_61 e10 ?_
        refine lv_iconst (v := 2) hx hb dX9_losesAs_62 (by decide) ?_
        obtain ⟨z15, e13⟩ : ∃ z : Int32, z12 / (2 : Int32) = z := ⟨_, rfl⟩
        refine o_idiv (z := z15) hx hb dX9_losesAs_63 (by decide) e13 ?_
        exact e_i X h hr hlk dX9_losesAs_64 ⟨rfl, trivial⟩
      · refine lv_tableIn (tgt := 65) (off := 52) hx hb dX9_losesAs_13 (by rw [hq]; decide) (by rw [hq]; decide) (by rw [hq]; decide) (by decide) ?_
        refine lv_iload_n hx hb dX9_losesAs_65 rfl (lv_at hl 2 rfl) ?_
        refine lv_bipush (v := 20) hx hb dX9_losesAs_66 (by decide) ?_
        refine lv_icmp_lt (tgt := 75) hx hb dX9_losesAs_68 (by decide) (fun hc16 => ?_) (fun hc16 => ?_)
        · have hc16 : (q).toInt < 20 := i_lt hc16 rfl rfl
          refine lv_iload_n hx hb dX9_losesAs_75 rfl (lv_at hl 0 rfl) ?_
          exact e_i X h hr hlk dX9_losesAs_76 ⟨rfl, trivial⟩
        · have hc16 : ¬ (q).toInt < 20 := i_nlt hc16 rfl rfl
          refine lv_iconst (v := 0) hx hb dX9_losesAs_71 (by decide) ?_
          refine lv_goto (tgt := 76) hx hb dX9_losesAs_72 (by decide) ?_
          exact e_i X h hr hlk dX9_losesAs_76 ⟨rfl, trivial⟩
    · refine lv_tableOut (tgt := 77) hx hb dX9_losesAs_13 (by omega) (by decide) ?_
      refine lv_iconst (v := 1) hx hb dX9_losesAs_77 (by decide) ?_
      exact e_i X h hr hlk dX9_losesAs_78 ⟨rfl, trivial⟩
  · have hc1 : ¬ 6 ≤ (t).toInt := i_nle hc1 rfl rfl
    refine lv_iconst (v := 0) hx hb dX9_losesAs_6 (by decide) ?_
    refine lv_goto (tgt := 11) hx hb dX9_losesAs_7 (by decide) ?_
    refine lv_istore_n (lv' := [(3, .int 0), (0, .int k), (1, .int q), (2, .int t)]) hx hb dX9_losesAs_11 rfl hl (by decide) rfl (fun ls hl => ?_)
    refine lv_iload_n hx hb dX9_losesAs_12 rfl (lv_at hl 1 rfl) ?_
    by_cases hs17 : 1 ≤ (k).toInt ∧ (k).toInt ≤ 5
    · have ha18 : k = 1 ∨ k = 2 ∨ k = 3 ∨ k = 4 ∨ k = 5 := by simp only [fa_eq]; have := hs17; simp only [show ((1 : Int32).toInt = 1) from rfl, show ((2 : Int32).toInt = 2) from rfl, show ((3 : Int32).toInt = 3) from rfl, show ((4 : Int32).toInt = 4) from rfl, show ((5 : Int32).toInt = 5) from rfl]; omega
      rcases ha18 with hq | hq | hq | hq | hq
      · refine lv_tableIn (tgt := 48) (off := 35) hx hb dX9_losesAs_13 (by rw [hq]; decide) (by rw [hq]; decide) (by rw [hq]; decide) (by decide) ?_
        refine lv_iconst (v := 3) hx hb dX9_losesAs_48 (by decide) ?_
        exact e_i X h hr hlk dX9_losesAs_49 ⟨rfl, trivial⟩
      · refine lv_tableIn (tgt := 50) (off := 37) hx hb dX9_losesAs_13 (by rw [hq]; decide) (by rw [hq]; decide) (by rw [hq]; decide) (by decide) ?_
        refine lv_iload_n hx hb dX9_losesAs_50 rfl (lv_at hl 0 rfl) ?_
        exact e_i X h hr hlk dX9_losesAs_51 ⟨rfl, trivial⟩
      · refine lv_tableIn (tgt := 52) (off := 39) hx hb dX9_losesAs_13 (by rw [hq]; decide) (by rw [hq]; decide) (by rw [hq]; decide) (by decide) ?_
        refine lv_iconst (v := 3) hx hb dX9_losesAs_52 (by decide) ?_
        refine lv_iload_n hx hb dX9_losesAs_53 rfl (lv_at hl 2 rfl) ?_
        refine lv_bipush (v := 10) hx hb dX9_losesAs_54 (by decide) ?_
        obtain ⟨z21, e19⟩ : ∃ z : Int32, q / (10 : Int32) = z := ⟨_, rfl⟩
        refine o_idiv (z := z21) hx hb dX9_losesAs_56 (by decide) e19 ?_
        obtain ⟨z24, e22⟩ : ∃ z : Int32, (3 : Int32) + z21 = z := ⟨_, rfl⟩
        refine o_iadd (z := z24) hx hb dX9_losesAs_57 e22 ?_
        exact e_i X h hr hlk dX9_losesAs_58 ⟨rfl, trivial⟩
      · refine lv_tableIn (tgt := 59) (off := 46) hx hb dX9_losesAs_13 (by rw [hq]; decide) (by rw [hq]; decide) (by rw [hq]; decide) (by decide) ?_
        refine lv_iload_n hx hb dX9_losesAs_59 rfl (lv_at hl 2 rfl) ?_
        refine lv_iconst (v := 1) hx hb dX9_losesAs_60 (by decide) ?_
        obtain ⟨z27, e25⟩ : ∃ z : Int32, q + (1 : Int32) = z := ⟨_, rfl⟩
        refine o_iadd (z := z27) hx hb dX9_losesAs_61 e25 ?_
        refine lv_iconst (v := 2) hx hb dX9_losesAs_62 (by decide) ?_
        obtain ⟨z30, e28⟩ : ∃ z : Int32, z27 / (2 : Int32) = z := ⟨_, rfl⟩
        refine o_idiv (z := z30) hx hb dX9_losesAs_63 (by decide) e28 ?_
        exact e_i X h hr hlk dX9_losesAs_64 ⟨rfl, trivial⟩
      · refine lv_tableIn (tgt := 65) (off := 52) hx hb dX9_losesAs_13 (by rw [hq]; decide) (by rw [hq]; decide) (by rw [hq]; decide) (by decide) ?_
        refine lv_iload_n hx hb dX9_losesAs_65 rfl (lv_at hl 2 rfl) ?_
        refine lv_bipush (v := 20) hx hb dX9_losesAs_66 (by decide) ?_
        refine lv_icmp_lt (tgt := 75) hx hb dX9_losesAs_68 (by decide) (fun hc31 => ?_) (fun hc31 => ?_)
        · have hc31 : (q).toInt < 20 := i_lt hc31 rfl rfl
          refine lv_iload_n hx hb dX9_losesAs_75 rfl (lv_at hl 0 rfl) ?_
          exact e_i X h hr hlk dX9_losesAs_76 ⟨rfl, trivial⟩
        · have hc31 : ¬ (q).toInt < 20 := i_nlt hc31 rfl rfl
          refine lv_iconst (v := 0) hx hb dX9_losesAs_71 (by decide) ?_
          refine lv_goto (tgt := 76) hx hb dX9_losesAs_72 (by decide) ?_
          exact e_i X h hr hlk dX9_losesAs_76 ⟨rfl, trivial⟩
    · refine lv_tableOut (tgt := 77) hx hb dX9_losesAs_13 (by omega) (by decide) ?_
      refine lv_iconst (v := 1) hx hb dX9_losesAs_77 (by decide) ?_
      exact e_i X h hr hlk dX9_losesAs_78 ⟨rfl, trivial⟩

