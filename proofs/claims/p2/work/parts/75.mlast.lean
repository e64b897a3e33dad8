set_option maxHeartbeats 4000000 in
set_option maxRecDepth 100000 in
theorem c_M_type_ (l : Launch) (G : va_G) (cI cB cZ cO : ClassId) (ad : Nat → Nat) (w : Nat → va_E) (x y : Int64) (mb bl ta tl tk va : Int32) (ok : OK cI cB cZ cO ad w) (i : Int32)  (pf : w 64 = .inr (7, [.ref (ad 65), .ref (ad 66), .ref (ad 67), .ref (ad 68), .long x, .long y, .ref (ad 69), .int mb, .ref (ad 70), .ref (ad 71), .int bl, .int ta, .int tl, .int tk, .int va, .ref (ad 72), .ref (ad 73)])) (hbl0 : 0 ≤ bl.toInt) (hbl1 : bl.toInt ≤ 150) : NI l G (tyq cI cB cZ cO) yX9_type cX9_type 2 (some .int) 1 25 74 ad w [.ref (ad 64), .int i] (fun r w1 => OK cI cB cZ cO ad w1 ∧ KV w w1 ∧ ((¬ (0 ≤ i.toInt ∧ i.toInt ≤ 127) ∧ KN w w1 ∧ r = -2) ∨ ((0 ≤ i.toInt ∧ i.toInt ≤ 127) ∧ 150 ≤ bl.toInt ∧ KN w w1 ∧ r = -4) ∨ ((0 ≤ i.toInt ∧ i.toInt ≤ 127) ∧ bl.toInt < 150 ∧ r = bl + 1 ∧ pM (w1 64) = .inr (7, [.int (bl + 1)])))) := by
  refine nk_i (own := "NoonShadeModel") rfl (by decide) (Nat.le_of_ble_eq_true rfl) ?_
  intro p e s m below meth c ls X hD hN hr hlk h hl
  have hx := X.1.1
  have hb := X.1.2.1
  have hown := X.1.2.2.2.1
  have hts := X.1.2.2.2.2
  have hl : lv_has ls 2 [(0, .ref (ad 64)), (1, .int i)] := hl
  refine lv_iload_n hx hb dX9_type_0 rfl (lv_at hl 1 rfl) ?_
  obtain ⟨z1, e2⟩ : ∃ z : Int64, i.toInt64 = z := ⟨_, rfl⟩
  have tz1 : z1.toInt = (i).toInt := by rw [← e2]; exact Int32.toInt_toInt64 _
  refine lv_i2l (v := z1) hx hb dX9_type_1 e2 ?_
  refine lv_lconst (v := 0) hx hb dX9_type_2 (by decide) ?_
  refine lv_ldc2 (v := 127) hx hb hown (hts _ kv_716) dX9_type_3 ?_
  refine n_Si (na := 3) (As := [.long z1, .long 0, .long 127]) (rest := []) X hD hN h (c_M_in l G cI cB cZ cO ad w z1 (0 : Int64) (127 : Int64) ((i).toInt) 0 127 tz1 rfl rfl) ⟨kv_468, kv_469, kv_470, kv_471⟩ ⟨by decide, by decide, by decide⟩ ⟨Nat.le_of_ble_eq_true rfl, Nat.le_of_ble_eq_true rfl⟩ ⟨Nat.zero_le _, Nat.zero_le _⟩ rfl hl.1 rfl (Nat.le_of_ble_eq_true rfl) dX9_type_6 (fun r3 w4 H locs hp5 h => ?_)
  obtain ⟨rfl, hq6⟩ := hp5
  rcases hq6 with ⟨hq7, hq8, rfl⟩ | ⟨hq6, rfl⟩
  · refine lv_if_ne (tgt := 19) hx hb dX9_type_9 (by decide) (fun _ => ?_) (fun hc => absurd hc (by decide))
    refine lv_aload_n hx hb dX9_type_19 rfl (lv_at hl 0 rfl) ?_
    refine r_get kc9 X h 64 10 (by decide) rfl pf (by decide) kv_539 rfl dX9_type_20 ?_
    refine lv_sipush (v := 150) hx hb dX9_type_23 (by decide) ?_
    refine lv_icmp_ne (tgt := 34) hx hb dX9_type_26 (by decide) (fun hc9 => ?_) (fun hc9 => ?_)
    · have hc9 : ¬ (bl).toInt = 150 := i_ne hc9 rfl rfl
      refine lv_aload_n hx hb dX9_type_34 rfl (lv_at hl 0 rfl) ?_
      refine r_get kc9 X h 64 9 (by decide) rfl pf (by decide) kv_667 rfl dX9_type_35 ?_
      refine lv_aload_n hx hb dX9_type_38 rfl (lv_at hl 0 rfl) ?_
      refine r_get kc9 X h 64 10 (by decide) rfl pf (by decide) kv_539 rfl dX9_type_39 ?_
      refine lv_iload_n hx hb dX9_type_42 rfl (lv_at hl 1 rfl) ?_
      obtain ⟨g11, f10, p12⟩ := (show sA cI 150 (anyA) (w 71) from ok 71 (by decide))
      have f13 : w 71 = .inl (cI, 150, .inl g11) := f10
      obtain ⟨g14, e15⟩ : ∃ z : Nat → Int32, upd g11 (bl).toNatClampNeg i = z := ⟨_, rfl⟩
      have p16 : anyA g14 := trivial
      refine o_iast (f1 := g14) X hD h 71 0 (by decide) rfl f13 rfl (in_of (by omega) (by omega)) e15 dX9_type_43 (fun H locs w17 e18 h => ?_)
      have f19 : w17 71 = .inl (cI, 150, .inl g14) := (congrFun e18 _).trans (va_up_self _ _ _)
      have ok20 : OK cI cB cZ cO ad w17 := OK.up ok e18 (sA_mk p16)
      have kx21 : KV w w17 := KV.up KV.rf e18 f13 (Or.inr (Or.inl rfl))
      refine lv_aload_n hx hb dX9_type_44 rfl (lv_at hl 0 rfl) ?_
      refine lv_dup hx hb dX9_type_45 rfl ?_
      have f22 : w17 64 = .inr (7, [.ref (ad 65), .ref (ad 66), .ref (ad 67), .ref (ad 68), .long x, .long y, .ref (ad 69), .int mb, .ref (ad 70), .ref (ad 71), .int bl, .int ta, .int tl, .int tk, .int va, .ref (ad 72), .ref (ad 73)]) := by rw [e18, va_up_ne _ _ (by decide)]; exact pf
      refine r_get kc9 X h 64 10 (by decide) rfl f22 (by decide) kv_539 rfl dX9_type_46 ?_
      refine lv_iconst (v := 1) hx hb dX9_type_49 (by decide) ?_
      obtain ⟨z25, e23, t24⟩ := x_add (x := bl) (y := (1 : Int32)) (a := (bl).toInt) (b := 1) rfl rfl (by omega) (by omega)
      refine o_iadd (z := z25) hx hb dX9_type_50 e23 ?_
      refine r_put kc9 X hD h 64 10 (by decide) rfl f22 (by decide) kv_539 rfl rfl rfl (Nat.le_of_ble_eq_true rfl) dX9_type_51 (fun H locs w26 e27 h => ?_)
      have f28 : w26 64 = .inr (7, [.ref (ad 65), .ref (ad 66), .ref (ad 67), .ref (ad 68), .long x, .long y, .ref (ad 69), .int mb, .ref (ad 70), .ref (ad 71), .int z25, .int ta, .int tl, .int tk, .int va, .ref (ad 72), .ref (ad 73)]) := (congrFun e27 _).trans (va_up_self _ _ _)
      have ok29 : OK cI cB cZ cO ad w26 := OK.up ok20 e27 (sM_mk (by omega) (by omega))
      have kx30 : KV w w26 := KV.up kx21 e27 f22 (Or.inl rfl)
      refine lv_aload_n hx hb dX9_type_54 rfl (lv_at hl 0 rfl) ?_
      refine r_get kc9 X h 64 10 (by decide) rfl f28 (by decide) kv_539 rfl dX9_type_55 ?_
      exact e_i X h hr hlk dX9_type_58 ⟨ok29, kx30, Or.inr (Or.inr ⟨by omega, by omega, by first | rfl | (subst_vars; rfl), by rw [f28]; first | rfl | (subst_vars; rfl)⟩)⟩
    · have hc9 : (bl).toInt = 150 := i_eq hc9 rfl rfl
      refine lv_aload_n hx hb dX9_type_29 rfl (lv_at hl 0 rfl) ?_
      refine n_Vi (na := 0) (As := []) (rest := []) X hD hN h rfl (c_M_full l G cI cB cZ cO ad w  ok   ) ⟨kv_644, kv_645, kv_646, kv_470, kv_647⟩ rfl ⟨by decide, by decide, by decide⟩ ⟨Nat.le_of_ble_eq_true rfl, Nat.le_of_ble_eq_true rfl⟩ ⟨Nat.zero_le _, Nat.zero_le _⟩ (by decide) pf rfl rfl hl.1 rfl (Nat.le_of_ble_eq_true rfl) dX9_type_30 (fun r31 w32 H locs hp33 h => ?_)
      have kn34 : KN w w32 := hp33.2.1.n
      obtain ⟨ok36, kk37, hr35⟩ := hp33
      have kx38 : KV w w32 := (KN.v kk37.n)
      subst hr35
      exact e_i X h hr hlk dX9_type_33 ⟨ok36, kx38, Or.inr (Or.inl ⟨by omega, by omega, kn34, rfl⟩)⟩
  · refine lv_if_ne (tgt := 19) hx hb dX9_type_9 (by decide) (fun hc => absurd (by decide) hc) (fun _ => ?_)
    refine lv_aload_n hx hb dX9_type_12 rfl (lv_at hl 0 rfl) ?_
    refine lv_bipush (v := (-2)) hx hb dX9_type_13 (by decide) ?_
    refine n_Vi (na := 1) (As := [.int (-2)]) (rest := []) X hD hN h rfl (c_M_bad l G cI cB cZ cO ad w  ok ((-2) : Int32)  ) ⟨kv_553, kv_554, kv_555, kv_470, kv_556⟩ rfl ⟨by decide, by decide, by decide⟩ ⟨Nat.le_of_ble_eq_true rfl, Nat.le_of_ble_eq_true rfl⟩ ⟨Nat.zero_le _, Nat.zero_le _⟩ (by decide) pf rfl rfl hl.1 rfl (Nat.le_of_ble_eq_true rfl) dX9_type_15 (fun r39 w40 H locs hp41 h => ?_)
    have kn42 : KN w w40 := hp41.2.1.n
    obtain ⟨ok44, kk45, hr43⟩ := hp41
    have kx46 : KV w w40 := (KN.v kk45.n)
    subst hr43
    exact e_i X h hr hlk dX9_type_18 ⟨ok44, kx46, Or.inl ⟨by omega, kn42, rfl⟩⟩

set_option maxHeartbeats 4000000 in
set_option maxRecDepth 100000 in
theorem c_M_clear_ (l : Launch) (G : va_G) (cI cB cZ cO : ClassId) (ad : Nat → Nat) (w : Nat → va_E) (x y : Int64) (mb bl ta tl tk va : Int32) (ok : OK cI cB cZ cO ad w)   (pf : w 64 = .inr (7, [.ref (ad 65), .ref (ad 66), .ref (ad 67), .ref (ad 68), .long x, .long y, .ref (ad 69), .int mb, .ref (ad 70), .ref (ad 71), .int bl, .int ta, .int tl, .int tk, .int va, .ref (ad 72), .ref (ad 73)])) (hbl0 : 0 ≤ bl.toInt) (hbl1 : bl.toInt ≤ 150) : NI l G (tyq cI cB cZ cO) yX9_clear cX9_clear 2 (some .int) 0 0 74 ad w [.ref (ad 64)] (fun r w1 => OK cI cB cZ cO ad w1 ∧ KV w w1 ∧ bl = r ∧ pM (w1 64) = .inr (7, [.int 0])) := by
  refine nk_i (own := "NoonShadeModel") rfl (by decide) (Nat.le_of_ble_eq_true rfl) ?_
  intro p e s m below meth c ls X hD hN hr hlk h hl
  have hx := X.1.1
  have hb := X.1.2.1
  have hown := X.1.2.2.2.1
  have hts := X.1.2.2.2.2
  have hl : lv_has ls 2 [(0, .ref (ad 64))] := hl
  refine lv_aload_n hx hb dX9_clear_0 rfl (lv_at hl 0 rfl) ?_
  refine r_get kc9 X h 64 10 (by decide) rfl pf (by decide) kv_539 rfl dX9_clear_1 ?_
  refine lv_istore_n (lv' := [(1, .int bl), (0, .ref (ad 64))]) hx hb dX9_clear_4 rfl hl (by decide) rfl (fun ls hl => ?_)
  refine lv_aload_n hx hb dX9_clear_5 rfl (lv_at hl 1 rfl) ?_
  refine lv_iconst (v := 0) hx hb dX9_clear_6 (by decide) ?_
  refine r_put kc9 X hD h 64 10 (by decide) rfl pf (by decide) kv_539 rfl rfl rfl (Nat.le_of_ble_eq_true rfl) dX9_clear_7 (fun H locs w1 e2 h => ?_)
  have f3 : w1 64 = .inr (7, [.ref (ad 65), .ref (ad 66), .ref (ad 67), .ref (ad 68), .long x, .long y, .ref (ad 69), .int mb, .ref (ad 70), .ref (ad 71), .int 0, .int ta, .int tl, .int tk, .int va, .ref (ad 72), .ref (ad 73)]) := (congrFun e2 _).trans (va_up_self _ _ _)
  have ok4 : OK cI cB cZ cO ad w1 := OK.up ok e2 (sM_mk (by decide) (by decide))
  have kx5 : KV w w1 := KV.up KV.rf e2 pf (Or.inl rfl)
  refine lv_iload_n hx hb dX9_clear_10 rfl (lv_at hl 0 rfl) ?_
  exact e_i X h hr hlk dX9_clear_11 ⟨ok4, kx5, ⟨rfl, by rw [f3]; rfl⟩⟩

set_option maxHeartbeats 4000000 in
set_option maxRecDepth 100000 in
theorem c_M_image0_ (l : Launch) (G : va_G) (cI cB cZ cO : ClassId) (ad : Nat → Nat) (w : Nat → va_E) (f : Nat → Int32) (ok : OK cI cB cZ cO ad w)   (pf : w 67 = .inl (cZ, 2, .inl f)) (pr : rgA 0 1 f) : NI l G (tyq cI cB cZ cO) yX9_image cX9_image 3 (some .int) 1 25 74 ad w [.ref (ad 64), .int 0] (fun r w1 => OK cI cB cZ cO ad w1 ∧ KP w w1 ∧ r = 1 ∧ w1 67 = .inl (cZ, 2, .inl (upd f 0 1))) := by
  refine nk_i (own := "NoonShadeModel") rfl (by decide) (Nat.le_of_ble_eq_true rfl) ?_
  intro p e s m below meth c ls X hD hN hr hlk h hl
  have hx := X.1.1
  have hb := X.1.2.1
  have hown := X.1.2.2.2.1
  have hts := X.1.2.2.2.2
  have hl : lv_has ls 3 [(0, .ref (ad 64)), (1, .int 0)] := hl
  refine lv_iload_n hx hb dX9_image_0 rfl (lv_at hl 1 rfl) ?_
  refine lv_i2l (v := 0) hx hb dX9_image_1 rfl ?_
  refine lv_lconst (v := 0) hx hb dX9_image_2 (by decide) ?_
  refine lv_lconst (v := 1) hx hb dX9_image_3 (by decide) ?_
  refine n_Si (na := 3) (As := [.long 0, .long 0, .long 1]) (rest := []) X hD hN h (c_M_in l G cI cB cZ cO ad w (0 : Int64) (0 : Int64) (1 : Int64) 0 0 1 rfl rfl rfl) ⟨kv_468, kv_469, kv_470, kv_471⟩ ⟨by decide, by decide, by decide⟩ ⟨Nat.le_of_ble_eq_true rfl, Nat.le_of_ble_eq_true rfl⟩ ⟨Nat.zero_le _, Nat.zero_le _⟩ rfl hl.1 rfl (Nat.le_of_ble_eq_true rfl) dX9_image_4 (fun r1 w2 H locs hp3 h => ?_)
  obtain ⟨rfl, hq4⟩ := hp3
  rcases hq4 with ⟨hq5, hq6, rfl⟩ | ⟨hq4, rfl⟩
  · refine lv_if_ne (tgt := 17) hx hb dX9_image_7 (by decide) (fun _ => ?_) (fun hc => absurd hc (by decide))
    refine lv_iconst (v := 0) hx hb dX9_image_17 (by decide) ?_
    refine lv_istore_n (lv' := [(2, .int 0), (0, .ref (ad 64)), (1, .int 0)]) hx hb dX9_image_18 rfl hl (by decide) rfl (fun ls hl => ?_)
    have hloop9 : ∀ (d10 : Nat) (L7 : Int32) (wL8 : Nat → va_E) (H : Heap) (locs : List Loc) (ls : Array Slot), 0 ≤ L7.toInt → L7.toInt ≤ 177 → OK cI cB cZ cO ad wL8 → KP w wL8 → wL8 67 = .inl (cZ, 2, .inl f) → 177 - L7.toInt < (d10 : Int) → St G 74 ad (wA 74 ad s.heap.size) s.heap wL8 H locs → lv_has ls 3 [(2, .int L7), (0, .ref (ad 64)), (1, .int 0)] → W p l e { frames := 1, cells := 0, slots := 0, locals := 25 } s m [.ref (ad 64), .int 0].toArray below meth c H locs 0 0 (MQ below (va_Qi (fun r w1 => OK cI cB cZ cO ad w1 ∧ KP w w1 ∧ r = 1 ∧ w1 67 = .inl (cZ, 2, .inl (upd f 0 1))) (Aft G 74 ad) (wA 74 ad s.heap.size)) [.ref (ad 64), .int 0].toArray s 0 0 (wA 74 ad s.heap.size)) (F0 m 19 ls []) := by
      intro d10
      induction d10 with
      | zero => intro L7 wL8 H locs ls hi13 hi14 ok15 kx16 cf17 hm12 h hl; exfalso; omega
      | succ d10 ih11 =>
        intro L7 wL8 H locs ls hi13 hi14 ok15 kx16 cf17 hm12 h hl
        refine lv_iload_n hx hb dX9_image_19 rfl (lv_at hl 0 rfl) ?_
        refine lv_sipush (v := 177) hx hb dX9_image_20 (by decide) ?_
        refine lv_icmp_ge (tgt := 50) hx hb dX9_image_23 (by decide) (fun hc19 => ?_) (fun hc19 => ?_)
        · have hc19 : 177 ≤ (L7).toInt := i_le hc19 rfl rfl
          refine lv_aload_n hx hb dX9_image_50 rfl (lv_at hl 1 rfl) ?_
          obtain ⟨x21, x22, t23, t24, t25, t26, t27, t28, f20, h29, h30⟩ := (show sM ad (wL8 64) from ok15 64 (by decide))
          have f31 : wL8 64 = .inr (7, [.ref (ad 65), .ref (ad 66), .ref (ad 67), .ref (ad 68), .long x21, .long x22, .ref (ad 69), .int t23, .ref (ad 70), .ref (ad 71), .int t24, .int t25, .int t26, .int t27, .int t28, .ref (ad 72), .ref (ad 73)]) := f20
          refine r_get kc9 X h 64 2 (by decide) rfl f31 (by decide) kv_717 rfl dX9_image_51 ?_
          refine lv_iload_n hx hb dX9_image_54 rfl (lv_at hl 2 rfl) ?_
          refine lv_iconst (v := 1) hx hb dX9_image_55 (by decide) ?_
          obtain ⟨g32, e33⟩ : ∃ z : Nat → Int32, upd f 0 (vp_nar .boolean (1 : Int32)) = z := ⟨_, rfl⟩
          have p34 : rgA 0 1 g32 := rgA_upd pr e33 (by decide) (by decide)
          refine o_zast (f1 := g32) X hD h 67 2 (by decide) rfl cf17 rfl (by unfold vp_in; decide) e33 dX9_image_56 (fun H locs w35 e36 h => ?_)
          have f37 : w35 67 = .inl (cZ, 2, .inl g32) := (congrFun e36 _).trans (va_up_self _ _ _)
          have ok38 : OK cI cB cZ cO ad w35 := OK.up ok15 e36 (sA_mk p34)
          have kx39 : KP w w35 := KP.up kx16 e36 cf17 (Or.inl rfl)
          refine lv_iconst (v := 1) hx hb dX9_image_57 (by decide) ?_
          exact e_i X h hr hlk dX9_image_58 ⟨ok38, kx39, ⟨rfl, by rw [f37, ← e33]; first | rfl | (congr 3)⟩⟩
        · have hc19 : ¬ 177 ≤ (L7).toInt := i_nle hc19 rfl rfl
          refine lv_aload_n hx hb dX9_image_26 rfl (lv_at hl 1 rfl) ?_
          obtain ⟨x41, x42, t43, t44, t45, t46, t47, t48, f40, h49, h50⟩ := (show sM ad (wL8 64) from ok15 64 (by decide))
          have f51 : wL8 64 = .inr (7, [.ref (ad 65), .ref (ad 66), .ref (ad 67), .ref (ad 68), .long x41, .long x42, .ref (ad 69), .int t43, .ref (ad 70), .ref (ad 71), .int t44, .int t45, .int t46, .int t47, .int t48, .ref (ad 72), .ref (ad 73)]) := f40
          refine r_get kc9 X h 64 1 (by decide) rfl f51 (by decide) kv_718 rfl dX9_image_27 ?_
          refine lv_sipush (v := 177) hx hb dX9_image_30 (by decide) ?_
          refine lv_iload_n hx hb dX9_image_33 rfl (lv_at hl 2 rfl) ?_
          refine o_imul (z := 0) hx hb dX9_image_34 rfl ?_
          refine lv_iload_n hx hb dX9_image_35 rfl (lv_at hl 0 rfl) ?_
          obtain ⟨z54, e52, t53⟩ := x_add (x := (0 : Int32)) (y := L7) (a := 0) (b := (L7).toInt) rfl rfl (by omega) (by omega)
          refine o_iadd (z := z54) hx hb dX9_image_36 e52 ?_
          refine lv_aload_n hx hb dX9_image_37 rfl (lv_at hl 1 rfl) ?_
          refine r_get kc9 X h 64 0 (by decide) rfl f51 (by decide) kv_467 rfl dX9_image_38 ?_
          refine lv_iload_n hx hb dX9_image_41 rfl (lv_at hl 0 rfl) ?_
          obtain ⟨g56, f55, p57⟩ := (show sA cI 177 (alA) (wL8 65) from ok15 65 (by decide))
          have f58 : wL8 65 = .inl (cI, 177, .inl g56) := f55
          obtain ⟨v59, e60⟩ : ∃ z : Int32, g56 (L7).toNatClampNeg = z := ⟨_, rfl⟩
          refine o_iald (v := v59) X h 65 0 (by decide) rfl f58 rfl (in_of (by omega) (by omega)) e60 dX9_image_42 ?_
          obtain ⟨g63, f62, p64⟩ := (show sA cI 354 (keA) (wL8 66) from ok15 66 (by decide))
          have f65 : wL8 66 = .inl (cI, 354, .inl g63) := f62
          obtain ⟨g66, e67⟩ : ∃ z : Nat → Int32, upd g63 (z54).toNatClampNeg v59 = z := ⟨_, rfl⟩
          have p68 : keA g66 := keA_upd0 p57 p64 e60 e67 (by have := cl_of (x := z54) (by omega); have := cl_of (x := L7) (by omega); omega) (by have := cl_of (x := L7) (by omega); omega)
          refine o_iast (f1 := g66) X hD h 66 0 (by decide) rfl f65 rfl (in_of (by omega) (by omega)) e67 dX9_image_43 (fun H locs w69 e70 h => ?_)
          have f71 : w69 66 = .inl (cI, 354, .inl g66) := (congrFun e70 _).trans (va_up_self _ _ _)
          have ok72 : OK cI cB cZ cO ad w69 := OK.up ok15 e70 (sA_mk p68)
          have kx73 : KP w w69 := KP.up kx16 e70 f65 (Or.inr rfl)
          obtain ⟨z74, e75, t76⟩ := x_add (x := L7) (y := 1) (a := L7.toInt) (b := 1) rfl rfl (by omega) (by omega)
          refine lv_iinc (v := z74) (lv' := [(2, .int z74), (0, .ref (ad 64)), (1, .int 0)]) hx hb dX9_image_44 hl (k := 0) rfl e75 (by decide) rfl (fun ls hl => ?_)
          refine lv_goto (tgt := 19) hx hb dX9_image_47 (by decide) ?_
          have f77 : w69 67 = .inl (cZ, 2, .inl f) := by rw [e70, va_up_ne _ _ (by decide)]; exact cf17
          exact ih11  z74 w69 _ _ _ (by omega) (by omega) ok72 kx73 f77 (by omega) h (lv_sub hl [0, 1, 2] rfl)
    exact hloop9 178 (0 : Int32) w _ _ _ (by have q0 : (0 : Int32).toInt = 0 := rfl; omega) (by have q0 : (0 : Int32).toInt = 0 := rfl; omega) ok KP.rf pf (by have q0 : (0 : Int32).toInt = 0 := rfl; omega) h (lv_sub hl [0, 1, 2] rfl)
  · exfalso; omega

set_option maxHeartbeats 4000000 in
set_option maxRecDepth 100000 in
theorem c_M_from0_ (l : Launch) (G : va_G) (cI cB cZ cO : ClassId) (ad : Nat → Nat) (w : Nat → va_E) (f : Nat → Int32) (ok : OK cI cB cZ cO ad w)   (pf : w 67 = .inl (cZ, 2, .inl f)) (pr : rgA 0 1 f) : NI l G (tyq cI cB cZ cO) yX9_from cX9_from 3 (some .int) 1 25 74 ad w [.ref (ad 64), .int 0] (fun r w1 => OK cI cB cZ cO ad w1 ∧ KN w w1 ∧ (((f 0).toInt = 0 ∧ r = -3) ∨ (¬ (f 0).toInt = 0 ∧ r = 1))) := by
  refine nk_i (own := "NoonShadeModel") rfl (by decide) (Nat.le_of_ble_eq_true rfl) ?_
  intro p e s m below meth c ls X hD hN hr hlk h hl
  have hx := X.1.1
  have hb := X.1.2.1
  have hown := X.1.2.2.2.1
  have hts := X.1.2.2.2.2
  have hl : lv_has ls 3 [(0, .ref (ad 64)), (1, .int 0)] := hl
  refine lv_iload_n hx hb dX9_from_0 rfl (lv_at hl 1 rfl) ?_
  refine lv_i2l (v := 0) hx hb dX9_from_1 rfl ?_
  refine lv_lconst (v := 0) hx hb dX9_from_2 (by decide) ?_
  refine lv_lconst (v := 1) hx hb dX9_from_3 (by decide) ?_
  refine n_Si (na := 3) (As := [.long 0, .long 0, .long 1]) (rest := []) X hD hN h (c_M_in l G cI cB cZ cO ad w (0 : Int64) (0 : Int64) (1 : Int64) 0 0 1 rfl rfl rfl) ⟨kv_468, kv_469, kv_470, kv_471⟩ ⟨by decide, by decide, by decide⟩ ⟨Nat.le_of_ble_eq_true rfl, Nat.le_of_ble_eq_true rfl⟩ ⟨Nat.zero_le _, Nat.zero_le _⟩ rfl hl.1 rfl (Nat.le_of_ble_eq_true rfl) dX9_from_4 (fun r1 w2 H locs hp3 h => ?_)
  obtain ⟨rfl, hq4⟩ := hp3
  rcases hq4 with ⟨hq5, hq6, rfl⟩ | ⟨hq4, rfl⟩
  · refine lv_if_ne (tgt := 17) hx hb dX9_from_7 (by decide) (fun _ => ?_) (fun hc => absurd hc (by decide))
    refine lv_aload_n hx hb dX9_from_17 rfl (lv_at hl 0 rfl) ?_
    obtain ⟨x8, x9, t10, t11, t12, t13, t14, t15, f7, h16, h17⟩ := (show sM ad (w 64) from ok 64 (by decide))
    have f18 : w 64 = .inr (7, [.ref (ad 65), .ref (ad 66), .ref (ad 67), .ref (ad 68), .long x8, .long x9, .ref (ad 69), .int t10, .ref (ad 70), .ref (ad 71), .int t11, .int t12, .int t13, .int t14, .int t15, .ref (ad 72), .ref (ad 73)]) := f7
    refine r_get kc9 X h 64 2 (by decide) rfl f18 (by decide) kv_717 rfl dX9_from_18 ?_
    refine lv_iload_n hx hb dX9_from_21 rfl (lv_at hl 1 rfl) ?_
    obtain ⟨v19, e20⟩ : ∃ z : Int32, f 0 = z := ⟨_, rfl⟩
    have h21 := rgA_rd pr e20
    refine o_zald (v := v19) X h 67 2 (by decide) rfl pf rfl (by unfold vp_in; decide) e20 dX9_from_22 ?_
    refine lv_if_ne (tgt := 31) hx hb dX9_from_23 (by decide) (fun hc22 => ?_) (fun hc22 => ?_)
    · have hc22 : ¬ (v19).toInt = 0 := i_ne hc22 rfl rfl
      refine lv_iconst (v := 0) hx hb dX9_from_31 (by decide) ?_
      refine lv_istore_n (lv' := [(2, .int 0), (0, .ref (ad 64)), (1, .int 0)]) hx hb dX9_from_32 rfl hl (by decide) rfl (fun ls hl => ?_)
      have hloop25 : ∀ (d26 : Nat) (L23 : Int32) (wL24 : Nat → va_E) (H : Heap) (locs : List Loc) (ls : Array Slot), 0 ≤ L23.toInt → L23.toInt ≤ 177 → OK cI cB cZ cO ad wL24 → KN w wL24 → 177 - L23.toInt < (d26 : Int) → St G 74 ad (wA 74 ad s.heap.size) s.heap wL24 H locs → lv_has ls 3 [(2, .int L23), (0, .ref (ad 64)), (1, .int 0)] → W p l e { frames := 1, cells := 0, slots := 0, locals := 25 } s m [.ref (ad 64), .int 0].toArray below meth c H locs 0 0 (MQ below (va_Qi (fun r w1 => OK cI cB cZ cO ad w1 ∧ KN w w1 ∧ (((f 0).toInt = 0 ∧ r = -3) ∨ (¬ (f 0).toInt = 0 ∧ r = 1))) (Aft G 74 ad) (wA 74 ad s.heap.size)) [.ref (ad 64), .int 0].toArray s 0 0 (wA 74 ad s.heap.size)) (F0 m 33 ls []) := by
        intro d26
        induction d26 with
        | zero => intro L23 wL24 H locs ls hi29 hi30 ok31 kx32 hm28 h hl; exfalso; omega
        | succ d26 ih27 =>
          intro L23 wL24 H locs ls hi29 hi30 ok31 kx32 hm28 h hl
          refine lv_iload_n hx hb dX9_from_33 rfl (lv_at hl 0 rfl) ?_
          refine lv_sipush (v := 177) hx hb dX9_from_34 (by decide) ?_
          refine lv_icmp_ge (tgt := 64) hx hb dX9_from_37 (by decide) (fun hc34 => ?_) (fun hc34 => ?_)
          · have hc34 : 177 ≤ (L23).toInt := i_le hc34 rfl rfl
            refine lv_iconst (v := 1) hx hb dX9_from_64 (by decide) ?_
            exact e_i X h hr hlk dX9_from_65 ⟨ok31, kx32, Or.inr ⟨by rw [e20]; omega, rfl⟩⟩
          · have hc34 : ¬ 177 ≤ (L23).toInt := i_nle hc34 rfl rfl
            refine lv_aload_n hx hb dX9_from_40 rfl (lv_at hl 1 rfl) ?_
            obtain ⟨x36, x37, t38, t39, t40, t41, t42, t43, f35, h44, h45⟩ := (show sM ad (wL24 64) from ok31 64 (by decide))
            have f46 : wL24 64 = .inr (7, [.ref (ad 65), .ref (ad 66), .ref (ad 67), .ref (ad 68), .long x36, .long x37, .ref (ad 69), .int t38, .ref (ad 70), .ref (ad 71), .int t39, .int t40, .int t41, .int t42, .int t43, .ref (ad 72), .ref (ad 73)]) := f35
            refine r_get kc9 X h 64 0 (by decide) rfl f46 (by decide) kv_467 rfl dX9_from_41 ?_
            refine lv_iload_n hx hb dX9_from_44 rfl (lv_at hl 0 rfl) ?_
            refine lv_aload_n hx hb dX9_from_45 rfl (lv_at hl 1 rfl) ?_
            refine r_get kc9 X h 64 1 (by decide) rfl f46 (by decide) kv_718 rfl dX9_from_46 ?_
            refine lv_sipush (v := 177) hx hb dX9_from_49 (by decide) ?_
            refine lv_iload_n hx hb dX9_from_52 rfl (lv_at hl 2 rfl) ?_
            refine o_imul (z := 0) hx hb dX9_from_53 rfl ?_
            refine lv_iload_n hx hb dX9_from_54 rfl (lv_at hl 0 rfl) ?_
            obtain ⟨z49, e47, t48⟩ := x_add (x := (0 : Int32)) (y := L23) (a := 0) (b := (L23).toInt) rfl rfl (by omega) (by omega)
            refine o_iadd (z := z49) hx hb dX9_from_55 e47 ?_
            obtain ⟨g51, f50, p52⟩ := (show sA cI 354 (keA) (wL24 66) from ok31 66 (by decide))
            have f53 : wL24 66 = .inl (cI, 354, .inl g51) := f50
            obtain ⟨v54, e55⟩ : ∃ z : Int32, g51 (z49).toNatClampNeg = z := ⟨_, rfl⟩
            refine o_iald (v := v54) X h 66 0 (by decide) rfl f53 rfl (in_of (by omega) (by omega)) e55 dX9_from_56 ?_
            obtain ⟨g58, f57, p59⟩ := (show sA cI 177 (alA) (wL24 65) from ok31 65 (by decide))
            have f60 : wL24 65 = .inl (cI, 177, .inl g58) := f57
            obtain ⟨g61, e62⟩ : ∃ z : Nat → Int32, upd g58 (L23).toNatClampNeg v54 = z := ⟨_, rfl⟩
            have p63 : alA g61 := alA_from0 p52 p59 e55 e62 (by have := cl_of (x := L23) (by omega); have := cl_of (x := z49) (by omega); omega)
            refine o_iast (f1 := g61) X hD h 65 0 (by decide) rfl f60 rfl (in_of (by omega) (by omega)) e62 dX9_from_57 (fun H locs w64 e65 h => ?_)
            have f66 : w64 65 = .inl (cI, 177, .inl g61) := (congrFun e65 _).trans (va_up_self _ _ _)
            have ok67 : OK cI cB cZ cO ad w64 := OK.up ok31 e65 (sA_mk p63)
            have kx68 : KN w w64 := KN.up kx32 e65 f60 rfl
            obtain ⟨z69, e70, t71⟩ := x_add (x := L23) (y := 1) (a := L23.toInt) (b := 1) rfl rfl (by omega) (by omega)
            refine lv_iinc (v := z69) (lv' := [(2, .int z69), (0, .ref (ad 64)), (1, .int 0)]) hx hb dX9_from_58 hl (k := 0) rfl e70 (by decide) rfl (fun ls hl => ?_)
            refine lv_goto (tgt := 33) hx hb dX9_from_61 (by decide) ?_
            exact ih27  z69 w64 _ _ _ (by omega) (by omega) ok67 kx68 (by omega) h (lv_sub hl [0, 1, 2] rfl)
      exact hloop25 178 (0 : Int32) w _ _ _ (by have q0 : (0 : Int32).toInt = 0 := rfl; omega) (by have q0 : (0 : Int32).toInt = 0 := rfl; omega) ok KN.rf (by have q0 : (0 : Int32).toInt = 0 := rfl; omega) h (lv_sub hl [0, 1, 2] rfl)
    · have hc22 : (v19).toInt = 0 := i_eq hc22 rfl rfl
      refine lv_aload_n hx hb dX9_from_26 rfl (lv_at hl 0 rfl) ?_
      refine n_Vi (na := 0) (As := []) (rest := []) X hD hN h rfl (c_M_no l G cI cB cZ cO ad w  ok   ) ⟨kv_545, kv_546, kv_547, kv_470, kv_548⟩ rfl ⟨by decide, by decide, by decide⟩ ⟨Nat.le_of_ble_eq_true rfl, Nat.le_of_ble_eq_true rfl⟩ ⟨Nat.zero_le _, Nat.zero_le _⟩ (by decide) f18 rfl rfl hl.1 rfl (Nat.le_of_ble_eq_true rfl) dX9_from_27 (fun r72 w73 H locs hp74 h => ?_)
      obtain ⟨ok77, kk78, hr76⟩ := hp74
      have kx79 : KN w w73 := kk78.n
      subst hr76
      exact e_i X h hr hlk dX9_from_30 ⟨ok77, kx79, Or.inl ⟨by rw [e20]; omega, rfl⟩⟩
  · exfalso; omega

set_option maxHeartbeats 4000000 in
set_option maxRecDepth 100000 in
theorem c_M_image1_ (l : Launch) (G : va_G) (cI cB cZ cO : ClassId) (ad : Nat → Nat) (w : Nat → va_E) (f : Nat → Int32) (ok : OK cI cB cZ cO ad w)   (pf : w 67 = .inl (cZ, 2, .inl f)) (pr : rgA 0 1 f) : NI l G (tyq cI cB cZ cO) yX9_image cX9_image 3 (some .int) 1 25 74 ad w [.ref (ad 64), .int 1] (fun r w1 => OK cI cB cZ cO ad w1 ∧ KP w w1 ∧ r = 1 ∧ w1 67 = .inl (cZ, 2, .inl (upd f 1 1))) := by
  refine nk_i (own := "NoonShadeModel") rfl (by decide) (Nat.le_of_ble_eq_true rfl) ?_
  intro p e s m below meth c ls X hD hN hr hlk h hl
  have hx := X.1.1
  have hb := X.1.2.1
  have hown := X.1.2.2.2.1
  have hts := X.1.2.2.2.2
  have hl : lv_has ls 3 [(0, .ref (ad 64)), (1, .int 1)] := hl
  refine lv_iload_n hx hb dX9_image_0 rfl (lv_at hl 1 rfl) ?_
  refine lv_i2l (v := 1) hx hb dX9_image_1 rfl ?_
  refine lv_lconst (v := 0) hx hb dX9_image_2 (by decide) ?_
  refine lv_lconst (v := 1) hx hb dX9_image_3 (by decide) ?_
  refine n_Si (na := 3) (As := [.long 1, .long 0, .long 1]) (rest := []) X hD hN h (c_M_in l G cI cB cZ cO ad w (1 : Int64) (0 : Int64) (1 : Int64) 1 0 1 rfl rfl rfl) ⟨kv_468, kv_469, kv_470, kv_471⟩ ⟨by decide, by decide, by decide⟩ ⟨Nat.le_of_ble_eq_true rfl, Nat.le_of_ble_eq_true rfl⟩ ⟨Nat.zero_le _, Nat.zero_le _⟩ rfl hl.1 rfl (Nat.le_of_ble_eq_true rfl) dX9_image_4 (fun r1 w2 H locs hp3 h => ?_)
  obtain ⟨rfl, hq4⟩ := hp3
  rcases hq4 with ⟨hq5, hq6, rfl⟩ | ⟨hq4, rfl⟩
  · refine lv_if_ne (tgt := 17) hx hb dX9_image_7 (by decide) (fun _ => ?_) (fun hc => absurd hc (by decide))
    refine lv_iconst (v := 0) hx hb dX9_image_17 (by decide) ?_
    refine lv_istore_n (lv' := [(2, .int 0), (0, .ref (ad 64)), (1, .int 1)]) hx hb dX9_image_18 rfl hl (by decide) rfl (fun ls hl => ?_)
    have hloop9 : ∀ (d10 : Nat) (L7 : Int32) (wL8 : Nat → va_E) (H : Heap) (locs : List Loc) (ls : Array Slot), 0 ≤ L7.toInt → L7.toInt ≤ 177 → OK cI cB cZ cO ad wL8 → KP w wL8 → wL8 67 = .inl (cZ, 2, .inl f) → 177 - L7.toInt < (d10 : Int) → St G 74 ad (wA 74 ad s.heap.size) s.heap wL8 H locs → lv_has ls 3 [(2, .int L7), (0, .ref (ad 64)), (1, .int 1)] → W p l e { frames := 1, cells := 0, slots := 0, locals := 25 } s m [.ref (ad 64), .int 1].toArray below meth c H locs 0 0 (MQ below (va_Qi (fun r w1 => OK cI cB cZ cO ad w1 ∧ KP w w1 ∧ r = 1 ∧ w1 67 = .inl (cZ, 2, .inl (upd f 1 1))) (Aft G 74 ad) (wA 74 ad s.heap.size)) [.ref (ad 64), .int 1].toArray s 0 0 (wA 74 ad s.heap.size)) (F0 m 19 ls []) := by
      intro d10
      induction d10 with
      | zero => intro L7 wL8 H locs ls hi13 hi14 ok15 kx16 cf17 hm12 h hl; exfalso; omega
      | succ d10 ih11 =>
        intro L7 wL8 H locs ls hi13 hi14 ok15 kx16 cf17 hm12 h hl
        refine lv_iload_n hx hb dX9_image_19 rfl (lv_at hl 0 rfl) ?_
        refine lv_sipush (v := 177) hx hb dX9_image_20 (by decide) ?_
        refine lv_icmp_ge (tgt := 50) hx hb dX9_image_23 (by decide) (fun hc19 => ?_) (fun hc19 => ?_)
        · have hc19 : 177 ≤ (L7).toInt := i_le hc19 rfl rfl
          refine lv_aload_n hx hb dX9_image_50 rfl (lv_at hl 1 rfl) ?_
          obtain ⟨x21, x22, t23, t24, t25, t26, t27, t28, f20, h29, h30⟩ := (show sM ad (wL8 64) from ok15 64 (by decide))
          have f31 : wL8 64 = .inr (7, [.ref (ad 65), .ref (ad 66), .ref (ad 67), .ref (ad 68), .long x21, .long x22, .ref (ad 69), .int t23, .ref (ad 70), .ref (ad 71), .int t24, .int t25, .int t26, .int t27, .int t28, .ref (ad 72), .ref (ad 73)]) := f20
          refine r_get kc9 X h 64 2 (by decide) rfl f31 (by decide) kv_717 rfl dX9_image_51 ?_
          refine lv_iload_n hx hb dX9_image_54 rfl (lv_at hl 2 rfl) ?_
          refine lv_iconst (v := 1) hx hb dX9_image_55 (by decide) ?_
          obtain ⟨g32, e33⟩ : ∃ z : Nat → Int32, upd f 1 (vp_nar .boolean (1 : Int32)) = z := ⟨_, rfl⟩
          have p34 : rgA 0 1 g32 := rgA_upd pr e33 (by decide) (by decide)
          refine o_zast (f1 := g32) X hD h 67 2 (by decide) rfl cf17 rfl (by unfold vp_in; decide) e33 dX9_image_56 (fun H locs w35 e36 h => ?_)
          have f37 : w35 67 = .inl (cZ, 2, .inl g32) := (congrFun e36 _).trans (va_up_self _ _ _)
          have ok38 : OK cI cB cZ cO ad w35 := OK.up ok15 e36 (sA_mk p34)
          have kx39 : KP w w35 := KP.up kx16 e36 cf17 (Or.inl rfl)
          refine lv_iconst (v := 1) hx hb dX9_image_57 (by decide) ?_
          exact e_i X h hr hlk dX9_image_58 ⟨ok38, kx39, ⟨rfl, by rw [f37, ← e33]; first | rfl | (congr 3)⟩⟩
        · have hc19 : ¬ 177 ≤ (L7).toInt := i_nle hc19 rfl rfl
          refine lv_aload_n hx hb dX9_image_26 rfl (lv_at hl 1 rfl) ?_
          obtain ⟨x41, x42, t43, t44, t45, t46, t47, t48, f40, h49, h50⟩ := (show sM ad (wL8 64) from ok15 64 (by decide))
          have f51 : wL8 64 = .inr (7, [.ref (ad 65), .ref (ad 66), .ref (ad 67), .ref (ad 68), .long x41, .long x42, .ref (ad 69), .int t43, .ref (ad 70), .ref (ad 71), .int t44, .int t45, .int t46, .int t47, .int t48, .ref (ad 72), .ref (ad 73)]) := f40
          refine r_get kc9 X h 64 1 (by decide) rfl f51 (by decide) kv_718 rfl dX9_image_27 ?_
          refine lv_sipush (v := 177) hx hb dX9_image_30 (by decide) ?_
          refine lv_iload_n hx hb dX9_image_33 rfl (lv_at hl 2 rfl) ?_
          refine o_imul (z := 177) hx hb dX9_image_34 rfl ?_
          refine lv_iload_n hx hb dX9_image_35 rfl (lv_at hl 0 rfl) ?_
          obtain ⟨z54, e52, t53⟩ := x_add (x := (177 : Int32)) (y := L7) (a := 177) (b := (L7).toInt) rfl rfl (by omega) (by omega)
          refine o_iadd (z := z54) hx hb dX9_image_36 e52 ?_
          refine lv_aload_n hx hb dX9_image_37 rfl (lv_at hl 1 rfl) ?_
          refine r_get kc9 X h 64 0 (by decide) rfl f51 (by decide) kv_467 rfl dX9_image_38 ?_
          refine lv_iload_n hx hb dX9_image_41 rfl (lv_at hl 0 rfl) ?_
          obtain ⟨g56, f55, p57⟩ := (show sA cI 177 (alA) (wL8 65) from ok15 65 (by decide))
          have f58 : wL8 65 = .inl (cI, 177, .inl g56) := f55
          obtain ⟨v59, e60⟩ : ∃ z : Int32, g56 (L7).toNatClampNeg = z := ⟨_, rfl⟩
          refine o_iald (v := v59) X h 65 0 (by decide) rfl f58 rfl (in_of (by omega) (by omega)) e60 dX9_image_42 ?_
          obtain ⟨g63, f62, p64⟩ := (show sA cI 354 (keA) (wL8 66) from ok15 66 (by decide))
          have f65 : wL8 66 = .inl (cI, 354, .inl g63) := f62
          obtain ⟨g66, e67⟩ : ∃ z : Nat → Int32, upd g63 (z54).toNatClampNeg v59 = z := ⟨_, rfl⟩
          have p68 : keA g66 := keA_upd1 p57 p64 e60 e67 (by have := cl_of (x := z54) (by omega); have := cl_of (x := L7) (by omega); omega) (by have := cl_of (x := L7) (by omega); omega)
          refine o_iast (f1 := g66) X hD h 66 0 (by decide) rfl f65 rfl (in_of (by omega) (by omega)) e67 dX9_image_43 (fun H locs w69 e70 h => ?_)
          have f71 : w69 66 = .inl (cI, 354, .inl g66) := (congrFun e70 _).trans (va_up_self _ _ _)
          have ok72 : OK cI cB cZ cO ad w69 := OK.up ok15 e70 (sA_mk p68)
          have kx73 : KP w w69 := KP.up kx16 e70 f65 (Or.inr rfl)
          obtain ⟨z74, e75, t76⟩ := x_add (x := L7) (y := 1) (a := L7.toInt) (b := 1) rfl rfl (by omega) (by omega)
          refine lv_iinc (v := z74) (lv' := [(2, .int z74), (0, .ref (ad 64)), (1, .int 1)]) hx hb dX9_image_44 hl (k := 0) rfl e75 (by decide) rfl (fun ls hl => ?_)
          refine lv_goto (tgt := 19) hx hb dX9_image_47 (by decide) ?_
          have f77 : w69 67 = .inl (cZ, 2, .inl f) := by rw [e70, va_up_ne _ _ (by decide)]; exact cf17
          exact ih11  z74 w69 _ _ _ (by omega) (by omega) ok72 kx73 f77 (by omega) h (lv_sub hl [0, 1, 2] rfl)
    exact hloop9 178 (0 : Int32) w _ _ _ (by have q0 : (0 : Int32).toInt = 0 := rfl; omega) (by have q0 : (0 : Int32).toInt = 0 := rfl; omega) ok KP.rf pf (by have q0 : (0 : Int32).toInt = 0 := rfl; omega) h (lv_sub hl [0, 1, 2] rfl)
  · exfalso; omega

set_option maxHeartbeats 4000000 in
set_option maxRecDepth 100000 in
theorem c_M_from1_ (l : Launch) (G : va_G) (cI cB cZ cO : ClassId) (ad : Nat → Nat) (w : Nat → va_E) (f : Nat → Int32) (ok : OK cI cB cZ cO ad w)   (pf : w 67 = .inl (cZ, 2, .inl f)) (pr : rgA 0 1 f) : NI l G (tyq cI cB cZ cO) yX9_from cX9_from 3 (some .int) 1 25 74 ad w [.ref (ad 64), .int 1] (fun r w1 => OK cI cB cZ cO ad w1 ∧ KN w w1 ∧ (((f 1).toInt = 0 ∧ r = -3) ∨ (¬ (f 1).toInt = 0 ∧ r = 1))) := by
  refine nk_i (own := "NoonShadeModel") rfl (by decide) (Nat.le_of_ble_eq_true rfl) ?_
  intro p e s m below meth c ls X hD hN hr hlk h hl
  have hx := X.1.1
  have hb := X.1.2.1
  have hown := X.1.2.2.2.1
  have hts := X.1.2.2.2.2
  have hl : lv_has ls 3 [(0, .ref (ad 64)), (1, .int 1)] := hl
  refine lv_iload_n hx hb dX9_from_0 rfl (lv_at hl 1 rfl) ?_
  refine lv_i2l (v := 1) hx hb dX9_from_1 rfl ?_
  refine lv_lconst (v := 0) hx hb dX9_from_2 (by decide) ?_
  refine lv_lconst (v := 1) hx hb dX9_from_3 (by decide) ?_
  refine n_Si (na := 3) (As := [.long 1, .long 0, .long 1]) (rest := []) X hD hN h (c_M_in l G cI cB cZ cO ad w (1 : Int64) (0 : Int64) (1 : Int64) 1 0 1 rfl rfl rfl) ⟨kv_468, kv_469, kv_470, kv_471⟩ ⟨by decide, by decide, by decide⟩ ⟨Nat.le_of_ble_eq_true rfl, Nat.le_of_ble_eq_true rfl⟩ ⟨Nat.zero_le _, Nat.zero_le _⟩ rfl hl.1 rfl (Nat.le_of_ble_eq_true rfl) dX9_from_4 (fun r1 w2 H locs hp3 h => ?_)
  obtain ⟨rfl, hq4⟩ := hp3
  rcases hq4 with ⟨hq5, hq6, rfl⟩ | ⟨hq4, rfl⟩
  · refine lv_if_ne (tgt := 17) hx hb dX9_from_7 (by decide) (fun _ => ?_) (fun hc => absurd hc (by decide))
    refine lv_aload_n hx hb dX9_from_17 rfl (lv_at hl 0 rfl) ?_
    obtain ⟨x8, x9, t10, t11, t12, t13, t14, t15, f7, h16, h17⟩ := (show sM ad (w 64) from ok 64 (by decide))
    have f18 : w 64 = .inr (7, [.ref (ad 65), .ref (ad 66), .ref (ad 67), .ref (ad 68), .long x8, .long x9, .ref (ad 69), .int t10, .ref (ad 70), .ref (ad 71), .int t11, .int t12, .int t13, .int t14, .int t15, .ref (ad 72), .ref (ad 73)]) := f7
    refine r_get kc9 X h 64 2 (by decide) rfl f18 (by decide) kv_717 rfl dX9_from_18 ?_
    refine lv_iload_n hx hb dX9_from_21 rfl (lv_at hl 1 rfl) ?_
    obtain ⟨v19, e20⟩ : ∃ z : Int32, f 1 = z := ⟨_, rfl⟩
    have h21 := rgA_rd pr e20
    refine o_zald (v := v19) X h 67 2 (by decide) rfl pf rfl (by unfold vp_in; decide) e20 dX9_from_22 ?_
    refine lv_if_ne (tgt := 31) hx hb dX9_from_23 (by decide) (fun hc22 => ?_) (fun hc22 => ?_)
    · have hc22 : ¬ (v19).toInt = 0 := i_ne hc22 rfl rfl
      refine lv_iconst (v := 0) hx hb dX9_from_31 (by decide) ?_
      refine lv_istore_n (lv' := [(2, .int 0), (0, .ref (ad 64)), (1, .int 1)]) hx hb dX9_from_32 rfl hl (by decide) rfl (fun ls hl => ?_)
      have hloop25 : ∀ (d26 : Nat) (L23 : Int32) (wL24 : Nat → va_E) (H : Heap) (locs : List Loc) (ls : Array Slot), 0 ≤ L23.toInt → L23.toInt ≤ 177 → OK cI cB cZ cO ad wL24 → KN w wL24 → 177 - L23.toInt < (d26 : Int) → St G 74 ad (wA 74 ad s.heap.size) s.heap wL24 H locs → lv_has ls 3 [(2, .int L23), (0, .ref (ad 64)), (1, .int 1)] → W p l e { frames := 1, cells := 0, slots := 0, locals := 25 } s m [.ref (ad 64), .int 1].toArray below meth c H locs 0 0 (MQ below (va_Qi (fun r w1 => OK cI cB cZ cO ad w1 ∧ KN w w1 ∧ (((f 1).toInt = 0 ∧ r = -3) ∨ (¬ (f 1).toInt = 0 ∧ r = 1))) (Aft G 74 ad) (wA 74 ad s.heap.size)) [.ref (ad 64), .int 1].toArray s 0 0 (wA 74 ad s.heap.size)) (F0 m 33 ls []) := by
        intro d26
        induction d26 with
        | zero => intro L23 wL24 H locs ls hi29 hi30 ok31 kx32 hm28 h hl; exfalso; omega
        | succ d26 ih27 =>
          intro L23 wL24 H locs ls hi29 hi30 ok31 kx32 hm28 h hl
          refine lv_iload_n hx hb dX9_from_33 rfl (lv_at hl 0 rfl) ?_
          refine lv_sipush (v := 177) hx hb dX9_from_34 (by decide) ?_
          refine lv_icmp_ge (tgt := 64) hx hb dX9_from_37 (by decide) (fun hc34 => ?_) (fun hc34 => ?_)
          · have hc34 : 177 ≤ (L23).toInt := i_le hc34 rfl rfl
            refine lv_iconst (v := 1) hx hb dX9_from_64 (by decide) ?_
            exact e_i X h hr hlk dX9_from_65 ⟨ok31, kx32, Or.inr ⟨by rw [e20]; omega, rfl⟩⟩
          · have hc34 : ¬ 177 ≤ (L23).toInt := i_nle hc34 rfl rfl
            refine lv_aload_n hx hb dX9_from_40 rfl (lv_at hl 1 rfl) ?_
            obtain ⟨x36, x37, t38, t39, t40, t41, t42, t43, f35, h44, h45⟩ := (show sM ad (wL24 64) from ok31 64 (by decide))
            have f46 : wL24 64 = .inr (7, [.ref (ad 65), .ref (ad 66), .ref (ad 67), .ref (ad 68), .long x36, .long x37, .ref (ad 69), .int t38, .ref (ad 70), .ref (ad 71), .int t39, .int t40, .int t41, .int t42, .int t43, .ref (ad 72), .ref (ad 73)]) := f35
            refine r_get kc9 X h 64 0 (by decide) rfl f46 (by decide) kv_467 rfl dX9_from_41 ?_
            refine lv_iload_n hx hb dX9_from_44 rfl (lv_at hl 0 rfl) ?_
            refine lv_aload_n hx hb dX9_from_45 rfl (lv_at hl 1 rfl) ?_
            refine r_get kc9 X h 64 1 (by decide) rfl f46 (by decide) kv_718 rfl dX9_from_46 ?_
            refine lv_sipush (v := 177) hx hb dX9_from_49 (by decide) ?_
            refine lv_iload_n hx hb dX9_from_52 rfl (lv_at hl 2 rfl) ?_
            refine o_imul (z := 177) hx hb dX9_from_53 rfl ?_
            refine lv_iload_n hx hb dX9_from_54 rfl (lv_at hl 0 rfl) ?_
            obtain ⟨z49, e47, t48⟩ := x_add (x := (177 : Int32)) (y := L23) (a := 177) (b := (L23).toInt) rfl rfl (by omega) (by omega)
            refine o_iadd (z := z49) hx hb dX9_from_55 e47 ?_
            obtain ⟨g51, f50, p52⟩ := (show sA cI 354 (keA) (wL24 66) from ok31 66 (by decide))
            have f53 : wL24 66 = .inl (cI, 354, .inl g51) := f50
            obtain ⟨v54, e55⟩ : ∃ z : Int32, g51 (z49).toNatClampNeg = z := ⟨_, rfl⟩
            refine o_iald (v := v54) X h 66 0 (by decide) rfl f53 rfl (in_of (by omega) (by omega)) e55 dX9_from_56 ?_
            obtain ⟨g58, f57, p59⟩ := (show sA cI 177 (alA) (wL24 65) from ok31 65 (by decide))
            have f60 : wL24 65 = .inl (cI, 177, .inl g58) := f57
            obtain ⟨g61, e62⟩ : ∃ z : Nat → Int32, upd g58 (L23).toNatClampNeg v54 = z := ⟨_, rfl⟩
            have p63 : alA g61 := alA_from1 p52 p59 e55 e62 (by have := cl_of (x := L23) (by omega); have := cl_of (x := z49) (by omega); omega)
            refine o_iast (f1 := g61) X hD h 65 0 (by decide) rfl f60 rfl (in_of (by omega) (by omega)) e62 dX9_from_57 (fun H locs w64 e65 h => ?_)
            have f66 : w64 65 = .inl (cI, 177, .inl g61) := (congrFun e65 _).trans (va_up_self _ _ _)
            have ok67 : OK cI cB cZ cO ad w64 := OK.up ok31 e65 (sA_mk p63)
            have kx68 : KN w w64 := KN.up kx32 e65 f60 rfl
            obtain ⟨z69, e70, t71⟩ := x_add (x := L23) (y := 1) (a := L23.toInt) (b := 1) rfl rfl (by omega) (by omega)
            refine lv_iinc (v := z69) (lv' := [(2, .int z69), (0, .ref (ad 64)), (1, .int 1)]) hx hb dX9_from_58 hl (k := 0) rfl e70 (by decide) rfl (fun ls hl => ?_)
            refine lv_goto (tgt := 33) hx hb dX9_from_61 (by decide) ?_
            exact ih27  z69 w64 _ _ _ (by omega) (by omega) ok67 kx68 (by omega) h (lv_sub hl [0, 1, 2] rfl)
      exact hloop25 178 (0 : Int32) w _ _ _ (by have q0 : (0 : Int32).toInt = 0 := rfl; omega) (by have q0 : (0 : Int32).toInt = 0 := rfl; omega) ok KN.rf (by have q0 : (0 : Int32).toInt = 0 := rfl; omega) h (lv_sub hl [0, 1, 2] rfl)
    · have hc22 : (v19).toInt = 0 := i_eq hc22 rfl rfl
      refine lv_aload_n hx hb dX9_from_26 rfl (lv_at hl 0 rfl) ?_
      refine n_Vi (na := 0) (As := []) (rest := []) X hD hN h rfl (c_M_no l G cI cB cZ cO ad w  ok   ) ⟨kv_545, kv_546, kv_547, kv_470, kv_548⟩ rfl ⟨by decide, by decide, by decide⟩ ⟨Nat.le_of_ble_eq_true rfl, Nat.le_of_ble_eq_true rfl⟩ ⟨Nat.zero_le _, Nat.zero_le _⟩ (by decide) f18 rfl rfl hl.1 rfl (Nat.le_of_ble_eq_true rfl) dX9_from_27 (fun r72 w73 H locs hp74 h => ?_)
      obtain ⟨ok77, kk78, hr76⟩ := hp74
      have kx79 : KN w w73 := kk78.n
      subst hr76
      exact e_i X h hr hlk dX9_from_30 ⟨ok77, kx79, Or.inl ⟨by rw [e20]; omega, rfl⟩⟩
  · exfalso; omega

set_option maxHeartbeats 4000000 in
set_option maxRecDepth 100000 in
theorem c_M_imageN_ (l : Launch) (G : va_G) (cI cB cZ cO : ClassId) (ad : Nat → Nat) (w : Nat → va_E)  (ok : OK cI cB cZ cO ad w) (i : Int32)  (hno : ¬ (0 ≤ i.toInt ∧ i.toInt ≤ 1)) : NI l G (tyq cI cB cZ cO) yX9_image cX9_image 3 (some .int) 1 25 74 ad w [.ref (ad 64), .int i] (fun r w1 => OK cI cB cZ cO ad w1 ∧ KN w w1 ∧ r = -2) := by
  refine nk_i (own := "NoonShadeModel") rfl (by decide) (Nat.le_of_ble_eq_true rfl) ?_
  intro p e s m below meth c ls X hD hN hr hlk h hl
  have hx := X.1.1
  have hb := X.1.2.1
  have hown := X.1.2.2.2.1
  have hts := X.1.2.2.2.2
  have hl : lv_has ls 3 [(0, .ref (ad 64)), (1, .int i)] := hl
  refine lv_iload_n hx hb dX9_image_0 rfl (lv_at hl 1 rfl) ?_
  obtain ⟨z1, e2⟩ : ∃ z : Int64, i.toInt64 = z := ⟨_, rfl⟩
  have tz1 : z1.toInt = (i).toInt := by rw [← e2]; exact Int32.toInt_toInt64 _
  refine lv_i2l (v := z1) hx hb dX9_image_1 e2 ?_
  refine lv_lconst (v := 0) hx hb dX9_image_2 (by decide) ?_
  refine lv_lconst (v := 1) hx hb dX9_image_3 (by decide) ?_
  refine n_Si (na := 3) (As := [.long z1, .long 0, .long 1]) (rest := []) X hD hN h (c_M_in l G cI cB cZ cO ad w z1 (0 : Int64) (1 : Int64) ((i).toInt) 0 1 tz1 rfl rfl) ⟨kv_468, kv_469, kv_470, kv_471⟩ ⟨by decide, by decide, by decide⟩ ⟨Nat.le_of_ble_eq_true rfl, Nat.le_of_ble_eq_true rfl⟩ ⟨Nat.zero_le _, Nat.zero_le _⟩ rfl hl.1 rfl (Nat.le_of_ble_eq_true rfl) dX9_image_4 (fun r3 w4 H locs hp5 h => ?_)
  obtain ⟨rfl, hq6⟩ := hp5
  rcases hq6 with ⟨hq7, hq8, rfl⟩ | ⟨hq6, rfl⟩
  · refine lv_if_ne (tgt := 17) hx hb dX9_image_7 (by decide) (fun _ => ?_) (fun hc => absurd hc (by decide))
    refine lv_iconst (v := 0) hx hb dX9_image_17 (by decide) ?_
    refine lv_istore_n (lv' := [(2, .int 0), (0, .ref (ad 64)), (1, .int i)]) hx hb dX9_image_18 rfl hl (by decide) rfl (fun ls hl => ?_)
    exfalso; omega
  · refine lv_if_ne (tgt := 17) hx hb dX9_image_7 (by decide) (fun hc => absurd (by decide) hc) (fun _ => ?_)
    refine lv_aload_n hx hb dX9_image_10 rfl (lv_at hl 0 rfl) ?_
    refine lv_bipush (v := (-2)) hx hb dX9_image_11 (by decide) ?_
    obtain ⟨x13, x14, t15, t16, t17, t18, t19, t20, f12, h21, h22⟩ := (show sM ad (w 64) from ok 64 (by decide))
    have f23 : w 64 = .inr (7, [.ref (ad 65), .ref (ad 66), .ref (ad 67), .ref (ad 68), .long x13, .long x14, .ref (ad 69), .int t15, .ref (ad 70), .ref (ad 71), .int t16, .int t17, .int t18, .int t19, .int t20, .ref (ad 72), .ref (ad 73)]) := f12
    refine n_Vi (na := 1) (As := [.int (-2)]) (rest := []) X hD hN h rfl (c_M_bad l G cI cB cZ cO ad w  ok ((-2) : Int32)  ) ⟨kv_553, kv_554, kv_555, kv_470, kv_556⟩ rfl ⟨by decide, by decide, by decide⟩ ⟨Nat.le_of_ble_eq_true rfl, Nat.le_of_ble_eq_true rfl⟩ ⟨Nat.zero_le _, Nat.zero_le _⟩ (by decide) f23 rfl rfl hl.1 rfl (Nat.le_of_ble_eq_true rfl) dX9_image_13 (fun r9 w10 H locs hp11 h => ?_)
    obtain ⟨ok26, kk27, hr25⟩ := hp11
    have kx28 : KN w w10 := kk27.n
    subst hr25
    exact e_i X h hr hlk dX9_image_16 ⟨ok26, kx28, rfl⟩

set_option maxHeartbeats 4000000 in
set_option maxRecDepth 100000 in
theorem c_M_fromN_ (l : Launch) (G : va_G) (cI cB cZ cO : ClassId) (ad : Nat → Nat) (w : Nat → va_E)  (ok : OK cI cB cZ cO ad w) (i : Int32)  (hno : ¬ (0 ≤ i.toInt ∧ i.toInt ≤ 1)) : NI l G (tyq cI cB cZ cO) yX9_from cX9_from 3 (some .int) 1 25 74 ad w [.ref (ad 64), .int i] (fun r w1 => OK cI cB cZ cO ad w1 ∧ KN w w1 ∧ r = -2) := by
  refine nk_i (own := "NoonShadeModel") rfl (by decide) (Nat.le_of_ble_eq_true rfl) ?_
  intro p e s m below meth c ls X hD hN hr hlk h hl
  have hx := X.1.1
  have hb := X.1.2.1
  have hown := X.1.2.2.2.1
  have hts := X.1.2.2.2.2
  have hl : lv_has ls 3 [(0, .ref (ad 64)), (1, .int i)] := hl
  refine lv_iload_n hx hb dX9_from_0 rfl (lv_at hl 1 rfl) ?_
  obtain ⟨z1, e2⟩ : ∃ z : Int64, i.toInt64 = z := ⟨_, rfl⟩
  have tz1 : z1.toInt = (i).toInt := by rw [← e2]; exact Int32.toInt_toInt64 _
  refine lv_i2l (v := z1) hx hb dX9_from_1 e2 ?_
  refine lv_lconst (v := 0) hx hb dX9_from_2 (by decide) ?_
  refine lv_lconst (v := 1) hx hb dX9_from_3 (by decide) ?_
  refine n_Si (na := 3) (As := [.long z1, .long 0, .long 1]) (rest := []) X hD hN h (c_M_in l G cI cB cZ cO ad w z1 (0 : Int64) (1 : Int64) ((i).toInt) 0 1 tz1 rfl rfl) ⟨kv_468, kv_469, kv_470, kv_471⟩ ⟨by decide, by decide, by decide⟩ ⟨Nat.le_of_ble_eq_true rfl, Nat.le_of_ble_eq_true rfl⟩ ⟨Nat.zero_le _, Nat.zero_le _⟩ rfl hl.1 rfl (Nat.le_of_ble_eq_true rfl) dX9_from_4 (fun r3 w4 H locs hp5 h => ?_)
  obtain ⟨rfl, hq6⟩ := hp5
  rcases hq6 with ⟨hq7, hq8, rfl⟩ | ⟨hq6, rfl⟩
  · refine lv_if_ne (tgt := 17) hx hb dX9_from_7 (by decide) (fun _ => ?_) (fun hc => absurd hc (by decide))
    refine lv_aload_n hx hb dX9_from_17 rfl (lv_at hl 0 rfl) ?_
    obtain ⟨x10, x11, t12, t13, t14, t15, t16, t17, f9, h18, h19⟩ := (show sM ad (w 64) from ok 64 (by decide))
    have f20 : w 64 = .inr (7, [.ref (ad 65), .ref (ad 66), .ref (ad 67), .ref (ad 68), .long x10, .long x11, .ref (ad 69), .int t12, .ref (ad 70), .ref (ad 71), .int t13, .int t14, .int t15, .int t16, .int t17, .ref (ad 72), .ref (ad 73)]) := f9
    refine r_get kc9 X h 64 2 (by decide) rfl f20 (by decide) kv_717 rfl dX9_from_18 ?_
    refine lv_iload_n hx hb dX9_from_21 rfl (lv_at hl 1 rfl) ?_
    obtain ⟨g22, f21, p23⟩ := (show sA cZ 2 (rgA 0 1) (w 67) from ok 67 (by decide))
    have f24 : w 67 = .inl (cZ, 2, .inl g22) := f21
    obtain ⟨v25, e26⟩ : ∃ z : Int32, g22 (i).toNatClampNeg = z := ⟨_, rfl⟩
    have h27 := rgA_rd p23 e26
    refine o_zald (v := v25) X h 67 2 (by decide) rfl f24 rfl (in_of (by omega) (by omega)) e26 dX9_from_22 ?_
    refine lv_if_ne (tgt := 31) hx hb dX9_from_23 (by decide) (fun hc28 => ?_) (fun hc28 => ?_)
    · have hc28 : ¬ (v25).toInt = 0 := i_ne hc28 rfl rfl
      refine lv_iconst (v := 0) hx hb dX9_from_31 (by decide) ?_
      refine lv_istore_n (lv' := [(2, .int 0), (0, .ref (ad 64)), (1, .int i)]) hx hb dX9_from_32 rfl hl (by decide) rfl (fun ls hl => ?_)
      exfalso; omega
    · have hc28 : (v25).toInt = 0 := i_eq hc28 rfl rfl
      refine lv_aload_n hx hb dX9_from_26 rfl (lv_at hl 0 rfl) ?_
      refine n_Vi (na := 0) (As := []) (rest := []) X hD hN h rfl (c_M_no l G cI cB cZ cO ad w  ok   ) ⟨kv_545, kv_546, kv_547, kv_470, kv_548⟩ rfl ⟨by decide, by decide, by decide⟩ ⟨Nat.le_of_ble_eq_true rfl, Nat.le_of_ble_eq_true rfl⟩ ⟨Nat.zero_le _, Nat.zero_le _⟩ (by decide) f20 rfl rfl hl.1 rfl (Nat.le_of_ble_eq_true rfl) dX9_from_27 (fun r29 w30 H locs hp31 h => ?_)
      obtain ⟨ok34, kk35, hr33⟩ := hp31
      have kx36 : KN w w30 := kk35.n
      subst hr33
      exact e_i X h hr hlk dX9_from_30 ⟨ok34, kx36, (by exfalso; omega)⟩
  · refine lv_if_ne (tgt := 17) hx hb dX9_from_7 (by decide) (fun hc => absurd (by decide) hc) (fun _ => ?_)
    refine lv_aload_n hx hb dX9_from_10 rfl (lv_at hl 0 rfl) ?_
    refine lv_bipush (v := (-2)) hx hb dX9_from_11 (by decide) ?_
    obtain ⟨x41, x42, t43, t44, t45, t46, t47, t48, f40, h49, h50⟩ := (show sM ad (w 64) from ok 64 (by decide))
    have f51 : w 64 = .inr (7, [.ref (ad 65), .ref (ad 66), .ref (ad 67), .ref (ad 68), .long x41, .long x42, .ref (ad 69), .int t43, .ref (ad 70), .ref (ad 71), .int t44, .int t45, .int t46, .int t47, .int t48, .ref (ad 72), .ref (ad 73)]) := f40
    refine n_Vi (na := 1) (As := [.int (-2)]) (rest := []) X hD hN h rfl (c_M_bad l G cI cB cZ cO ad w  ok ((-2) : Int32)  ) ⟨kv_553, kv_554, kv_555, kv_470, kv_556⟩ rfl ⟨by decide, by decide, by decide⟩ ⟨Nat.le_of_ble_eq_true rfl, Nat.le_of_ble_eq_true rfl⟩ ⟨Nat.zero_le _, Nat.zero_le _⟩ (by decide) f51 rfl rfl hl.1 rfl (Nat.le_of_ble_eq_true rfl) dX9_from_13 (fun r37 w38 H locs hp39 h => ?_)
    obtain ⟨ok54, kk55, hr53⟩ := hp39
    have kx56 : KN w w38 := kk55.n
    subst hr53
    exact e_i X h hr hlk dX9_from_16 ⟨ok54, kx56, rfl⟩
