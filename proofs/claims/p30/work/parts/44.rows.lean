set_option maxHeartbeats 4000000 in
set_option maxRecDepth 100000 in
theorem c_R_empty (l : Launch) (G : va_G) (cI cB cZ cO : ClassId) (ad : Nat → Nat) (w : Nat → va_E) (q : Nat) (v0 : Value) (z : Int32) (hq0 : q < 74) (pf : w q = .inr (4, [v0, .int z]))     : NI l G (tyq cI cB cZ cO) yX6_empty cX6_empty 2 (some .int) 0 0 74 ad w [.ref (ad q)] (fun r w1 => z = r ∧ w1 = va_up w q (.inr (4, [v0, .int 0]))) := by
  refine nk_i (own := "NoonShade$Rows") rfl (by decide) (Nat.le_of_ble_eq_true rfl) ?_
  intro p e s m below meth c ls X hD hN hr hlk h hl
  have hx := X.1.1
  have hb := X.1.2.1
  have hown := X.1.2.2.2.1
  have hts := X.1.2.2.2.2
  have hl : lv_has ls 2 [(0, .ref (ad q))] := hl
  refine lv_aload_n hx hb dX6_empty_0 rfl (lv_at hl 0 rfl) ?_
  refine r_get kc6 X h q 1 (by omega) rfl pf (by decide) kv_58 rfl dX6_empty_1 ?_
  refine lv_istore_n (lv' := [(1, .int z), (0, .ref (ad q))]) hx hb dX6_empty_4 rfl hl (by decide) rfl (fun ls hl => ?_)
  refine lv_aload_n hx hb dX6_empty_5 rfl (lv_at hl 1 rfl) ?_
  refine lv_iconst (v := 0) hx hb dX6_empty_6 (by decide) ?_
  refine r_put kc6 X hD h q 1 (by omega) rfl pf (by decide) kv_58 rfl rfl rfl (Nat.le_of_ble_eq_true rfl) dX6_empty_7 (fun H locs w1 e2 h => ?_)
  have f3 : w1 q = .inr (4, [v0, .int 0]) := (congrFun e2 _).trans (va_up_self _ _ _)
  refine lv_iload_n hx hb dX6_empty_10 rfl (lv_at hl 0 rfl) ?_
  exact e_i X h hr hlk dX6_empty_11 ⟨rfl, e2⟩

set_option maxHeartbeats 4000000 in
set_option maxRecDepth 100000 in
theorem c_P_empty (l : Launch) (G : va_G) (cI cB cZ cO : ClassId) (ad : Nat → Nat) (w : Nat → va_E) (q : Nat) (v0 : Value) (z : Int32) (hq0 : q < 74) (pf : w q = .inr (2, [v0, .int z]))     : NV l G (tyq cI cB cZ cO) yX4_empty cX4_empty 1 0 0 74 ad w [.ref (ad q)] (fun w1 => w1 = va_up w q (.inr (2, [v0, .int 0]))) := by
  refine nk_v (own := "NoonShade$Past") rfl (by decide) (Nat.le_of_ble_eq_true rfl) ?_
  intro p e s m below meth c ls X hD hN hr hlk h hl
  have hx := X.1.1
  have hb := X.1.2.1
  have hown := X.1.2.2.2.1
  have hts := X.1.2.2.2.2
  have hl : lv_has ls 1 [(0, .ref (ad q))] := hl
  refine lv_aload_n hx hb dX4_empty_0 rfl (lv_at hl 0 rfl) ?_
  refine lv_iconst (v := 0) hx hb dX4_empty_1 (by decide) ?_
  refine r_put kc4 X hD h q 1 (by omega) rfl pf (by decide) kv_59 rfl rfl rfl (Nat.le_of_ble_eq_true rfl) dX4_empty_2 (fun H locs w1 e2 h => ?_)
  have f3 : w1 q = .inr (2, [v0, .int 0]) := (congrFun e2 _).trans (va_up_self _ _ _)
  exact e_v X h hr hlk dX4_empty_5 e2

set_option maxHeartbeats 4000000 in
set_option maxRecDepth 100000 in
theorem c_R_isFull (l : Launch) (G : va_G) (cI cB cZ cO : ClassId) (ad : Nat → Nat) (w : Nat → va_E) (rw : Nat) (hrw : isRw rw) (z : Int32)    (pf : w rw = .inr (4, [.ref (ad (rw + 1)), .int z])) : NI l G (tyq cI cB cZ cO) yX6_isFull cX6_isFull 1 (some .boolean) 0 0 74 ad w [.ref (ad rw)] (fun r w1 => w = w1 ∧ ((6 ≤ z.toInt ∧ r = 1) ∨ (z.toInt < 6 ∧ r = 0))) := by
  refine nk_i (own := "NoonShade$Rows") rfl (by decide) (Nat.le_of_ble_eq_true rfl) ?_
  intro p e s m below meth c ls X hD hN hr hlk h hl
  have hx := X.1.1
  have hb := X.1.2.1
  have hown := X.1.2.2.2.1
  have hts := X.1.2.2.2.2
  have hl : lv_has ls 1 [(0, .ref (ad rw))] := hl
  refine lv_aload_n hx hb dX6_isFull_0 rfl (lv_at hl 0 rfl) ?_
  refine r_get kc6 X h rw 1 (by have := isRw.lt hrw; omega) rfl pf (by decide) kv_58 rfl dX6_isFull_1 ?_
  refine lv_bipush (v := 6) hx hb dX6_isFull_4 (by decide) ?_
  refine lv_icmp_lt (tgt := 13) hx hb dX6_isFull_6 (by decide) (fun hc1 => ?_) (fun hc1 => ?_)
  · have hc1 : (z).toInt < 6 := i_lt hc1 rfl rfl
    refine lv_iconst (v := 0) hx hb dX6_isFull_13 (by decide) ?_
    exact e_n X h hr hlk rfl dX6_isFull_14 ⟨rfl, Or.inr ⟨by omega, rfl⟩⟩
  · have hc1 : ¬ (z).toInt < 6 := i_nlt hc1 rfl rfl
    refine lv_iconst (v := 1) hx hb dX6_isFull_9 (by decide) ?_
    refine lv_goto (tgt := 14) hx hb dX6_isFull_10 (by decide) ?_
    exact e_n X h hr hlk rfl dX6_isFull_14 ⟨rfl, Or.inl ⟨by omega, rfl⟩⟩

set_option maxHeartbeats 4000000 in
set_option maxRecDepth 100000 in
theorem c_says (l : Launch) (G : va_G) (cI cB cZ cO : ClassId) (ad : Nat → Nat) (w : Nat → va_E)   (a0 : Int32) (a1 : Int32) (a2 : Int32) (a3 : Int32)   : NI l G (tyq cI cB cZ cO) yX1_says cX1_says 4 (some .int) 2 45 74 ad w [.int a0, .int a1, .int a2, .int a3] (fun r w1 => w = w1 ∧ True) := by
  refine nk_i (own := "NoonShade$Guess") rfl (by decide) (Nat.le_of_ble_eq_true rfl) ?_
  intro p e s m below meth c ls X hD hN hr hlk h hl
  have hx := X.1.1
  have hb := X.1.2.1
  have hown := X.1.2.2.2.1
  have hts := X.1.2.2.2.2
  have hl : lv_has ls 4 [(0, .int a0), (1, .int a1), (2, .int a2), (3, .int a3)] := hl
  refine lv_iload_n hx hb dX1_says_0 rfl (lv_at hl 0 rfl) ?_
  refine lv_if_ne (tgt := 13) hx hb dX1_says_1 (by decide) (fun hc1 => ?_) (fun hc1 => ?_)
  · have hc1 : ¬ (a0).toInt = 0 := i_ne hc1 rfl rfl
    refine lv_iload_n hx hb dX1_says_13 rfl (lv_at hl 1 rfl) ?_
    refine lv_iload_n hx hb dX1_says_14 rfl (lv_at hl 2 rfl) ?_
    refine lv_iload_n hx hb dX1_says_15 rfl (lv_at hl 3 rfl) ?_
    refine n_Si (na := 3) (As := [.int a1, .int a2, .int a3]) (rest := []) X hD hN h (c_lostU l G cI cB cZ cO ad w   a1 a2 a3  ) ⟨kv_78, kv_8, kv_9, kv_10⟩ ⟨by decide, by decide, by decide⟩ ⟨Nat.le_of_ble_eq_true rfl, Nat.le_of_ble_eq_true rfl⟩ ⟨Nat.zero_le _, Nat.zero_le _⟩ rfl hl.1 rfl (Nat.le_of_ble_eq_true rfl) dX1_says_16 (fun r2 w3 H locs hp4 h => ?_)
    obtain ⟨rfl, hr5⟩ := hp4
    exact e_i X h hr hlk dX1_says_19 ⟨rfl, trivial⟩
  · have hc1 : (a0).toInt = 0 := i_eq hc1 rfl rfl
    refine lv_iload_n hx hb dX1_says_4 rfl (lv_at hl 1 rfl) ?_
    refine lv_iload_n hx hb dX1_says_5 rfl (lv_at hl 2 rfl) ?_
    refine lv_iload_n hx hb dX1_says_6 rfl (lv_at hl 3 rfl) ?_
    refine n_Si (na := 3) (As := [.int a1, .int a2, .int a3]) (rest := []) X hD hN h (c_givenU l G cI cB cZ cO ad w   a1 a2 a3  ) ⟨kv_79, kv_28, kv_29, kv_30⟩ ⟨by decide, by decide, by decide⟩ ⟨Nat.le_of_ble_eq_true rfl, Nat.le_of_ble_eq_true rfl⟩ ⟨Nat.zero_le _, Nat.zero_le _⟩ rfl hl.1 rfl (Nat.le_of_ble_eq_true rfl) dX1_says_7 (fun r6 w7 H locs hp8 h => ?_)
    obtain ⟨rfl, hr9⟩ := hp8
    refine lv_goto (tgt := 19) hx hb dX1_says_10 (by decide) ?_
    exact e_i X h hr hlk dX1_says_19 ⟨rfl, trivial⟩

set_option maxHeartbeats 4000000 in
set_option maxRecDepth 100000 in
theorem c_R_agree (l : Launch) (G : va_G) (cI cB cZ cO : ClassId) (ad : Nat → Nat) (w : Nat → va_E) (rw : Nat) (hrw : isRw rw) (ok : OK cI cB cZ cO ad w) (a0 : Int32) (a1 : Int32) (a2 : Int32)   : NI l G (tyq cI cB cZ cO) yX6_agree cX6_agree 5 (some .boolean) 3 68 74 ad w [.ref (ad rw), .int a0, .int a1, .int a2] (fun r w1 => w = w1 ∧ (r = 1 ∨ r = 0)) := by
  refine nk_i (own := "NoonShade$Rows") rfl (by decide) (Nat.le_of_ble_eq_true rfl) ?_
  intro p e s m below meth c ls X hD hN hr hlk h hl
  have hx := X.1.1
  have hb := X.1.2.1
  have hown := X.1.2.2.2.1
  have hts := X.1.2.2.2.2
  have hl : lv_has ls 5 [(0, .ref (ad rw)), (1, .int a0), (2, .int a1), (3, .int a2)] := hl
  refine lv_iconst (v := 0) hx hb dX6_agree_0 (by decide) ?_
  refine lv_istore (lv' := [(4, .int 0), (0, .ref (ad rw)), (1, .int a0), (2, .int a1), (3, .int a2)]) hx hb dX6_agree_1 hl (by decide) rfl (fun ls hl => ?_)
  have hloop2 : ∀ (d3 : Nat) (L1 : Int32) (H : Heap) (locs : List Loc) (ls : Array Slot), 0 ≤ L1.toInt → L1.toInt ≤ 24 → L1.toInt % 4 = 0 → 24 - L1.toInt < (d3 : Int) → St G 74 ad (wA 74 ad s.heap.size) s.heap w H locs → lv_has ls 5 [(4, .int L1), (0, .ref (ad rw)), (1, .int a0), (2, .int a1), (3, .int a2)] → W p l e { frames := 3, cells := 0, slots := 0, locals := 68 } s m [.ref (ad rw), .int a0, .int a1, .int a2].toArray below meth c H locs 0 0 (MQ below (va_Qi (fun r w1 => w = w1 ∧ (r = 1 ∨ r = 0)) (Aft G 74 ad) (wA 74 ad s.heap.size)) [.ref (ad rw), .int a0, .int a1, .int a2].toArray s 0 0 (wA 74 ad s.heap.size)) (F0 m 3 ls []) := by
    intro d3
    induction d3 with
    | zero => intro L1 H locs ls hi6 hi7 hi8 hm5 h hl; exfalso; omega
    | succ d3 ih4 =>
      intro L1 H locs ls hi6 hi7 hi8 hm5 h hl
      refine lv_iload hx hb dX6_agree_3 (lv_at hl 0 rfl) ?_
      refine lv_aload_n hx hb dX6_agree_5 rfl (lv_at hl 1 rfl) ?_
      obtain ⟨z13, f12, h14, h15⟩ := (show sR ad 4 (rw + 1) 6 (w rw) from ok.r0 hrw)
      have f16 : w rw = .inr (4, [.ref (ad (rw + 1)), .int z13]) := f12
      refine r_get kc6 X h rw 1 (by have := isRw.lt hrw; omega) rfl f16 (by decide) kv_58 rfl dX6_agree_6 ?_
      refine lv_iconst (v := 4) hx hb dX6_agree_9 (by decide) ?_
      obtain ⟨z19, e17, t18⟩ := x_mul (x := z13) (y := (4 : Int32)) (a := (z13).toInt) (b := 4) rfl rfl (by omega) (by omega)
      refine o_imul (z := z19) hx hb dX6_agree_10 e17 ?_
      refine lv_icmp_ge (tgt := 68) hx hb dX6_agree_11 (by decide) (fun hc20 => ?_) (fun hc20 => ?_)
      · have hc20 : (z19).toInt ≤ (L1).toInt := i_le hc20 rfl rfl
        refine lv_iconst (v := 1) hx hb dX6_agree_68 (by decide) ?_
        exact e_n X h hr hlk rfl dX6_agree_69 ⟨rfl, Or.inl rfl⟩
      · have hc20 : ¬ (z19).toInt ≤ (L1).toInt := i_nle hc20 rfl rfl
        refine lv_aload_n hx hb dX6_agree_14 rfl (lv_at hl 1 rfl) ?_
        refine r_get kc6 X h rw 0 (by have := isRw.lt hrw; omega) rfl f16 (by decide) kv_77 rfl dX6_agree_15 ?_
        refine lv_iload hx hb dX6_agree_18 (lv_at hl 0 rfl) ?_
        obtain ⟨g22, f21, p23⟩ := (show sA cI 24 (anyA) (w (rw + 1)) from ok.r1 hrw)
        have f24 : w (rw + 1) = .inl (cI, 24, .inl g22) := f21
        obtain ⟨v25, e26⟩ : ∃ z : Int32, g22 (L1).toNatClampNeg = z := ⟨_, rfl⟩
        refine o_iald (v := v25) X h (rw + 1) 0 (by have := isRw.lt hrw; omega) rfl f24 rfl (in_of (by omega) (by omega)) e26 dX6_agree_20 ?_
        refine lv_iload_n hx hb dX6_agree_21 rfl (lv_at hl 3 rfl) ?_
        refine lv_icmp_ne (tgt := 62) hx hb dX6_agree_22 (by decide) (fun hc28 => ?_) (fun hc28 => ?_)
        · have hc28 : ¬ (v25).toInt = (a1).toInt := i_ne hc28 rfl rfl
          obtain ⟨z29, e30, t31⟩ := x_add (x := L1) (y := 4) (a := L1.toInt) (b := 4) rfl rfl (by omega) (by omega)
          refine lv_iinc (v := z29) (lv' := [(4, .int z29), (0, .ref (ad rw)), (1, .int a0), (2, .int a1), (3, .int a2)]) hx hb dX6_agree_62 hl (k := 0) rfl e30 (by decide) rfl (fun ls hl => ?_)
          refine lv_goto (tgt := 3) hx hb dX6_agree_65 (by decide) ?_
          exact ih4  z29  _ _ _ (by omega) (by omega) (by omega)  (by omega) h (lv_sub hl [0, 1, 2, 3, 4] rfl)
        · have hc28 : (v25).toInt = (a1).toInt := i_eq hc28 rfl rfl
          refine lv_iload_n hx hb dX6_agree_25 rfl (lv_at hl 2 rfl) ?_
          refine lv_iload_n hx hb dX6_agree_26 rfl (lv_at hl 4 rfl) ?_
          refine lv_aload_n hx hb dX6_agree_27 rfl (lv_at hl 1 rfl) ?_
          refine r_get kc6 X h rw 0 (by have := isRw.lt hrw; omega) rfl f16 (by decide) kv_77 rfl dX6_agree_28 ?_
          refine lv_iload hx hb dX6_agree_31 (lv_at hl 0 rfl) ?_
          refine lv_iconst (v := 1) hx hb dX6_agree_33 (by decide) ?_
          obtain ⟨z34, e32, t33⟩ := x_add (x := L1) (y := (1 : Int32)) (a := (L1).toInt) (b := 1) rfl rfl (by omega) (by omega)
          refine o_iadd (z := z34) hx hb dX6_agree_34 e32 ?_
          obtain ⟨v35, e36⟩ : ∃ z : Int32, g22 (z34).toNatClampNeg = z := ⟨_, rfl⟩
          refine o_iald (v := v35) X h (rw + 1) 0 (by have := isRw.lt hrw; omega) rfl f24 rfl (in_of (by omega) (by omega)) e36 dX6_agree_35 ?_
          refine lv_aload_n hx hb dX6_agree_36 rfl (lv_at hl 1 rfl) ?_
          refine r_get kc6 X h rw 0 (by have := isRw.lt hrw; omega) rfl f16 (by decide) kv_77 rfl dX6_agree_37 ?_
          refine lv_iload hx hb dX6_agree_40 (lv_at hl 0 rfl) ?_
          refine lv_iconst (v := 2) hx hb dX6_agree_42 (by decide) ?_
          obtain ⟨z40, e38, t39⟩ := x_add (x := L1) (y := (2 : Int32)) (a := (L1).toInt) (b := 2) rfl rfl (by omega) (by omega)
          refine o_iadd (z := z40) hx hb dX6_agree_43 e38 ?_
          obtain ⟨v41, e42⟩ : ∃ z : Int32, g22 (z40).toNatClampNeg = z := ⟨_, rfl⟩
          refine o_iald (v := v41) X h (rw + 1) 0 (by have := isRw.lt hrw; omega) rfl f24 rfl (in_of (by omega) (by omega)) e42 dX6_agree_44 ?_
          refine n_Si (na := 4) (As := [.int a0, .int a2, .int v35, .int v41]) (rest := []) X hD hN h (c_says l G cI cB cZ cO ad w   a0 a2 v35 v41  ) ⟨kv_80, kv_81, kv_82, kv_83⟩ ⟨by decide, by decide, by decide⟩ ⟨Nat.le_of_ble_eq_true rfl, Nat.le_of_ble_eq_true rfl⟩ ⟨Nat.zero_le _, Nat.zero_le _⟩ rfl hl.1 rfl (Nat.le_of_ble_eq_true rfl) dX6_agree_45 (fun r44 w45 H locs hp46 h => ?_)
          obtain ⟨rfl, hr47⟩ := hp46
          refine lv_aload_n hx hb dX6_agree_48 rfl (lv_at hl 1 rfl) ?_
          refine r_get kc6 X h rw 0 (by have := isRw.lt hrw; omega) rfl f16 (by decide) kv_77 rfl dX6_agree_49 ?_
          refine lv_iload hx hb dX6_agree_52 (lv_at hl 0 rfl) ?_
          refine lv_iconst (v := 3) hx hb dX6_agree_54 (by decide) ?_
          obtain ⟨z50, e48, t49⟩ := x_add (x := L1) (y := (3 : Int32)) (a := (L1).toInt) (b := 3) rfl rfl (by omega) (by omega)
          refine o_iadd (z := z50) hx hb dX6_agree_55 e48 ?_
          obtain ⟨v51, e52⟩ : ∃ z : Int32, g22 (z50).toNatClampNeg = z := ⟨_, rfl⟩
          refine o_iald (v := v51) X h (rw + 1) 0 (by have := isRw.lt hrw; omega) rfl f24 rfl (in_of (by omega) (by omega)) e52 dX6_agree_56 ?_
          refine lv_icmp_eq (tgt := 62) hx hb dX6_agree_57 (by decide) (fun hc54 => ?_) (fun hc54 => ?_)
          · have hc54 : (r44).toInt = (v51).toInt := i_eq hc54 rfl rfl
            obtain ⟨z55, e56, t57⟩ := x_add (x := L1) (y := 4) (a := L1.toInt) (b := 4) rfl rfl (by omega) (by omega)
            refine lv_iinc (v := z55) (lv' := [(4, .int z55), (0, .ref (ad rw)), (1, .int a0), (2, .int a1), (3, .int a2)]) hx hb dX6_agree_62 hl (k := 0) rfl e56 (by decide) rfl (fun ls hl => ?_)
            refine lv_goto (tgt := 3) hx hb dX6_agree_65 (by decide) ?_
            exact ih4  z55  _ _ _ (by omega) (by omega) (by omega)  (by omega) h (lv_sub hl [0, 1, 2, 3, 4] rfl)
          · have hc54 : ¬ (r44).toInt = (v51).toInt := i_ne hc54 rfl rfl
            refine lv_iconst (v := 0) hx hb dX6_agree_60 (by decide) ?_
            exact e_n X h hr hlk rfl dX6_agree_61 ⟨rfl, Or.inr rfl⟩
  exact hloop2 25 (0 : Int32)  _ _ _ (by have q0 : (0 : Int32).toInt = 0 := rfl; omega) (by have q0 : (0 : Int32).toInt = 0 := rfl; omega) (by have q0 : (0 : Int32).toInt = 0 := rfl; omega)  (by have q0 : (0 : Int32).toInt = 0 := rfl; omega) h (lv_sub hl [0, 1, 2, 3, 4] rfl)

set_option maxHeartbeats 4000000 in
set_option maxRecDepth 100000 in
theorem c_R_mixed (l : Launch) (G : va_G) (cI cB cZ cO : ClassId) (ad : Nat → Nat) (w : Nat → va_E) (rw : Nat) (hrw : isRw rw) (ok : OK cI cB cZ cO ad w) (x : Int64)   : NL l G (tyq cI cB cZ cO) yX6_mixed cX6_mixed 6 (some .long) 0 0 74 ad w [.ref (ad rw), .long x] (fun r w1 => w = w1 ∧ True) := by
  refine nk_l (own := "NoonShade$Rows") rfl (by decide) (Nat.le_of_ble_eq_true rfl) ?_
  intro p e s m below meth c ls X hD hN hr hlk h hl
  have hx := X.1.1
  have hb := X.1.2.1
  have hown := X.1.2.2.2.1
  have hts := X.1.2.2.2.2
  have hl : lv_has ls 6 [(0, .ref (ad rw)), (1, .long x)] := hl
  refine lv_lload_n hx hb dX6_mixed_0 rfl (lv_at hl 1 rfl) ?_
  refine lv_lstore_n (lv' := [(3, .long x), (0, .ref (ad rw)), (1, .long x)]) hx hb dX6_mixed_1 rfl hl (by decide) rfl (fun ls hl => ?_)
  refine lv_iconst (v := 0) hx hb dX6_mixed_2 (by decide) ?_
  refine lv_istore (lv' := [(5, .int 0), (3, .long x), (0, .ref (ad rw)), (1, .long x)]) hx hb dX6_mixed_3 hl (by decide) rfl (fun ls hl => ?_)
  have hloop3 : ∀ (d4 : Nat) (L1 : Int32) (L2 : Int64) (H : Heap) (locs : List Loc) (ls : Array Slot), 0 ≤ L1.toInt → L1.toInt ≤ 24 → 24 - L1.toInt < (d4 : Int) → St G 74 ad (wA 74 ad s.heap.size) s.heap w H locs → lv_has ls 6 [(5, .int L1), (3, .long L2), (0, .ref (ad rw)), (1, .long x)] → W p l e { frames := 0, cells := 0, slots := 0, locals := 0 } s m [.ref (ad rw), .long x].toArray below meth c H locs 0 0 (MQ below (va_Ql (fun r w1 => w = w1 ∧ True) (Aft G 74 ad) (wA 74 ad s.heap.size)) [.ref (ad rw), .long x].toArray s 0 0 (wA 74 ad s.heap.size)) (F0 m 5 ls []) := by
    intro d4
    induction d4 with
    | zero => intro L1 L2 H locs ls hi7 hi8 hm6 h hl; exfalso; omega
    | succ d4 ih5 =>
      intro L1 L2 H locs ls hi7 hi8 hm6 h hl
      refine lv_iload hx hb dX6_mixed_5 (lv_at hl 0 rfl) ?_
      refine lv_aload_n hx hb dX6_mixed_7 rfl (lv_at hl 2 rfl) ?_
      obtain ⟨z13, f12, h14, h15⟩ := (show sR ad 4 (rw + 1) 6 (w rw) from ok.r0 hrw)
      have f16 : w rw = .inr (4, [.ref (ad (rw + 1)), .int z13]) := f12
      refine r_get kc6 X h rw 1 (by have := isRw.lt hrw; omega) rfl f16 (by decide) kv_58 rfl dX6_mixed_8 ?_
      refine lv_iconst (v := 4) hx hb dX6_mixed_11 (by decide) ?_
      obtain ⟨z19, e17, t18⟩ := x_mul (x := z13) (y := (4 : Int32)) (a := (z13).toInt) (b := 4) rfl rfl (by omega) (by omega)
      refine o_imul (z := z19) hx hb dX6_mixed_12 e17 ?_
      refine lv_icmp_ge (tgt := 37) hx hb dX6_mixed_13 (by decide) (fun hc20 => ?_) (fun hc20 => ?_)
      · have hc20 : (z19).toInt ≤ (L1).toInt := i_le hc20 rfl rfl
        refine lv_lload_n hx hb dX6_mixed_37 rfl (lv_at hl 1 rfl) ?_
        exact e_l X h hr hlk dX6_mixed_38 ⟨rfl, trivial⟩
      · have hc20 : ¬ (z19).toInt ≤ (L1).toInt := i_nle hc20 rfl rfl
        refine lv_ldc2 (v := 31) hx hb hown (hts _ kv_84) dX6_mixed_16 ?_
        refine lv_lload_n hx hb dX6_mixed_19 rfl (lv_at hl 1 rfl) ?_
        obtain ⟨z22, e21⟩ : ∃ z : Int64, (31 : Int64) * L2 = z := ⟨_, rfl⟩
        refine o_lmul (z := z22) hx hb dX6_mixed_20 e21 ?_
        refine lv_aload_n hx hb dX6_mixed_21 rfl (lv_at hl 2 rfl) ?_
        refine r_get kc6 X h rw 0 (by have := isRw.lt hrw; omega) rfl f16 (by decide) kv_77 rfl dX6_mixed_22 ?_
        refine lv_iload hx hb dX6_mixed_25 (lv_at hl 0 rfl) ?_
        obtain ⟨g24, f23, p25⟩ := (show sA cI 24 (anyA) (w (rw + 1)) from ok.r1 hrw)
        have f26 : w (rw + 1) = .inl (cI, 24, .inl g24) := f23
        obtain ⟨v27, e28⟩ : ∃ z : Int32, g24 (L1).toNatClampNeg = z := ⟨_, rfl⟩
        refine o_iald (v := v27) X h (rw + 1) 0 (by have := isRw.lt hrw; omega) rfl f26 rfl (in_of (by omega) (by omega)) e28 dX6_mixed_27 ?_
        obtain ⟨z30, e31⟩ : ∃ z : Int64, v27.toInt64 = z := ⟨_, rfl⟩
        have tz30 : z30.toInt = (v27).toInt := by rw [← e31]; exact Int32.toInt_toInt64 _
        refine lv_i2l (v := z30) hx hb dX6_mixed_28 e31 ?_
        obtain ⟨z33, e32⟩ : ∃ z : Int64, z22 + z30 = z := ⟨_, rfl⟩
        refine o_ladd (z := z33) hx hb dX6_mixed_29 e32 ?_
        refine lv_lstore_n (lv' := [(3, .long z33), (5, .int L1), (0, .ref (ad rw)), (1, .long x)]) hx hb dX6_mixed_30 rfl hl (by decide) rfl (fun ls hl => ?_)
        obtain ⟨z34, e35, t36⟩ := x_add (x := L1) (y := 1) (a := L1.toInt) (b := 1) rfl rfl (by omega) (by omega)
        refine lv_iinc (v := z34) (lv' := [(5, .int z34), (3, .long z33), (0, .ref (ad rw)), (1, .long x)]) hx hb dX6_mixed_31 hl (k := 1) rfl e35 (by decide) rfl (fun ls hl => ?_)
        refine lv_goto (tgt := 5) hx hb dX6_mixed_34 (by decide) ?_
        exact ih5  z34 z33  _ _ _ (by omega) (by omega)  (by omega) h (lv_sub hl [0, 1, 2, 3] rfl)
  exact hloop3 25 (0 : Int32) x  _ _ _ (by have q0 : (0 : Int32).toInt = 0 := rfl; omega) (by have q0 : (0 : Int32).toInt = 0 := rfl; omega)  (by have q0 : (0 : Int32).toInt = 0 := rfl; omega) h (lv_sub hl [0, 1, 2, 3] rfl)

set_option maxHeartbeats 4000000 in
set_option maxRecDepth 100000 in
theorem c_remember (l : Launch) (G : va_G) (cI cB cZ cO : ClassId) (ad : Nat → Nat) (w : Nat → va_E)  (ok : OK cI cB cZ cO ad w)    : NV l G (tyq cI cB cZ cO) yX4_remember cX4_remember 3 1 40 74 ad w [.ref (ad 12), .ref (ad 1)] (fun w1 => OK cI cB cZ cO ad w1 ∧ KX w w1 ∧ True) := by
  refine nk_v (own := "NoonShade$Past") rfl (by decide) (Nat.le_of_ble_eq_true rfl) ?_
  intro p e s m below meth c ls X hD hN hr hlk h hl
  have hx := X.1.1
  have hb := X.1.2.1
  have hown := X.1.2.2.2.1
  have hts := X.1.2.2.2.2
  have hl : lv_has ls 3 [(0, .ref (ad 12)), (1, .ref (ad 1))] := hl
  refine lv_aload_n hx hb dX4_remember_0 rfl (lv_at hl 0 rfl) ?_
  obtain ⟨z2, f1, h3, h4⟩ := (show sR ad 2 13 8 (w 12) from ok 12 (by decide))
  have f5 : w 12 = .inr (2, [.ref (ad 13), .int z2]) := f1
  refine r_get kc4 X h 12 1 (by decide) rfl f5 (by decide) kv_59 rfl dX4_remember_1 ?_
  refine lv_bipush (v := 8) hx hb dX4_remember_4 (by decide) ?_
  refine lv_icmp_lt (tgt := 31) hx hb dX4_remember_6 (by decide) (fun hc6 => ?_) (fun hc6 => ?_)
  · have hc6 : (z2).toInt < 8 := i_lt hc6 rfl rfl
    refine lv_aload_n hx hb dX4_remember_31 rfl (lv_at hl 0 rfl) ?_
    refine r_get kc4 X h 12 1 (by decide) rfl f5 (by decide) kv_59 rfl dX4_remember_32 ?_
    refine lv_bipush (v := 11) hx hb dX4_remember_35 (by decide) ?_
    obtain ⟨z9, e7, t8⟩ := x_mul (x := z2) (y := (11 : Int32)) (a := (z2).toInt) (b := 11) rfl rfl (by omega) (by omega)
    refine o_imul (z := z9) hx hb dX4_remember_37 e7 ?_
    refine lv_istore_n (lv' := [(2, .int z9), (0, .ref (ad 12)), (1, .ref (ad 1))]) hx hb dX4_remember_38 rfl hl (by decide) rfl (fun ls hl => ?_)
    refine lv_aload_n hx hb dX4_remember_39 rfl (lv_at hl 2 rfl) ?_
    obtain ⟨q11, q12, q13, q14, q15, f10, h16, h17, h18, h19⟩ := (show sI ad 1 (w 1) from ok 1 (by decide))
    have f20 : w 1 = .inr (1, [.int q11, .int q12, .int q13, .int q14, .int q15, .ref (ad 2), .ref (ad 3), .ref (ad 4), .ref (ad 5), .ref (ad 6), .ref (ad 7), .ref (ad 8), .ref (ad 10), .ref (ad 12)]) := f10
    refine r_get kc2 X h 1 9 (by decide) rfl f20 (by decide) kv_85 rfl dX4_remember_40 ?_
    refine lv_iconst (v := 0) hx hb dX4_remember_43 (by decide) ?_
    refine lv_aload_n hx hb dX4_remember_44 rfl (lv_at hl 1 rfl) ?_
    refine r_get kc4 X h 12 0 (by decide) rfl f5 (by decide) kv_86 rfl dX4_remember_45 ?_
    refine lv_iload_n hx hb dX4_remember_48 rfl (lv_at hl 0 rfl) ?_
    refine lv_iconst (v := 4) hx hb dX4_remember_49 (by decide) ?_
    obtain ⟨g22, f21, p23⟩ := (show sA cI 4 (rgA 0 60) (w 6) from ok 6 (by decide))
    have f24 : w 6 = .inl (cI, 4, .inl g22) := f21
    obtain ⟨g26, f25, p27⟩ := (show sA cI 88 (pastA) (w 13) from ok 13 (by decide))
    have f28 : w 13 = .inl (cI, 88, .inl g26) := f25
    obtain ⟨g29, e30⟩ : ∃ z : Nat → Int32, va_cpy g22 g26 0 (z9).toNatClampNeg 4 = z := ⟨_, rfl⟩
    have p31 : pastA g29 := pastA_cpyIn p23 p27 e30
    refine r_copy (f1 := g29) X hD h hl.1 kv_87 kv_88 kv_89 kv_90 6 13 0 (by decide) (by decide) rfl rfl f24 f28 rfl (by decide) (fun q => absurd ((fa_lt _ _).mp q) (by have k0 : (0 : Int32).toInt = 0 := rfl; omega)) (by decide) (by decide) (by have := cl_of (x := z9) (by omega); have k0 : (4 : Int32).toNatClampNeg = 4 := (by decide); omega) e30 ⟨Nat.le_of_ble_eq_true rfl, by decide⟩ dX4_remember_50 (fun H locs w32 e33 h => ?_)
    have f34 : w32 13 = .inl (cI, 88, .inl g29) := (congrFun e33 _).trans (va_up_self _ _ _)
    have ok35 : OK cI cB cZ cO ad w32 := OK.up ok e33 (sA_mk p31)
    have kx36 : KX w w32 := KX.up KX.rf e33 f28 rfl
    refine lv_aload_n hx hb dX4_remember_53 rfl (lv_at hl 2 rfl) ?_
    have f37 : w32 1 = .inr (1, [.int q11, .int q12, .int q13, .int q14, .int q15, .ref (ad 2), .ref (ad 3), .ref (ad 4), .ref (ad 5), .ref (ad 6), .ref (ad 7), .ref (ad 8), .ref (ad 10), .ref (ad 12)]) := by rw [e33, va_up_ne _ _ (by decide)]; exact f20
    refine r_get kc2 X h 1 10 (by decide) rfl f37 (by decide) kv_91 rfl dX4_remember_54 ?_
    refine lv_iconst (v := 0) hx hb dX4_remember_57 (by decide) ?_
    refine lv_aload_n hx hb dX4_remember_58 rfl (lv_at hl 1 rfl) ?_
    have f38 : w32 12 = .inr (2, [.ref (ad 13), .int z2]) := by rw [e33, va_up_ne _ _ (by decide)]; exact f5
    refine r_get kc4 X h 12 0 (by decide) rfl f38 (by decide) kv_86 rfl dX4_remember_59 ?_
    refine lv_iload_n hx hb dX4_remember_62 rfl (lv_at hl 0 rfl) ?_
    refine lv_iconst (v := 4) hx hb dX4_remember_63 (by decide) ?_
    obtain ⟨z41, e39, t40⟩ := x_add (x := z9) (y := (4 : Int32)) (a := (z9).toInt) (b := 4) rfl rfl (by omega) (by omega)
    refine o_iadd (z := z41) hx hb dX4_remember_64 e39 ?_
    refine lv_iconst (v := 4) hx hb dX4_remember_65 (by decide) ?_
    obtain ⟨g43, f42, p44⟩ := (show sA cI 4 (anyA) (w32 7) from ok35 7 (by decide))
    have f45 : w32 7 = .inl (cI, 4, .inl g43) := f42
    obtain ⟨g46, e47⟩ : ∃ z : Nat → Int32, va_cpy g43 g29 0 (z41).toNatClampNeg 4 = z := ⟨_, rfl⟩
    have p48 : pastA g46 := pastA_cpyT p31 e47 (by have := cl_of (x := z41) (by omega); omega)
    refine r_copy (f1 := g46) X hD h hl.1 kv_87 kv_88 kv_89 kv_90 7 13 0 (by decide) (by decide) rfl rfl f45 f34 rfl (by decide) (fun q => absurd ((fa_lt _ _).mp q) (by have k0 : (0 : Int32).toInt = 0 := rfl; omega)) (by decide) (by decide) (by have := cl_of (x := z41) (by omega); have k0 : (4 : Int32).toNatClampNeg = 4 := (by decide); omega) e47 ⟨Nat.le_of_ble_eq_true rfl, by decide⟩ dX4_remember_66 (fun H locs w49 e50 h => ?_)
    have f51 : w49 13 = .inl (cI, 88, .inl g46) := (congrFun e50 _).trans (va_up_self _ _ _)
    have ok52 : OK cI cB cZ cO ad w49 := OK.up ok35 e50 (sA_mk p48)
    have kx53 : KX w w49 := KX.up kx36 e50 f34 rfl
    refine lv_aload_n hx hb dX4_remember_69 rfl (lv_at hl 1 rfl) ?_
    have f54 : w49 12 = .inr (2, [.ref (ad 13), .int z2]) := by rw [e50, va_up_ne _ _ (by decide)]; exact f38
    refine r_get kc4 X h 12 0 (by decide) rfl f54 (by decide) kv_86 rfl dX4_remember_70 ?_
    refine lv_iload_n hx hb dX4_remember_73 rfl (lv_at hl 0 rfl) ?_
    refine lv_bipush (v := 8) hx hb dX4_remember_74 (by decide) ?_
    obtain ⟨z57, e55, t56⟩ := x_add (x := z9) (y := (8 : Int32)) (a := (z9).toInt) (b := 8) rfl rfl (by omega) (by omega)
    refine o_iadd (z := z57) hx hb dX4_remember_76 e55 ?_
    refine lv_aload_n hx hb dX4_remember_77 rfl (lv_at hl 2 rfl) ?_
    have f58 : w49 1 = .inr (1, [.int q11, .int q12, .int q13, .int q14, .int q15, .ref (ad 2), .ref (ad 3), .ref (ad 4), .ref (ad 5), .ref (ad 6), .ref (ad 7), .ref (ad 8), .ref (ad 10), .ref (ad 12)]) := by rw [e50, va_up_ne _ _ (by decide)]; exact f37
    refine r_get kc2 X h 1 2 (by decide) rfl f58 (by decide) kv_92 rfl dX4_remember_78 ?_
    obtain ⟨g59, e60⟩ : ∃ z : Nat → Int32, upd g46 (z57).toNatClampNeg q13 = z := ⟨_, rfl⟩
    have p61 : pastA g59 := pastA_upd p48 e60 (by have := cl_of (x := z57) (by omega); omega)
    refine o_iast (f1 := g59) X hD h 13 0 (by decide) rfl f51 rfl (in_of (by omega) (by omega)) e60 dX4_remember_81 (fun H locs w62 e63 h => ?_)
    have f64 : w62 13 = .inl (cI, 88, .inl g59) := (congrFun e63 _).trans (va_up_self _ _ _)
    have ok65 : OK cI cB cZ cO ad w62 := OK.up ok52 e63 (sA_mk p61)
    have kx66 : KX w w62 := KX.up kx53 e63 f51 rfl
    refine lv_aload_n hx hb dX4_remember_82 rfl (lv_at hl 1 rfl) ?_
    have f67 : w62 12 = .inr (2, [.ref (ad 13), .int z2]) := by rw [e63, va_up_ne _ _ (by decide)]; exact f54
    refine r_get kc4 X h 12 0 (by decide) rfl f67 (by decide) kv_86 rfl dX4_remember_83 ?_
    refine lv_iload_n hx hb dX4_remember_86 rfl (lv_at hl 0 rfl) ?_
    refine lv_bipush (v := 8) hx hb dX4_remember_87 (by decide) ?_
    obtain ⟨z70, e68, t69⟩ := x_add (x := z9) (y := (8 : Int32)) (a := (z9).toInt) (b := 8) rfl rfl (by omega) (by omega)
    refine o_iadd (z := z70) hx hb dX4_remember_89 e68 ?_
    refine lv_iconst (v := 1) hx hb dX4_remember_90 (by decide) ?_
    obtain ⟨z73, e71, t72⟩ := x_add (x := z70) (y := (1 : Int32)) (a := (z70).toInt) (b := 1) rfl rfl (by omega) (by omega)
    refine o_iadd (z := z73) hx hb dX4_remember_91 e71 ?_
    refine lv_aload_n hx hb dX4_remember_92 rfl (lv_at hl 2 rfl) ?_
    have f74 : w62 1 = .inr (1, [.int q11, .int q12, .int q13, .int q14, .int q15, .ref (ad 2), .ref (ad 3), .ref (ad 4), .ref (ad 5), .ref (ad 6), .ref (ad 7), .ref (ad 8), .ref (ad 10), .ref (ad 12)]) := by rw [e63, va_up_ne _ _ (by decide)]; exact f58
    refine r_get kc2 X h 1 1 (by decide) rfl f74 (by decide) kv_93 rfl dX4_remember_93 ?_
    obtain ⟨g75, e76⟩ : ∃ z : Nat → Int32, upd g59 (z73).toNatClampNeg q12 = z := ⟨_, rfl⟩
    have p77 : pastA g75 := pastA_upd p61 e76 (by have := cl_of (x := z73) (by omega); omega)
    refine o_iast (f1 := g75) X hD h 13 0 (by decide) rfl f64 rfl (in_of (by omega) (by omega)) e76 dX4_remember_96 (fun H locs w78 e79 h => ?_)
    have f80 : w78 13 = .inl (cI, 88, .inl g75) := (congrFun e79 _).trans (va_up_self _ _ _)
    have ok81 : OK cI cB cZ cO ad w78 := OK.up ok65 e79 (sA_mk p77)
    have kx82 : KX w w78 := KX.up kx66 e79 f64 rfl
    refine lv_aload_n hx hb dX4_remember_97 rfl (lv_at hl 1 rfl) ?_
    have f83 : w78 12 = .inr (2, [.ref (ad 13), .int z2]) := by rw [e79, va_up_ne _ _ (by decide)]; exact f67
    refine r_get kc4 X h 12 0 (by decide) rfl f83 (by decide) kv_86 rfl dX4_remember_98 ?_
    refine lv_iload_n hx hb dX4_remember_101 rfl (lv_at hl 0 rfl) ?_
    refine lv_bipush (v := 8) hx hb dX4_remember_102 (by decide) ?_
    obtain ⟨z86, e84, t85⟩ := x_add (x := z9) (y := (8 : Int32)) (a := (z9).toInt) (b := 8) rfl rfl (by omega) (by omega)
    refine o_iadd (z := z86) hx hb dX4_remember_104 e84 ?_
    refine lv_iconst (v := 2) hx hb dX4_remember_105 (by decide) ?_
    obtain ⟨z89, e87, t88⟩ := x_add (x := z86) (y := (2 : Int32)) (a := (z86).toInt) (b := 2) rfl rfl (by omega) (by omega)
    refine o_iadd (z := z89) hx hb dX4_remember_106 e87 ?_
    refine lv_aload_n hx hb dX4_remember_107 rfl (lv_at hl 2 rfl) ?_
    have f90 : w78 1 = .inr (1, [.int q11, .int q12, .int q13, .int q14, .int q15, .ref (ad 2), .ref (ad 3), .ref (ad 4), .ref (ad 5), .ref (ad 6), .ref (ad 7), .ref (ad 8), .ref (ad 10), .ref (ad 12)]) := by rw [e79, va_up_ne _ _ (by decide)]; exact f74
    refine r_get kc2 X h 1 0 (by decide) rfl f90 (by decide) kv_94 rfl dX4_remember_108 ?_
    obtain ⟨g91, e92⟩ : ∃ z : Nat → Int32, upd g75 (z89).toNatClampNeg q11 = z := ⟨_, rfl⟩
    have p93 : pastA g91 := pastA_upd p77 e92 (by have := cl_of (x := z89) (by omega); omega)
    refine o_iast (f1 := g91) X hD h 13 0 (by decide) rfl f80 rfl (in_of (by omega) (by omega)) e92 dX4_remember_111 (fun H locs w94 e95 h => ?_)
    have f96 : w94 13 = .inl (cI, 88, .inl g91) := (congrFun e95 _).trans (va_up_self _ _ _)
    have ok97 : OK cI cB cZ cO ad w94 := OK.up ok81 e95 (sA_mk p93)
    have kx98 : KX w w94 := KX.up kx82 e95 f80 rfl
    refine lv_aload_n hx hb dX4_remember_112 rfl (lv_at hl 1 rfl) ?_
    refine lv_dup hx hb dX4_remember_113 rfl ?_
    have f99 : w94 12 = .inr (2, [.ref (ad 13), .int z2]) := by rw [e95, va_up_ne _ _ (by decide)]; exact f83
    refine r_get kc4 X h 12 1 (by decide) rfl f99 (by decide) kv_59 rfl dX4_remember_114 ?_
    refine lv_iconst (v := 1) hx hb dX4_remember_117 (by decide) ?_
    obtain ⟨z102, e100, t101⟩ := x_add (x := z2) (y := (1 : Int32)) (a := (z2).toInt) (b := 1) rfl rfl (by omega) (by omega)
    refine o_iadd (z := z102) hx hb dX4_remember_118 e100 ?_
    refine r_put kc4 X hD h 12 1 (by decide) rfl f99 (by decide) kv_59 rfl rfl rfl (Nat.le_of_ble_eq_true rfl) dX4_remember_119 (fun H locs w103 e104 h => ?_)
    have f105 : w103 12 = .inr (2, [.ref (ad 13), .int z102]) := (congrFun e104 _).trans (va_up_self _ _ _)
    have ok106 : OK cI cB cZ cO ad w103 := OK.up ok97 e104 (sR_mk (by omega) (by omega))
    have kx107 : KX w w103 := KX.up kx98 e104 f99 rfl
    exact e_v X h hr hlk dX4_remember_122 ⟨ok106, kx107, trivial⟩
  · have hc6 : ¬ (z2).toInt < 8 := i_nlt hc6 rfl rfl
    refine lv_aload_n hx hb dX4_remember_9 rfl (lv_at hl 0 rfl) ?_
    refine r_get kc4 X h 12 0 (by decide) rfl f5 (by decide) kv_86 rfl dX4_remember_10 ?_
    refine lv_bipush (v := 11) hx hb dX4_remember_13 (by decide) ?_
    refine lv_aload_n hx hb dX4_remember_15 rfl (lv_at hl 0 rfl) ?_
    refine r_get kc4 X h 12 0 (by decide) rfl f5 (by decide) kv_86 rfl dX4_remember_16 ?_
    refine lv_iconst (v := 0) hx hb dX4_remember_19 (by decide) ?_
    refine lv_bipush (v := 77) hx hb dX4_remember_20 (by decide) ?_
    obtain ⟨g109, f108, p110⟩ := (show sA cI 88 (pastA) (w 13) from ok 13 (by decide))
    have f111 : w 13 = .inl (cI, 88, .inl g109) := f108
    obtain ⟨g112, e113⟩ : ∃ z : Nat → Int32, va_cpy g109 g109 11 0 77 = z := ⟨_, rfl⟩
    have p114 : pastA g112 := pastA_shift p110 e113
    refine r_copy (f1 := g112) X hD h hl.1 kv_87 kv_88 kv_89 kv_90 13 13 0 (by decide) (by decide) rfl rfl f111 f111 rfl (by decide) (by decide) (by decide) (by decide) (by decide) e113 ⟨Nat.le_of_ble_eq_true rfl, by decide⟩ dX4_remember_22 (fun H locs w115 e116 h => ?_)
    have f117 : w115 13 = .inl (cI, 88, .inl g112) := (congrFun e116 _).trans (va_up_self _ _ _)
    have ok118 : OK cI cB cZ cO ad w115 := OK.up ok e116 (sA_mk p114)
    have kx119 : KX w w115 := KX.up KX.rf e116 f111 rfl
    refine lv_aload_n hx hb dX4_remember_25 rfl (lv_at hl 0 rfl) ?_
    refine lv_bipush (v := 7) hx hb dX4_remember_26 (by decide) ?_
    have f120 : w115 12 = .inr (2, [.ref (ad 13), .int z2]) := by rw [e116, va_up_ne _ _ (by decide)]; exact f5
    refine r_put kc4 X hD h 12 1 (by decide) rfl f120 (by decide) kv_59 rfl rfl rfl (Nat.le_of_ble_eq_true rfl) dX4_remember_28 (fun H locs w121 e122 h => ?_)
    have f123 : w121 12 = .inr (2, [.ref (ad 13), .int 7]) := (congrFun e122 _).trans (va_up_self _ _ _)
    have ok124 : OK cI cB cZ cO ad w121 := OK.up ok118 e122 (sR_mk (by decide) (by decide))
    have kx125 : KX w w121 := KX.up kx119 e122 f120 rfl
    refine lv_aload_n hx hb dX4_remember_31 rfl (lv_at hl 0 rfl) ?_
    refine r_get kc4 X h 12 1 (by decide) rfl f123 (by decide) kv_59 rfl dX4_remember_32 ?_
    refine lv_bipush (v := 11) hx hb dX4_remember_35 (by decide) ?_
    refine o_imul (z := 77) hx hb dX4_remember_37 rfl ?_
    refine lv_istore_n (lv' := [(2, .int 77), (0, .ref (ad 12)), (1, .ref (ad 1))]) hx hb dX4_remember_38 rfl hl (by decide) rfl (fun ls hl => ?_)
    refine lv_aload_n hx hb dX4_remember_39 rfl (lv_at hl 2 rfl) ?_
    obtain ⟨q127, q128, q129, q130, q131, f126, h132, h133, h134, h135⟩ := (show sI ad 1 (w121 1) from ok124 1 (by decide))
    have f136 : w121 1 = .inr (1, [.int q127, .int q128, .int q129, .int q130, .int q131, .ref (ad 2), .ref (ad 3), .ref (ad 4), .ref (ad 5), .ref (ad 6), .ref (ad 7), .ref (ad 8), .ref (ad 10), .ref (ad 12)]) := f126
    refine r_get kc2 X h 1 9 (by decide) rfl f136 (by decide) kv_85 rfl dX4_remember_40 ?_
    refine lv_iconst (v := 0) hx hb dX4_remember_43 (by decide) ?_
    refine lv_aload_n hx hb dX4_remember_44 rfl (lv_at hl 1 rfl) ?_
    refine r_get kc4 X h 12 0 (by decide) rfl f123 (by decide) kv_86 rfl dX4_remember_45 ?_
    refine lv_iload_n hx hb dX4_remember_48 rfl (lv_at hl 0 rfl) ?_
    refine lv_iconst (v := 4) hx hb dX4_remember_49 (by decide) ?_
    obtain ⟨g138, f137, p139⟩ := (show sA cI 4 (rgA 0 60) (w121 6) from ok124 6 (by decide))
    have f140 : w121 6 = .inl (cI, 4, .inl g138) := f137
    have f141 : w121 13 = .inl (cI, 88, .inl g112) := by rw [e122, va_up_ne _ _ (by decide)]; exact f117
    obtain ⟨g142, e143⟩ : ∃ z : Nat → Int32, va_cpy g138 g112 0 77 4 = z := ⟨_, rfl⟩
    have p144 : pastA g142 := pastA_cpyIn p139 p114 e143
    refine r_copy (f1 := g142) X hD h hl.1 kv_87 kv_88 kv_89 kv_90 6 13 0 (by decide) (by decide) rfl rfl f140 f141 rfl (by decide) (by decide) (by decide) (by decide) (by decide) e143 ⟨Nat.le_of_ble_eq_true rfl, by decide⟩ dX4_remember_50 (fun H locs w145 e146 h => ?_)
    have f147 : w145 13 = .inl (cI, 88, .inl g142) := (congrFun e146 _).trans (va_up_self _ _ _)
    have ok148 : OK cI cB cZ cO ad w145 := OK.up ok124 e146 (sA_mk p144)
    have kx149 : KX w w145 := KX.up kx125 e146 f141 rfl
    refine lv_aload_n hx hb dX4_remember_53 rfl (lv_at hl 2 rfl) ?_
    have f150 : w145 1 = .inr (1, [.int q127, .int q128, .int q129, .int q130, .int q131, .ref (ad 2), .ref (ad 3), .ref (ad 4), .ref (ad 5), .ref (ad 6), .ref (ad 7), .ref (ad 8), .ref (ad 10), .ref (ad 12)]) := by rw [e146, va_up_ne _ _ (by decide)]; exact f136
    refine r_get kc2 X h 1 10 (by decide) rfl f150 (by decide) kv_91 rfl dX4_remember_54 ?_
    refine lv_iconst (v := 0) hx hb dX4_remember_57 (by decide) ?_
    refine lv_aload_n hx hb dX4_remember_58 rfl (lv_at hl 1 rfl) ?_
    have f151 : w145 12 = .inr (2, [.ref (ad 13), .int 7]) := by rw [e146, va_up_ne _ _ (by decide)]; exact f123
    refine r_get kc4 X h 12 0 (by decide) rfl f151 (by decide) kv_86 rfl dX4_remember_59 ?_
    refine lv_iload_n hx hb dX4_remember_62 rfl (lv_at hl 0 rfl) ?_
    refine lv_iconst (v := 4) hx hb dX4_remember_63 (by decide) ?_
    refine o_iadd (z := 81) hx hb dX4_remember_64 rfl ?_
    refine lv_iconst (v := 4) hx hb dX4_remember_65 (by decide) ?_
    obtain ⟨g153, f152, p154⟩ := (show sA cI 4 (anyA) (w145 7) from ok148 7 (by decide))
    have f155 : w145 7 = .inl (cI, 4, .inl g153) := f152
    obtain ⟨g156, e157⟩ : ∃ z : Nat → Int32, va_cpy g153 g142 0 81 4 = z := ⟨_, rfl⟩
    have p158 : pastA g156 := pastA_cpyT p144 e157 (by decide)
    refine r_copy (f1 := g156) X hD h hl.1 kv_87 kv_88 kv_89 kv_90 7 13 0 (by decide) (by decide) rfl rfl f155 f147 rfl (by decide) (by decide) (by decide) (by decide) (by decide) e157 ⟨Nat.le_of_ble_eq_true rfl, by decide⟩ dX4_remember_66 (fun H locs w159 e160 h => ?_)
    have f161 : w159 13 = .inl (cI, 88, .inl g156) := (congrFun e160 _).trans (va_up_self _ _ _)
    have ok162 : OK cI cB cZ cO ad w159 := OK.up ok148 e160 (sA_mk p158)
    have kx163 : KX w w159 := KX.up kx149 e160 f147 rfl
    refine lv_aload_n hx hb dX4_remember_69 rfl (lv_at hl 1 rfl) ?_
    have f164 : w159 12 = .inr (2, [.ref (ad 13), .int 7]) := by rw [e160, va_up_ne _ _ (by decide)]; exact f151
    refine r_get kc4 X h 12 0 (by decide) rfl f164 (by decide) kv_86 rfl dX4_remember_70 ?_
    refine lv_iload_n hx hb dX4_remember_73 rfl (lv_at hl 0 rfl) ?_
    refine lv_bipush (v := 8) hx hb dX4_remember_74 (by decide) ?_
    refine o_iadd (z := 85) hx hb dX4_remember_76 rfl ?_
    refine lv_aload_n hx hb dX4_remember_77 rfl (lv_at hl 2 rfl) ?_
    have f165 : w159 1 = .inr (1, [.int q127, .int q128, .int q129, .int q130, .int q131, .ref (ad 2), .ref (ad 3), .ref (ad 4), .ref (ad 5), .ref (ad 6), .ref (ad 7), .ref (ad 8), .ref (ad 10), .ref (ad 12)]) := by rw [e160, va_up_ne _ _ (by decide)]; exact f150
    refine r_get kc2 X h 1 2 (by decide) rfl f165 (by decide) kv_92 rfl dX4_remember_78 ?_
    obtain ⟨g166, e167⟩ : ∃ z : Nat → Int32, upd g156 85 q129 = z := ⟨_, rfl⟩
    have p168 : pastA g166 := pastA_upd p158 e167 (by decide)
    refine o_iast (f1 := g166) X hD h 13 0 (by decide) rfl f161 rfl (by unfold vp_in; decide) e167 dX4_remember_81 (fun H locs w169 e170 h => ?_)
    have f171 : w169 13 = .inl (cI, 88, .inl g166) := (congrFun e170 _).trans (va_up_self _ _ _)
    have ok172 : OK cI cB cZ cO ad w169 := OK.up ok162 e170 (sA_mk p168)
    have kx173 : KX w w169 := KX.up kx163 e170 f161 rfl
    refine lv_aload_n hx hb dX4_remember_82 rfl (lv_at hl 1 rfl) ?_
    have f174 : w169 12 = .inr (2, [.ref (ad 13), .int 7]) := by rw [e170, va_up_ne _ _ (by decide)]; exact f164
    refine r_get kc4 X h 12 0 (by decide) rfl f174 (by decide) kv_86 rfl dX4_remember_83 ?_
    refine lv_iload_n hx hb dX4_remember_86 rfl (lv_at hl 0 rfl) ?_
    refine lv_bipush (v := 8) hx hb dX4_remember_87 (by decide) ?_
    refine o_iadd (z := 85) hx hb dX4_remember_89 rfl ?_
    refine lv_iconst (v := 1) hx hb dX4_remember_90 (by decide) ?_
    refine o_iadd (z := 86) hx hb dX4_remember_91 rfl ?_
    refine lv_aload_n hx hb dX4_remember_92 rfl (lv_at hl 2 rfl) ?_
    have f175 : w169 1 = .inr (1, [.int q127, .int q128, .int q129, .int q130, .int q131, .ref (ad 2), .ref (ad 3), .ref (ad 4), .ref (ad 5), .ref (ad 6), .ref (ad 7), .ref (ad 8), .ref (ad 10), .ref (ad 12)]) := by rw [e170, va_up_ne _ _ (by decide)]; exact f165
    refine r_get kc2 X h 1 1 (by decide) rfl f175 (by decide) kv_93 rfl dX4_remember_93 ?_
    obtain ⟨g176, e177⟩ : ∃ z : Nat → Int32, upd g166 86 q128 = z := ⟨_, rfl⟩
    have p178 : pastA g176 := pastA_upd p168 e177 (by decide)
    refine o_iast (f1 := g176) X hD h 13 0 (by decide) rfl f171 rfl (by unfold vp_in; decide) e177 dX4_remember_96 (fun H locs w179 e180 h => ?_)
    have f181 : w179 13 = .inl (cI, 88, .inl g176) := (congrFun e180 _).trans (va_up_self _ _ _)
    have ok182 : OK cI cB cZ cO ad w179 := OK.up ok172 e180 (sA_mk p178)
    have kx183 : KX w w179 := KX.up kx173 e180 f171 rfl
    refine lv_aload_n hx hb dX4_remember_97 rfl (lv_at hl 1 rfl) ?_
    have f184 : w179 12 = .inr (2, [.ref (ad 13), .int 7]) := by rw [e180, va_up_ne _ _ (by decide)]; exact f174
    refine r_get kc4 X h 12 0 (by decide) rfl f184 (by decide) kv_86 rfl dX4_remember_98 ?_
    refine lv_iload_n hx hb dX4_remember_101 rfl (lv_at hl 0 rfl) ?_
    refine lv_bipush (v := 8) hx hb dX4_remember_102 (by decide) ?_
    refine o_iadd (z := 85) hx hb dX4_remember_104 rfl ?_
    refine lv_iconst (v := 2) hx hb dX4_remember_105 (by decide) ?_
    refine o_iadd (z := 87) hx hb dX4_remember_106 rfl ?_
    refine lv_aload_n hx hb dX4_remember_107 rfl (lv_at hl 2 rfl) ?_
    have f185 : w179 1 = .inr (1, [.int q127, .int q128, .int q129, .int q130, .int q131, .ref (ad 2), .ref (ad 3), .ref (ad 4), .ref (ad 5), .ref (ad 6), .ref (ad 7), .ref (ad 8), .ref (ad 10), .ref (ad 12)]) := by rw [e180, va_up_ne _ _ (by decide)]; exact f175
    refine r_get kc2 X h 1 0 (by decide) rfl f185 (by decide) kv_94 rfl dX4_remember_108 ?_
    obtain ⟨g186, e187⟩ : ∃ z : Nat → Int32, upd g176 87 q127 = z := ⟨_, rfl⟩
    have p188 : pastA g186 := pastA_upd p178 e187 (by decide)
    refine o_iast (f1 := g186) X hD h 13 0 (by decide) rfl f181 rfl (by unfold vp_in; decide) e187 dX4_remember_111 (fun H locs w189 e190 h => ?_)
    have f191 : w189 13 = .inl (cI, 88, .inl g186) := (congrFun e190 _).trans (va_up_self _ _ _)
    have ok192 : OK cI cB cZ cO ad w189 := OK.up ok182 e190 (sA_mk p188)
    have kx193 : KX w w189 := KX.up kx183 e190 f181 rfl
    refine lv_aload_n hx hb dX4_remember_112 rfl (lv_at hl 1 rfl) ?_
    refine lv_dup hx hb dX4_remember_113 rfl ?_
    have f194 : w189 12 = .inr (2, [.ref (ad 13), .int 7]) := by rw [e190, va_up_ne _ _ (by decide)]; exact f184
    refine r_get kc4 X h 12 1 (by decide) rfl f194 (by decide) kv_59 rfl dX4_remember_114 ?_
    refine lv_iconst (v := 1) hx hb dX4_remember_117 (by decide) ?_
    refine o_iadd (z := 8) hx hb dX4_remember_118 rfl ?_
    refine r_put kc4 X hD h 12 1 (by decide) rfl f194 (by decide) kv_59 rfl rfl rfl (Nat.le_of_ble_eq_true rfl) dX4_remember_119 (fun H locs w195 e196 h => ?_)
    have f197 : w195 12 = .inr (2, [.ref (ad 13), .int 8]) := (congrFun e196 _).trans (va_up_self _ _ _)
    have ok198 : OK cI cB cZ cO ad w195 := OK.up ok192 e196 (sR_mk (by decide) (by decide))
    have kx199 : KX w w195 := KX.up kx193 e196 f194 rfl
    exact e_v X h hr hlk dX4_remember_122 ⟨ok198, kx199, trivial⟩

set_option maxHeartbeats 4000000 in
set_option maxRecDepth 100000 in
theorem c_bringBack (l : Launch) (G : va_G) (cI cB cZ cO : ClassId) (ad : Nat → Nat) (w : Nat → va_E)  (ok : OK cI cB cZ cO ad w)    : NI l G (tyq cI cB cZ cO) yX4_bringBack cX4_bringBack 3 (some .boolean) 1 40 74 ad w [.ref (ad 12), .ref (ad 1)] (fun r w1 => OK cI cB cZ cO ad w1 ∧ KX w w1 ∧ (r = 1 ∨ r = 0)) := by
  refine nk_i (own := "NoonShade$Past") rfl (by decide) (Nat.le_of_ble_eq_true rfl) ?_
  intro p e s m below meth c ls X hD hN hr hlk h hl
  have hx := X.1.1
  have hb := X.1.2.1
  have hown := X.1.2.2.2.1
  have hts := X.1.2.2.2.2
  have hl : lv_has ls 3 [(0, .ref (ad 12)), (1, .ref (ad 1))] := hl
  refine lv_aload_n hx hb dX4_bringBack_0 rfl (lv_at hl 0 rfl) ?_
  obtain ⟨z2, f1, h3, h4⟩ := (show sR ad 2 13 8 (w 12) from ok 12 (by decide))
  have f5 : w 12 = .inr (2, [.ref (ad 13), .int z2]) := f1
  refine r_get kc4 X h 12 1 (by decide) rfl f5 (by decide) kv_59 rfl dX4_bringBack_1 ?_
  refine lv_if_gt (tgt := 9) hx hb dX4_bringBack_4 (by decide) (fun hc6 => ?_) (fun hc6 => ?_)
  · have hc6 : 0 < (z2).toInt := i_lt hc6 rfl rfl
    refine lv_aload_n hx hb dX4_bringBack_9 rfl (lv_at hl 0 rfl) ?_
    refine lv_dup hx hb dX4_bringBack_10 rfl ?_
    refine r_get kc4 X h 12 1 (by decide) rfl f5 (by decide) kv_59 rfl dX4_bringBack_11 ?_
    refine lv_iconst (v := 1) hx hb dX4_bringBack_14 (by decide) ?_
    obtain ⟨z9, e7, t8⟩ := x_sub (x := z2) (y := (1 : Int32)) (a := (z2).toInt) (b := 1) rfl rfl (by omega) (by omega)
    refine o_isub (z := z9) hx hb dX4_bringBack_15 e7 ?_
    refine r_put kc4 X hD h 12 1 (by decide) rfl f5 (by decide) kv_59 rfl rfl rfl (Nat.le_of_ble_eq_true rfl) dX4_bringBack_16 (fun H locs w10 e11 h => ?_)
    have f12 : w10 12 = .inr (2, [.ref (ad 13), .int z9]) := (congrFun e11 _).trans (va_up_self _ _ _)
    have ok13 : OK cI cB cZ cO ad w10 := OK.up ok e11 (sR_mk (by omega) (by omega))
    have kx14 : KX w w10 := KX.up KX.rf e11 f5 rfl
    refine lv_aload_n hx hb dX4_bringBack_19 rfl (lv_at hl 0 rfl) ?_
    refine r_get kc4 X h 12 1 (by decide) rfl f12 (by decide) kv_59 rfl dX4_bringBack_20 ?_
    refine lv_bipush (v := 11) hx hb dX4_bringBack_23 (by decide) ?_
    obtain ⟨z17, e15, t16⟩ := x_mul (x := z9) (y := (11 : Int32)) (a := (z9).toInt) (b := 11) rfl rfl (by omega) (by omega)
    refine o_imul (z := z17) hx hb dX4_bringBack_25 e15 ?_
    refine lv_istore_n (lv' := [(2, .int z17), (0, .ref (ad 12)), (1, .ref (ad 1))]) hx hb dX4_bringBack_26 rfl hl (by decide) rfl (fun ls hl => ?_)
    refine lv_aload_n hx hb dX4_bringBack_27 rfl (lv_at hl 1 rfl) ?_
    refine r_get kc4 X h 12 0 (by decide) rfl f12 (by decide) kv_86 rfl dX4_bringBack_28 ?_
    refine lv_iload_n hx hb dX4_bringBack_31 rfl (lv_at hl 0 rfl) ?_
    refine lv_aload_n hx hb dX4_bringBack_32 rfl (lv_at hl 2 rfl) ?_
    obtain ⟨q19, q20, q21, q22, q23, f18, h24, h25, h26, h27⟩ := (show sI ad 1 (w10 1) from ok13 1 (by decide))
    have f28 : w10 1 = .inr (1, [.int q19, .int q20, .int q21, .int q22, .int q23, .ref (ad 2), .ref (ad 3), .ref (ad 4), .ref (ad 5), .ref (ad 6), .ref (ad 7), .ref (ad 8), .ref (ad 10), .ref (ad 12)]) := f18
    refine r_get kc2 X h 1 9 (by decide) rfl f28 (by decide) kv_85 rfl dX4_bringBack_33 ?_
    refine lv_iconst (v := 0) hx hb dX4_bringBack_36 (by decide) ?_
    refine lv_iconst (v := 4) hx hb dX4_bringBack_37 (by decide) ?_
    obtain ⟨g30, f29, p31⟩ := (show sA cI 88 (pastA) (w10 13) from ok13 13 (by decide))
    have f32 : w10 13 = .inl (cI, 88, .inl g30) := f29
    obtain ⟨g34, f33, p35⟩ := (show sA cI 4 (rgA 0 60) (w10 6) from ok13 6 (by decide))
    have f36 : w10 6 = .inl (cI, 4, .inl g34) := f33
    obtain ⟨g37, e38⟩ : ∃ z : Nat → Int32, va_cpy g30 g34 (z17).toNatClampNeg 0 4 = z := ⟨_, rfl⟩
    have p39 : rgA 0 60 g37 := pastA_out p31 p35 e38 (by have := cl_of (x := z17) (by omega); omega)
    refine r_copy (f1 := g37) X hD h hl.1 kv_87 kv_88 kv_89 kv_90 13 6 0 (by decide) (by decide) rfl rfl f32 f36 rfl (fun q => absurd ((fa_lt _ _).mp q) (by have k0 : (0 : Int32).toInt = 0 := rfl; omega)) (by decide) (by decide) (by have := cl_of (x := z17) (by omega); have k0 : (4 : Int32).toNatClampNeg = 4 := (by decide); omega) (by decide) e38 ⟨Nat.le_of_ble_eq_true rfl, by decide⟩ dX4_bringBack_38 (fun H locs w40 e41 h => ?_)
    have f42 : w40 6 = .inl (cI, 4, .inl g37) := (congrFun e41 _).trans (va_up_self _ _ _)
    have ok43 : OK cI cB cZ cO ad w40 := OK.up ok13 e41 (sA_mk p39)
    have kx44 : KX w w40 := KX.up kx14 e41 f36 rfl
    refine lv_aload_n hx hb dX4_bringBack_41 rfl (lv_at hl 1 rfl) ?_
    have f45 : w40 12 = .inr (2, [.ref (ad 13), .int z9]) := by rw [e41, va_up_ne _ _ (by decide)]; exact f12
    refine r_get kc4 X h 12 0 (by decide) rfl f45 (by decide) kv_86 rfl dX4_bringBack_42 ?_
    refine lv_iload_n hx hb dX4_bringBack_45 rfl (lv_at hl 0 rfl) ?_
    refine lv_iconst (v := 4) hx hb dX4_bringBack_46 (by decide) ?_
    obtain ⟨z48, e46, t47⟩ := x_add (x := z17) (y := (4 : Int32)) (a := (z17).toInt) (b := 4) rfl rfl (by omega) (by omega)
    refine o_iadd (z := z48) hx hb dX4_bringBack_47 e46 ?_
    refine lv_aload_n hx hb dX4_bringBack_48 rfl (lv_at hl 2 rfl) ?_
    have f49 : w40 1 = .inr (1, [.int q19, .int q20, .int q21, .int q22, .int q23, .ref (ad 2), .ref (ad 3), .ref (ad 4), .ref (ad 5), .ref (ad 6), .ref (ad 7), .ref (ad 8), .ref (ad 10), .ref (ad 12)]) := by rw [e41, va_up_ne _ _ (by decide)]; exact f28
    refine r_get kc2 X h 1 10 (by decide) rfl f49 (by decide) kv_91 rfl dX4_bringBack_49 ?_
    refine lv_iconst (v := 0) hx hb dX4_bringBack_52 (by decide) ?_
    refine lv_iconst (v := 4) hx hb dX4_bringBack_53 (by decide) ?_
    have f50 : w40 13 = .inl (cI, 88, .inl g30) := by rw [e41, va_up_ne _ _ (by decide)]; exact f32
    obtain ⟨g52, f51, p53⟩ := (show sA cI 4 (anyA) (w40 7) from ok43 7 (by decide))
    have f54 : w40 7 = .inl (cI, 4, .inl g52) := f51
    obtain ⟨g55, e56⟩ : ∃ z : Nat → Int32, va_cpy g30 g52 (z48).toNatClampNeg 0 4 = z := ⟨_, rfl⟩
    have p57 : anyA g55 := trivial
    refine r_copy (f1 := g55) X hD h hl.1 kv_87 kv_88 kv_89 kv_90 13 7 0 (by decide) (by decide) rfl rfl f50 f54 rfl (fun q => absurd ((fa_lt _ _).mp q) (by have k0 : (0 : Int32).toInt = 0 := rfl; omega)) (by decide) (by decide) (by have := cl_of (x := z48) (by omega); have k0 : (4 : Int32).toNatClampNeg = 4 := (by decide); omega) (by decide) e56 ⟨Nat.le_of_ble_eq_true rfl, by decide⟩ dX4_bringBack_54 (fun H locs w58 e59 h => ?_)
    have f60 : w58 7 = .inl (cI, 4, .inl g55) := (congrFun e59 _).trans (va_up_self _ _ _)
    have ok61 : OK cI cB cZ cO ad w58 := OK.up ok43 e59 (sA_mk p57)
    have kx62 : KX w w58 := KX.up kx44 e59 f54 rfl
    refine lv_aload_n hx hb dX4_bringBack_57 rfl (lv_at hl 2 rfl) ?_
    refine lv_aload_n hx hb dX4_bringBack_58 rfl (lv_at hl 1 rfl) ?_
    have f63 : w58 12 = .inr (2, [.ref (ad 13), .int z9]) := by rw [e59, va_up_ne _ _ (by decide)]; exact f45
    refine r_get kc4 X h 12 0 (by decide) rfl f63 (by decide) kv_86 rfl dX4_bringBack_59 ?_
    refine lv_iload_n hx hb dX4_bringBack_62 rfl (lv_at hl 0 rfl) ?_
    refine lv_bipush (v := 8) hx hb dX4_bringBack_63 (by decide) ?_
    obtain ⟨z66, e64, t65⟩ := x_add (x := z17) (y := (8 : Int32)) (a := (z17).toInt) (b := 8) rfl rfl (by omega) (by omega)
    refine o_iadd (z := z66) hx hb dX4_bringBack_65 e64 ?_
    have f67 : w58 13 = .inl (cI, 88, .inl g30) := by rw [e59, va_up_ne _ _ (by decide)]; exact f50
    obtain ⟨v68, e69⟩ : ∃ z : Int32, g30 (z66).toNatClampNeg = z := ⟨_, rfl⟩
    refine o_iald (v := v68) X h 13 0 (by decide) rfl f67 rfl (in_of (by omega) (by omega)) e69 dX4_bringBack_66 ?_
    have f71 : w58 1 = .inr (1, [.int q19, .int q20, .int q21, .int q22, .int q23, .ref (ad 2), .ref (ad 3), .ref (ad 4), .ref (ad 5), .ref (ad 6), .ref (ad 7), .ref (ad 8), .ref (ad 10), .ref (ad 12)]) := by rw [e59, va_up_ne _ _ (by decide)]; exact f49
    refine r_put kc2 X hD h 1 2 (by decide) rfl f71 (by decide) kv_92 rfl rfl rfl (Nat.le_of_ble_eq_true rfl) dX4_bringBack_67 (fun H locs w72 e73 h => ?_)
    have f74 : w72 1 = .inr (1, [.int q19, .int q20, .int v68, .int q22, .int q23, .ref (ad 2), .ref (ad 3), .ref (ad 4), .ref (ad 5), .ref (ad 6), .ref (ad 7), .ref (ad 8), .ref (ad 10), .ref (ad 12)]) := (congrFun e73 _).trans (va_up_self _ _ _)
    have ok75 : OK cI cB cZ cO ad w72 := OK.up ok61 e73 (sI_mk (by omega) (by omega) (by omega) (by omega))
    have kx76 : KX w w72 := KX.up kx62 e73 f71 rfl
    refine lv_aload_n hx hb dX4_bringBack_70 rfl (lv_at hl 2 rfl) ?_
    refine lv_aload_n hx hb dX4_bringBack_71 rfl (lv_at hl 1 rfl) ?_
    have f77 : w72 12 = .inr (2, [.ref (ad 13), .int z9]) := by rw [e73, va_up_ne _ _ (by decide)]; exact f63
    refine r_get kc4 X h 12 0 (by decide) rfl f77 (by decide) kv_86 rfl dX4_bringBack_72 ?_
    refine lv_iload_n hx hb dX4_bringBack_75 rfl (lv_at hl 0 rfl) ?_
    refine lv_bipush (v := 8) hx hb dX4_bringBack_76 (by decide) ?_
    obtain ⟨z80, e78, t79⟩ := x_add (x := z17) (y := (8 : Int32)) (a := (z17).toInt) (b := 8) rfl rfl (by omega) (by omega)
    refine o_iadd (z := z80) hx hb dX4_bringBack_78 e78 ?_
    refine lv_iconst (v := 1) hx hb dX4_bringBack_79 (by decide) ?_
    obtain ⟨z83, e81, t82⟩ := x_add (x := z80) (y := (1 : Int32)) (a := (z80).toInt) (b := 1) rfl rfl (by omega) (by omega)
    refine o_iadd (z := z83) hx hb dX4_bringBack_80 e81 ?_
    have f84 : w72 13 = .inl (cI, 88, .inl g30) := by rw [e73, va_up_ne _ _ (by decide)]; exact f67
    obtain ⟨v85, e86⟩ : ∃ z : Int32, g30 (z83).toNatClampNeg = z := ⟨_, rfl⟩
    refine o_iald (v := v85) X h 13 0 (by decide) rfl f84 rfl (in_of (by omega) (by omega)) e86 dX4_bringBack_81 ?_
    refine r_put kc2 X hD h 1 1 (by decide) rfl f74 (by decide) kv_93 rfl rfl rfl (Nat.le_of_ble_eq_true rfl) dX4_bringBack_82 (fun H locs w88 e89 h => ?_)
    have f90 : w88 1 = .inr (1, [.int q19, .int v85, .int v68, .int q22, .int q23, .ref (ad 2), .ref (ad 3), .ref (ad 4), .ref (ad 5), .ref (ad 6), .ref (ad 7), .ref (ad 8), .ref (ad 10), .ref (ad 12)]) := (congrFun e89 _).trans (va_up_self _ _ _)
    have ok91 : OK cI cB cZ cO ad w88 := OK.up ok75 e89 (sI_mk (by omega) (by omega) (by omega) (by omega))
    have kx92 : KX w w88 := KX.up kx76 e89 f74 rfl
    refine lv_aload_n hx hb dX4_bringBack_85 rfl (lv_at hl 2 rfl) ?_
    refine lv_aload_n hx hb dX4_bringBack_86 rfl (lv_at hl 1 rfl) ?_
    have f93 : w88 12 = .inr (2, [.ref (ad 13), .int z9]) := by rw [e89, va_up_ne _ _ (by decide)]; exact f77
    refine r_get kc4 X h 12 0 (by decide) rfl f93 (by decide) kv_86 rfl dX4_bringBack_87 ?_
    refine lv_iload_n hx hb dX4_bringBack_90 rfl (lv_at hl 0 rfl) ?_
    refine lv_bipush (v := 8) hx hb dX4_bringBack_91 (by decide) ?_
    obtain ⟨z96, e94, t95⟩ := x_add (x := z17) (y := (8 : Int32)) (a := (z17).toInt) (b := 8) rfl rfl (by omega) (by omega)
    refine o_iadd (z := z96) hx hb dX4_bringBack_93 e94 ?_
    refine lv_iconst (v := 2) hx hb dX4_bringBack_94 (by decide) ?_
    obtain ⟨z99, e97, t98⟩ := x_add (x := z96) (y := (2 : Int32)) (a := (z96).toInt) (b := 2) rfl rfl (by omega) (by omega)
    refine o_iadd (z := z99) hx hb dX4_bringBack_95 e97 ?_
    have f100 : w88 13 = .inl (cI, 88, .inl g30) := by rw [e89, va_up_ne _ _ (by decide)]; exact f84
    obtain ⟨v101, e102⟩ : ∃ z : Int32, g30 (z99).toNatClampNeg = z := ⟨_, rfl⟩
    refine o_iald (v := v101) X h 13 0 (by decide) rfl f100 rfl (in_of (by omega) (by omega)) e102 dX4_bringBack_96 ?_
    refine r_put kc2 X hD h 1 0 (by decide) rfl f90 (by decide) kv_94 rfl rfl rfl (Nat.le_of_ble_eq_true rfl) dX4_bringBack_97 (fun H locs w104 e105 h => ?_)
    have f106 : w104 1 = .inr (1, [.int v101, .int v85, .int v68, .int q22, .int q23, .ref (ad 2), .ref (ad 3), .ref (ad 4), .ref (ad 5), .ref (ad 6), .ref (ad 7), .ref (ad 8), .ref (ad 10), .ref (ad 12)]) := (congrFun e105 _).trans (va_up_self _ _ _)
    have ok107 : OK cI cB cZ cO ad w104 := OK.up ok91 e105 (sI_mk (by omega) (by omega) (by omega) (by omega))
    have kx108 : KX w w104 := KX.up kx92 e105 f90 rfl
    refine lv_iconst (v := 1) hx hb dX4_bringBack_100 (by decide) ?_
    exact e_n X h hr hlk rfl dX4_bringBack_101 ⟨ok107, kx108, Or.inl rfl⟩
  · have hc6 : ¬ 0 < (z2).toInt := i_nlt hc6 rfl rfl
    refine lv_iconst (v := 0) hx hb dX4_bringBack_7 (by decide) ?_
    exact e_n X h hr hlk rfl dX4_bringBack_8 ⟨ok, KX.rf, Or.inr rfl⟩

