set_option maxHeartbeats 4000000 in
set_option maxRecDepth 100000 in
theorem c_M_casterBy (l : Launch) (G : va_G) (cI cB cZ cO : ClassId) (ad : Nat → Nat) (w : Nat → va_E)  (ok : OK cI cB cZ cO ad w) (x : Int32) (n : Int32) (k : Int32) (hl_x : 0 ≤ x.toInt) (hh_x : x.toInt ≤ 10000) (hl_n : 0 ≤ n.toInt) (hh_n : n.toInt ≤ 4) (hl_k : 0 ≤ k.toInt) (hh_k : k.toInt ≤ 3) (hkn : k.toInt < n.toInt) : NI l G (tyq cI cB cZ cO) yX9_casterBy cX9_casterBy 4 (some .int) 1 23 74 ad w [.ref (ad 64), .int x, .int n, .int k] (fun r w1 => w = w1 ∧ 0 ≤ r.toInt ∧ r.toInt ≤ 7) := by
  refine nk_i (own := "NoonShadeModel") rfl (by decide) (Nat.le_of_ble_eq_true rfl) ?_
  intro p e s m below meth c ls X hD hN hr hlk h hl
  have hx := X.1.1
  have hb := X.1.2.1
  have hown := X.1.2.2.2.1
  have hts := X.1.2.2.2.2
  have hl : lv_has ls 4 [(0, .ref (ad 64)), (1, .int x), (2, .int n), (3, .int k)] := hl
  refine lv_iload_n hx hb dX9_casterBy_0 rfl (lv_at hl 1 rfl) ?_
  refine lv_aload_n hx hb dX9_casterBy_1 rfl (lv_at hl 0 rfl) ?_
  obtain ⟨x2, x3, t4, t5, t6, t7, t8, t9, f1, h10, h11⟩ := (show sM ad (w 64) from ok 64 (by decide))
  have f12 : w 64 = .inr (7, [.ref (ad 65), .ref (ad 66), .ref (ad 67), .ref (ad 68), .long x2, .long x3, .ref (ad 69), .int t4, .ref (ad 70), .ref (ad 71), .int t5, .int t6, .int t7, .int t8, .int t9, .ref (ad 72), .ref (ad 73)]) := f1
  refine r_get kc9 X h 64 0 (by decide) rfl f12 (by decide) kv_467 rfl dX9_casterBy_2 ?_
  refine lv_iconst (v := 0) hx hb dX9_casterBy_5 (by decide) ?_
  obtain ⟨g14, f13, p15⟩ := (show sA cI 177 (alA) (w 65) from ok 65 (by decide))
  have f16 : w 65 = .inl (cI, 177, .inl g14) := f13
  obtain ⟨v17, e18⟩ : ∃ z : Int32, g14 0 = z := ⟨_, rfl⟩
  have h19 := (alA_rd p15 e18).1 rfl
  refine o_iald (v := v17) X h 65 0 (by decide) rfl f16 rfl (by unfold vp_in; decide) e18 dX9_casterBy_6 ?_
  refine lv_iconst (v := 1) hx hb dX9_casterBy_7 (by decide) ?_
  obtain ⟨z22, e20, t21⟩ := x_add (x := v17) (y := (1 : Int32)) (a := (v17).toInt) (b := 1) rfl rfl (by omega) (by omega)
  refine o_iadd (z := z22) hx hb dX9_casterBy_8 e20 ?_
  refine lv_iload_n hx hb dX9_casterBy_9 rfl (lv_at hl 2 rfl) ?_
  refine lv_iconst (v := 1) hx hb dX9_casterBy_10 (by decide) ?_
  obtain ⟨z25, e23, t24⟩ := x_sub (x := n) (y := (1 : Int32)) (a := (n).toInt) (b := 1) rfl rfl (by omega) (by omega)
  refine o_isub (z := z25) hx hb dX9_casterBy_11 e23 ?_
  refine lv_iload_n hx hb dX9_casterBy_12 rfl (lv_at hl 3 rfl) ?_
  obtain ⟨z28, e26, t27⟩ := x_sub (x := z25) (y := k) (a := (z25).toInt) (b := (k).toInt) rfl rfl (by omega) (by omega)
  refine o_isub (z := z28) hx hb dX9_casterBy_13 e26 ?_
  refine n_Si (na := 2) (As := [.int z22, .int z28]) (rest := [.int x]) X hD hN h (c_M_power l G cI cB cZ cO ad w z22 z28 (by omega) (by omega) (by omega) (by omega)) ⟨kv_499, kv_500, kv_470, kv_501⟩ ⟨by decide, by decide, by decide⟩ ⟨Nat.le_of_ble_eq_true rfl, Nat.le_of_ble_eq_true rfl⟩ ⟨Nat.zero_le _, Nat.zero_le _⟩ rfl hl.1 rfl (Nat.le_of_ble_eq_true rfl) dX9_casterBy_14 (fun r29 w30 H locs hp31 h => ?_)
  obtain ⟨rfl, hr32⟩ := hp31
  obtain ⟨h33, h34⟩ := hr32
  obtain ⟨z37, e35, t36, t36b⟩ := x_divv (x := x) (y := r29) (by omega) (by omega)
  refine o_idiv (z := z37) hx hb dX9_casterBy_17 (ne0 (by omega)) e35 ?_
  refine lv_aload_n hx hb dX9_casterBy_18 rfl (lv_at hl 0 rfl) ?_
  refine r_get kc9 X h 64 0 (by decide) rfl f12 (by decide) kv_467 rfl dX9_casterBy_19 ?_
  refine lv_iconst (v := 0) hx hb dX9_casterBy_22 (by decide) ?_
  refine o_iald (v := v17) X h 65 0 (by decide) rfl f16 rfl (by unfold vp_in; decide) e18 dX9_casterBy_23 ?_
  refine lv_iconst (v := 1) hx hb dX9_casterBy_24 (by decide) ?_
  obtain ⟨z40, e38, t39⟩ := x_add (x := v17) (y := (1 : Int32)) (a := (v17).toInt) (b := 1) rfl rfl (by omega) (by omega)
  refine o_iadd (z := z40) hx hb dX9_casterBy_25 e38 ?_
  obtain ⟨z43, e41, t42, t42b⟩ := x_remv (x := z37) (y := z40) (by omega) (by omega)
  refine o_irem (z := z43) hx hb dX9_casterBy_26 (ne0 (by omega)) e41 ?_
  exact e_i X h hr hlk dX9_casterBy_27 ⟨rfl, ⟨by omega, by omega⟩⟩

set_option maxHeartbeats 4000000 in
set_option maxRecDepth 100000 in
theorem c_M_bestRow (l : Launch) (G : va_G) (cI cB cZ cO : ClassId) (ad : Nat → Nat) (w : Nat → va_E)  (ok : OK cI cB cZ cO ad w) (j : Int32) (n : Int32) (hl_j : 0 ≤ j.toInt) (hh_j : j.toInt ≤ 3) (hl_n : 0 ≤ n.toInt) (hh_n : n.toInt ≤ 4)  : NI l G (tyq cI cB cZ cO) yX9_bestRow cX9_bestRow 9 (some .int) 3 69 74 ad w [.ref (ad 64), .int j, .int n] (fun r w1 => OK cI cB cZ cO ad w1 ∧ KM w w1 ∧ 0 ≤ r.toInt ∧ r.toInt ≤ 10000) := by
  refine nk_i (own := "NoonShadeModel") rfl (by decide) (Nat.le_of_ble_eq_true rfl) ?_
  intro p e s m below meth c ls X hD hN hr hlk h hl
  have hx := X.1.1
  have hb := X.1.2.1
  have hown := X.1.2.2.2.1
  have hts := X.1.2.2.2.2
  have hl : lv_has ls 9 [(0, .ref (ad 64)), (1, .int j), (2, .int n)] := hl
  refine lv_iconst (v := 0) hx hb dX9_bestRow_0 (by decide) ?_
  refine lv_istore_n (lv' := [(3, .int 0), (0, .ref (ad 64)), (1, .int j), (2, .int n)]) hx hb dX9_bestRow_1 rfl hl (by decide) rfl (fun ls hl => ?_)
  refine lv_aload_n hx hb dX9_bestRow_2 rfl (lv_at hl 1 rfl) ?_
  refine lv_iconst (v := (-1)) hx hb dX9_bestRow_3 (by decide) ?_
  obtain ⟨x2, x3, t4, t5, t6, t7, t8, t9, f1, h10, h11⟩ := (show sM ad (w 64) from ok 64 (by decide))
  have f12 : w 64 = .inr (7, [.ref (ad 65), .ref (ad 66), .ref (ad 67), .ref (ad 68), .long x2, .long x3, .ref (ad 69), .int t4, .ref (ad 70), .ref (ad 71), .int t5, .int t6, .int t7, .int t8, .int t9, .ref (ad 72), .ref (ad 73)]) := f1
  refine r_put kc9 X hD h 64 7 (by decide) rfl f12 (by decide) kv_502 rfl rfl rfl (Nat.le_of_ble_eq_true rfl) dX9_bestRow_4 (fun H locs w13 e14 h => ?_)
  have f15 : w13 64 = .inr (7, [.ref (ad 65), .ref (ad 66), .ref (ad 67), .ref (ad 68), .long x2, .long x3, .ref (ad 69), .int (-1), .ref (ad 70), .ref (ad 71), .int t5, .int t6, .int t7, .int t8, .int t9, .ref (ad 72), .ref (ad 73)]) := (congrFun e14 _).trans (va_up_self _ _ _)
  have ok16 : OK cI cB cZ cO ad w13 := OK.up ok e14 (sM_mk (by omega) (by omega))
  have kx17 : KM w w13 := KM.up KM.rf e14 f12 rfl
  refine lv_iconst (v := 0) hx hb dX9_bestRow_7 (by decide) ?_
  refine lv_istore (lv' := [(4, .int 0), (3, .int 0), (0, .ref (ad 64)), (1, .int j), (2, .int n)]) hx hb dX9_bestRow_8 hl (by decide) rfl (fun ls hl => ?_)
  have hloop21 : ∀ (d22 : Nat) (L18 : Int32) (L19 : Int32) (wL20 : Nat → va_E) (H : Heap) (locs : List Loc) (ls : Array Slot), 0 ≤ L19.toInt → L19.toInt ≤ 10000 → 0 ≤ L18.toInt → L18.toInt ≤ 10000 → OK cI cB cZ cO ad wL20 → KM w wL20 → 10000 - L18.toInt < (d22 : Int) → St G 74 ad (wA 74 ad s.heap.size) s.heap wL20 H locs → lv_has ls 9 [(4, .int L18), (3, .int L19), (0, .ref (ad 64)), (1, .int j), (2, .int n)] → W p l e { frames := 3, cells := 0, slots := 0, locals := 69 } s m [.ref (ad 64), .int j, .int n].toArray below meth c H locs 0 0 (MQ below (va_Qi (fun r w1 => OK cI cB cZ cO ad w1 ∧ KM w w1 ∧ 0 ≤ r.toInt ∧ r.toInt ≤ 10000) (Aft G 74 ad) (wA 74 ad s.heap.size)) [.ref (ad 64), .int j, .int n].toArray s 0 0 (wA 74 ad s.heap.size)) (F0 m 10 ls []) := by
    intro d22
    induction d22 with
    | zero => intro L18 L19 wL20 H locs ls hi25 hi26 hi27 hi28 ok29 kx30 hm24 h hl; exfalso; omega
    | succ d22 ih23 =>
      intro L18 L19 wL20 H locs ls hi25 hi26 hi27 hi28 ok29 kx30 hm24 h hl
      refine lv_iload hx hb dX9_bestRow_10 (lv_at hl 0 rfl) ?_
      refine lv_aload_n hx hb dX9_bestRow_12 rfl (lv_at hl 2 rfl) ?_
      obtain ⟨x33, x34, t35, t36, t37, t38, t39, t40, f32, h41, h42⟩ := (show sM ad (wL20 64) from ok29 64 (by decide))
      have f43 : wL20 64 = .inr (7, [.ref (ad 65), .ref (ad 66), .ref (ad 67), .ref (ad 68), .long x33, .long x34, .ref (ad 69), .int t35, .ref (ad 70), .ref (ad 71), .int t36, .int t37, .int t38, .int t39, .int t40, .ref (ad 72), .ref (ad 73)]) := f32
      refine r_get kc9 X h 64 0 (by decide) rfl f43 (by decide) kv_467 rfl dX9_bestRow_13 ?_
      refine lv_iconst (v := 0) hx hb dX9_bestRow_16 (by decide) ?_
      obtain ⟨g45, f44, p46⟩ := (show sA cI 177 (alA) (wL20 65) from ok29 65 (by decide))
      have f47 : wL20 65 = .inl (cI, 177, .inl g45) := f44
      obtain ⟨v48, e49⟩ : ∃ z : Int32, g45 0 = z := ⟨_, rfl⟩
      have h50 := (alA_rd p46 e49).1 rfl
      refine o_iald (v := v48) X h 65 0 (by decide) rfl f47 rfl (by unfold vp_in; decide) e49 dX9_bestRow_17 ?_
      refine lv_iconst (v := 1) hx hb dX9_bestRow_18 (by decide) ?_
      obtain ⟨z53, e51, t52⟩ := x_add (x := v48) (y := (1 : Int32)) (a := (v48).toInt) (b := 1) rfl rfl (by omega) (by omega)
      refine o_iadd (z := z53) hx hb dX9_bestRow_19 e51 ?_
      refine lv_iload_n hx hb dX9_bestRow_20 rfl (lv_at hl 4 rfl) ?_
      refine n_Si (na := 2) (As := [.int z53, .int n]) (rest := [.int L18]) X hD hN h (c_M_power l G cI cB cZ cO ad wL20 z53 n (by omega) (by omega) (by omega) (by omega)) ⟨kv_499, kv_500, kv_470, kv_501⟩ ⟨by decide, by decide, by decide⟩ ⟨Nat.le_of_ble_eq_true rfl, Nat.le_of_ble_eq_true rfl⟩ ⟨Nat.zero_le _, Nat.zero_le _⟩ rfl hl.1 rfl (Nat.le_of_ble_eq_true rfl) dX9_bestRow_21 (fun r54 w55 H locs hp56 h => ?_)
      obtain ⟨rfl, hr57⟩ := hp56
      obtain ⟨h58, h59⟩ := hr57
      refine lv_icmp_ge (tgt := 176) hx hb dX9_bestRow_24 (by decide) (fun hc60 => ?_) (fun hc60 => ?_)
      · have hc60 : (r54).toInt ≤ (L18).toInt := i_le hc60 rfl rfl
        refine lv_iload_n hx hb dX9_bestRow_176 rfl (lv_at hl 1 rfl) ?_
        exact e_i X h hr hlk dX9_bestRow_177 ⟨ok29, kx30, ⟨by omega, by omega⟩⟩
      · have hc60 : ¬ (r54).toInt ≤ (L18).toInt := i_nle hc60 rfl rfl
        refine lv_iconst (v := 1) hx hb dX9_bestRow_27 (by decide) ?_
        refine lv_istore (lv' := [(5, .int 1), (4, .int L18), (3, .int L19), (0, .ref (ad 64)), (1, .int j), (2, .int n)]) hx hb dX9_bestRow_28 hl (by decide) rfl (fun ls hl => ?_)
        refine lv_aload_n hx hb dX9_bestRow_30 rfl (lv_at hl 3 rfl) ?_
        refine n_Vv (na := 0) (As := []) (rest := []) X hD hN h rfl (c_M_layHand l G cI cB cZ cO ad wL20  ok29   ) ⟨kv_503, kv_504, kv_505, kv_470, kv_506⟩ rfl ⟨by decide, by decide, by decide⟩ ⟨Nat.le_of_ble_eq_true rfl, Nat.le_of_ble_eq_true rfl⟩ ⟨Nat.zero_le _, Nat.zero_le _⟩ (by decide) f43 rfl rfl hl.1 rfl (Nat.le_of_ble_eq_true rfl) dX9_bestRow_31 (fun w62 H locs hp63 h => ?_)
        obtain ⟨ok65, kk66, hr64⟩ := hp63
        have kx67 : KM w w62 := KM.tr kx30 kk66
        refine lv_iconst (v := 0) hx hb dX9_bestRow_34 (by decide) ?_
        refine lv_istore (lv' := [(6, .int 0), (5, .int 1), (4, .int L18), (3, .int L19), (0, .ref (ad 64)), (1, .int j), (2, .int n)]) hx hb dX9_bestRow_35 hl (by decide) rfl (fun ls hl => ?_)
        have hloop71 : ∀ (d72 : Nat) (L68 : Int32) (L69 : Int32) (wL70 : Nat → va_E) (H : Heap) (locs : List Loc) (ls : Array Slot), 0 ≤ L69.toInt → L69.toInt ≤ 1 → 0 ≤ L68.toInt → L68.toInt ≤ 4 → OK cI cB cZ cO ad wL70 → KM w wL70 → 4 - L68.toInt < (d72 : Int) → St G 74 ad (wA 74 ad s.heap.size) s.heap wL70 H locs → lv_has ls 9 [(6, .int L68), (5, .int L69), (4, .int L18), (3, .int L19), (0, .ref (ad 64)), (1, .int j), (2, .int n)] → W p l e { frames := 3, cells := 0, slots := 0, locals := 69 } s m [.ref (ad 64), .int j, .int n].toArray below meth c H locs 0 0 (MQ below (va_Qi (fun r w1 => OK cI cB cZ cO ad w1 ∧ KM w w1 ∧ 0 ≤ r.toInt ∧ r.toInt ≤ 10000) (Aft G 74 ad) (wA 74 ad s.heap.size)) [.ref (ad 64), .int j, .int n].toArray s 0 0 (wA 74 ad s.heap.size)) (F0 m 37 ls []) := by
          intro d72
          induction d72 with
          | zero => intro L68 L69 wL70 H locs ls hi75 hi76 hi77 hi78 ok79 kx80 hm74 h hl; exfalso; omega
          | succ d72 ih73 =>
            intro L68 L69 wL70 H locs ls hi75 hi76 hi77 hi78 ok79 kx80 hm74 h hl
            refine lv_iload hx hb dX9_bestRow_37 (lv_at hl 0 rfl) ?_
            refine lv_iload_n hx hb dX9_bestRow_39 rfl (lv_at hl 6 rfl) ?_
            refine lv_icmp_ge (tgt := 133) hx hb dX9_bestRow_40 (by decide) (fun hc82 => ?_) (fun hc82 => ?_)
            · have hc82 : (n).toInt ≤ (L68).toInt := i_le hc82 rfl rfl
              refine lv_iload hx hb dX9_bestRow_133 (lv_at hl 1 rfl) ?_
              refine lv_if_eq (tgt := 170) hx hb dX9_bestRow_135 (by decide) (fun hc83 => ?_) (fun hc83 => ?_)
              · have hc83 : (L69).toInt = 0 := i_eq hc83 rfl rfl
                obtain ⟨z84, e85, t86⟩ := x_add (x := L18) (y := 1) (a := L18.toInt) (b := 1) rfl rfl (by omega) (by omega)
                refine lv_iinc (v := z84) (lv' := [(4, .int z84), (6, .int L68), (5, .int L69), (3, .int L19), (0, .ref (ad 64)), (1, .int j), (2, .int n)]) hx hb dX9_bestRow_170 hl (k := 2) rfl e85 (by decide) rfl (fun ls hl => ?_)
                refine lv_goto (tgt := 10) hx hb dX9_bestRow_173 (by decide) ?_
                exact ih23  z84 L19 wL70 _ _ _ (by omega) (by omega) (by omega) (by omega) ok79 kx80 (by omega) h (lv_sub hl [0, 3, 4, 5, 6] rfl)
              · have hc83 : ¬ (L69).toInt = 0 := i_ne hc83 rfl rfl
                refine lv_aload_n hx hb dX9_bestRow_138 rfl (lv_at hl 4 rfl) ?_
                obtain ⟨x88, x89, t90, t91, t92, t93, t94, t95, f87, h96, h97⟩ := (show sM ad (wL70 64) from ok79 64 (by decide))
                have f98 : wL70 64 = .inr (7, [.ref (ad 65), .ref (ad 66), .ref (ad 67), .ref (ad 68), .long x88, .long x89, .ref (ad 69), .int t90, .ref (ad 70), .ref (ad 71), .int t91, .int t92, .int t93, .int t94, .int t95, .ref (ad 72), .ref (ad 73)]) := f87
                refine r_get kc9 X h 64 6 (by decide) rfl f98 (by decide) kv_495 rfl dX9_bestRow_139 ?_
                refine lv_bipush (v := 8) hx hb dX9_bestRow_142 (by decide) ?_
                refine lv_iload_n hx hb dX9_bestRow_144 rfl (lv_at hl 5 rfl) ?_
                obtain ⟨z101, e99, t100⟩ := x_add (x := (8 : Int32)) (y := j) (a := 8) (b := (j).toInt) rfl rfl (by omega) (by omega)
                refine o_iadd (z := z101) hx hb dX9_bestRow_145 e99 ?_
                obtain ⟨g103, f102, p104⟩ := (show sA cI 41 (alA) (wL70 69) from ok79 69 (by decide))
                have f105 : wL70 69 = .inl (cI, 41, .inl g103) := f102
                obtain ⟨v106, e107⟩ : ∃ z : Int32, g103 (z101).toNatClampNeg = z := ⟨_, rfl⟩
                refine o_iald (v := v106) X h 69 0 (by decide) rfl f105 rfl (in_of (by omega) (by omega)) e107 dX9_bestRow_146 ?_
                refine lv_aload_n hx hb dX9_bestRow_147 rfl (lv_at hl 4 rfl) ?_
                refine r_get kc9 X h 64 7 (by decide) rfl f98 (by decide) kv_502 rfl dX9_bestRow_148 ?_
                refine lv_icmp_le (tgt := 170) hx hb dX9_bestRow_151 (by decide) (fun hc109 => ?_) (fun hc109 => ?_)
                · have hc109 : (v106).toInt ≤ (t90).toInt := i_le hc109 rfl rfl
                  obtain ⟨z110, e111, t112⟩ := x_add (x := L18) (y := 1) (a := L18.toInt) (b := 1) rfl rfl (by omega) (by omega)
                  refine lv_iinc (v := z110) (lv' := [(4, .int z110), (6, .int L68), (5, .int L69), (3, .int L19), (0, .ref (ad 64)), (1, .int j), (2, .int n)]) hx hb dX9_bestRow_170 hl (k := 2) rfl e111 (by decide) rfl (fun ls hl => ?_)
                  refine lv_goto (tgt := 10) hx hb dX9_bestRow_173 (by decide) ?_
                  exact ih23  z110 L19 wL70 _ _ _ (by omega) (by omega) (by omega) (by omega) ok79 kx80 (by omega) h (lv_sub hl [0, 3, 4, 5, 6] rfl)
                · have hc109 : ¬ (v106).toInt ≤ (t90).toInt := i_nle hc109 rfl rfl
                  refine lv_iload hx hb dX9_bestRow_154 (lv_at hl 2 rfl) ?_
                  refine lv_istore_n (lv' := [(3, .int L18), (6, .int L68), (5, .int L69), (4, .int L18), (0, .ref (ad 64)), (1, .int j), (2, .int n)]) hx hb dX9_bestRow_156 rfl hl (by decide) rfl (fun ls hl => ?_)
                  refine lv_aload_n hx hb dX9_bestRow_157 rfl (lv_at hl 4 rfl) ?_
                  refine lv_aload_n hx hb dX9_bestRow_158 rfl (lv_at hl 4 rfl) ?_
                  refine r_get kc9 X h 64 6 (by decide) rfl f98 (by decide) kv_495 rfl dX9_bestRow_159 ?_
                  refine lv_bipush (v := 8) hx hb dX9_bestRow_162 (by decide) ?_
                  refine lv_iload_n hx hb dX9_bestRow_164 rfl (lv_at hl 5 rfl) ?_
                  obtain ⟨z115, e113, t114⟩ := x_add (x := (8 : Int32)) (y := j) (a := 8) (b := (j).toInt) rfl rfl (by omega) (by omega)
                  refine o_iadd (z := z115) hx hb dX9_bestRow_165 e113 ?_
                  obtain ⟨v116, e117⟩ : ∃ z : Int32, g103 (z115).toNatClampNeg = z := ⟨_, rfl⟩
                  refine o_iald (v := v116) X h 69 0 (by decide) rfl f105 rfl (in_of (by omega) (by omega)) e117 dX9_bestRow_166 ?_
                  refine r_put kc9 X hD h 64 7 (by decide) rfl f98 (by decide) kv_502 rfl rfl rfl (Nat.le_of_ble_eq_true rfl) dX9_bestRow_167 (fun H locs w119 e120 h => ?_)
                  have f121 : w119 64 = .inr (7, [.ref (ad 65), .ref (ad 66), .ref (ad 67), .ref (ad 68), .long x88, .long x89, .ref (ad 69), .int v116, .ref (ad 70), .ref (ad 71), .int t91, .int t92, .int t93, .int t94, .int t95, .ref (ad 72), .ref (ad 73)]) := (congrFun e120 _).trans (va_up_self _ _ _)
                  have ok122 : OK cI cB cZ cO ad w119 := OK.up ok79 e120 (sM_mk (by omega) (by omega))
                  have kx123 : KM w w119 := KM.up kx80 e120 f98 rfl
                  obtain ⟨z124, e125, t126⟩ := x_add (x := L18) (y := 1) (a := L18.toInt) (b := 1) rfl rfl (by omega) (by omega)
                  refine lv_iinc (v := z124) (lv' := [(4, .int z124), (3, .int L18), (6, .int L68), (5, .int L69), (0, .ref (ad 64)), (1, .int j), (2, .int n)]) hx hb dX9_bestRow_170 hl (k := 3) rfl e125 (by decide) rfl (fun ls hl => ?_)
                  refine lv_goto (tgt := 10) hx hb dX9_bestRow_173 (by decide) ?_
                  exact ih23  z124 L18 w119 _ _ _ (by omega) (by omega) (by omega) (by omega) ok122 kx123 (by omega) h (lv_sub hl [0, 1, 4, 5, 6] rfl)
            · have hc82 : ¬ (n).toInt ≤ (L68).toInt := i_nle hc82 rfl rfl
              refine lv_aload_n hx hb dX9_bestRow_43 rfl (lv_at hl 4 rfl) ?_
              refine lv_iload hx hb dX9_bestRow_44 (lv_at hl 2 rfl) ?_
              refine lv_iload_n hx hb dX9_bestRow_46 rfl (lv_at hl 6 rfl) ?_
              refine lv_iload hx hb dX9_bestRow_47 (lv_at hl 0 rfl) ?_
              obtain ⟨x131, x132, t133, t134, t135, t136, t137, t138, f130, h139, h140⟩ := (show sM ad (wL70 64) from ok79 64 (by decide))
              have f141 : wL70 64 = .inr (7, [.ref (ad 65), .ref (ad 66), .ref (ad 67), .ref (ad 68), .long x131, .long x132, .ref (ad 69), .int t133, .ref (ad 70), .ref (ad 71), .int t134, .int t135, .int t136, .int t137, .int t138, .ref (ad 72), .ref (ad 73)]) := f130
              refine n_Vi (na := 3) (As := [.int L18, .int n, .int L68]) (rest := []) X hD hN h rfl (c_M_casterBy l G cI cB cZ cO ad wL70  ok79 L18 n L68 (by omega) (by omega) (by omega) (by omega) (by omega) (by omega) (by first | decide | omega)) ⟨kv_507, kv_508, kv_509, kv_470, kv_510⟩ rfl ⟨by decide, by decide, by decide⟩ ⟨Nat.le_of_ble_eq_true rfl, Nat.le_of_ble_eq_true rfl⟩ ⟨Nat.zero_le _, Nat.zero_le _⟩ (by decide) f141 rfl rfl hl.1 rfl (Nat.le_of_ble_eq_true rfl) dX9_bestRow_49 (fun r127 w128 H locs hp129 h => ?_)
              obtain ⟨rfl, hr142⟩ := hp129
              obtain ⟨h143, h144⟩ := hr142
              refine lv_istore (lv' := [(7, .int r127), (6, .int L68), (5, .int L69), (4, .int L18), (3, .int L19), (0, .ref (ad 64)), (1, .int j), (2, .int n)]) hx hb dX9_bestRow_52 hl (by decide) rfl (fun ls hl => ?_)
              refine lv_iload hx hb dX9_bestRow_54 (lv_at hl 2 rfl) ?_
              refine lv_if_eq (tgt := 89) hx hb dX9_bestRow_56 (by decide) (fun hc145 => ?_) (fun hc145 => ?_)
              · have hc145 : (L69).toInt = 0 := i_eq hc145 rfl rfl
                refine lv_iconst (v := 0) hx hb dX9_bestRow_89 (by decide) ?_
                refine lv_istore (lv' := [(5, .int 0), (7, .int r127), (6, .int L68), (4, .int L18), (3, .int L19), (0, .ref (ad 64)), (1, .int j), (2, .int n)]) hx hb dX9_bestRow_90 hl (by decide) rfl (fun ls hl => ?_)
                refine lv_iload hx hb dX9_bestRow_92 (lv_at hl 0 rfl) ?_
                refine lv_if_eq (tgt := 120) hx hb dX9_bestRow_94 (by decide) (fun _ => ?_) (fun hc => absurd (by decide) hc)
                refine lv_aload_n hx hb dX9_bestRow_120 rfl (lv_at hl 5 rfl) ?_
                refine r_get kc9 X h 64 6 (by decide) rfl f141 (by decide) kv_495 rfl dX9_bestRow_121 ?_
                refine n_Sv (na := 1) (As := [.ref (ad 69)]) (rest := []) X hD hN h (c_M_goHour l G cI cB cZ cO ad wL70 69 (Or.inr (Or.inl rfl)) ok79   ) ⟨kv_492, kv_493, kv_470, kv_494⟩ ⟨by decide, by decide, by decide⟩ ⟨Nat.le_of_ble_eq_true rfl, Nat.le_of_ble_eq_true rfl⟩ ⟨Nat.zero_le _, Nat.zero_le _⟩ rfl hl.1 rfl (Nat.le_of_ble_eq_true rfl) dX9_bestRow_124 (fun w147 H locs hp148 h => ?_)
                obtain ⟨ok150, kk151, hr149⟩ := hp148
                have kx152 : KM w w147 := KM.tr kx80 kk151.1
                obtain ⟨z153, e154, t155⟩ := x_add (x := L68) (y := 1) (a := L68.toInt) (b := 1) rfl rfl (by omega) (by omega)
                refine lv_iinc (v := z153) (lv' := [(6, .int z153), (5, .int 0), (7, .int r127), (4, .int L18), (3, .int L19), (0, .ref (ad 64)), (1, .int j), (2, .int n)]) hx hb dX9_bestRow_127 hl (k := 2) rfl e154 (by decide) rfl (fun ls hl => ?_)
                refine lv_goto (tgt := 37) hx hb dX9_bestRow_130 (by decide) ?_
                exact ih73  z153 (0 : Int32) w147 _ _ _ (by have q0 : (0 : Int32).toInt = 0 := rfl; omega) (by have q0 : (0 : Int32).toInt = 0 := rfl; omega) (by have q0 : (0 : Int32).toInt = 0 := rfl; omega) (by have q0 : (0 : Int32).toInt = 0 := rfl; omega) ok150 kx152 (by have q0 : (0 : Int32).toInt = 0 := rfl; omega) h (lv_sub hl [0, 1, 3, 4, 5, 6, 7] rfl)
              · have hc145 : ¬ (L69).toInt = 0 := i_ne hc145 rfl rfl
                refine lv_iload hx hb dX9_bestRow_59 (lv_at hl 0 rfl) ?_
                refine lv_aload_n hx hb dX9_bestRow_61 rfl (lv_at hl 5 rfl) ?_
                refine r_get kc9 X h 64 0 (by decide) rfl f141 (by decide) kv_467 rfl dX9_bestRow_62 ?_
                refine lv_iconst (v := 0) hx hb dX9_bestRow_65 (by decide) ?_
                obtain ⟨g157, f156, p158⟩ := (show sA cI 177 (alA) (wL70 65) from ok79 65 (by decide))
                have f159 : wL70 65 = .inl (cI, 177, .inl g157) := f156
                obtain ⟨v160, e161⟩ : ∃ z : Int32, g157 0 = z := ⟨_, rfl⟩
                have h162 := (alA_rd p158 e161).1 rfl
                refine o_iald (v := v160) X h 65 0 (by decide) rfl f159 rfl (by unfold vp_in; decide) e161 dX9_bestRow_66 ?_
                refine lv_icmp_eq (tgt := 85) hx hb dX9_bestRow_67 (by decide) (fun hc163 => ?_) (fun hc163 => ?_)
                · have hc163 : (r127).toInt = (v160).toInt := i_eq hc163 rfl rfl
                  refine lv_iconst (v := 1) hx hb dX9_bestRow_85 (by decide) ?_
                  refine lv_goto (tgt := 90) hx hb dX9_bestRow_86 (by decide) ?_
                  refine lv_istore (lv' := [(5, .int 1), (7, .int r127), (6, .int L68), (4, .int L18), (3, .int L19), (0, .ref (ad 64)), (1, .int j), (2, .int n)]) hx hb dX9_bestRow_90 hl (by decide) rfl (fun ls hl => ?_)
                  refine lv_iload hx hb dX9_bestRow_92 (lv_at hl 0 rfl) ?_
                  refine lv_if_eq (tgt := 120) hx hb dX9_bestRow_94 (by decide) (fun hc => absurd hc (by decide)) (fun _ => ?_)
                  refine lv_iload hx hb dX9_bestRow_97 (lv_at hl 1 rfl) ?_
                  refine lv_aload_n hx hb dX9_bestRow_99 rfl (lv_at hl 5 rfl) ?_
                  refine r_get kc9 X h 64 0 (by decide) rfl f141 (by decide) kv_467 rfl dX9_bestRow_100 ?_
                  refine lv_iconst (v := 0) hx hb dX9_bestRow_103 (by decide) ?_
                  refine o_iald (v := v160) X h 65 0 (by decide) rfl f159 rfl (by unfold vp_in; decide) e161 dX9_bestRow_104 ?_
                  refine lv_icmp_ge (tgt := 120) hx hb dX9_bestRow_105 (by decide) (fun hc164 => ?_) (fun hc164 => ?_)
                  · have hc164 : (v160).toInt ≤ (r127).toInt := i_le hc164 rfl rfl
                    refine lv_aload_n hx hb dX9_bestRow_120 rfl (lv_at hl 5 rfl) ?_
                    refine r_get kc9 X h 64 6 (by decide) rfl f141 (by decide) kv_495 rfl dX9_bestRow_121 ?_
                    refine n_Sv (na := 1) (As := [.ref (ad 69)]) (rest := []) X hD hN h (c_M_goHour l G cI cB cZ cO ad wL70 69 (Or.inr (Or.inl rfl)) ok79   ) ⟨kv_492, kv_493, kv_470, kv_494⟩ ⟨by decide, by decide, by decide⟩ ⟨Nat.le_of_ble_eq_true rfl, Nat.le_of_ble_eq_true rfl⟩ ⟨Nat.zero_le _, Nat.zero_le _⟩ rfl hl.1 rfl (Nat.le_of_ble_eq_true rfl) dX9_bestRow_124 (fun w166 H locs hp167 h => ?_)
                    obtain ⟨ok169, kk170, hr168⟩ := hp167
                    have kx171 : KM w w166 := KM.tr kx80 kk170.1
                    obtain ⟨z172, e173, t174⟩ := x_add (x := L68) (y := 1) (a := L68.toInt) (b := 1) rfl rfl (by omega) (by omega)
                    refine lv_iinc (v := z172) (lv' := [(6, .int z172), (5, .int 1), (7, .int r127), (4, .int L18), (3, .int L19), (0, .ref (ad 64)), (1, .int j), (2, .int n)]) hx hb dX9_bestRow_127 hl (k := 2) rfl e173 (by decide) rfl (fun ls hl => ?_)
                    refine lv_goto (tgt := 37) hx hb dX9_bestRow_130 (by decide) ?_
                    exact ih73  z172 (1 : Int32) w166 _ _ _ (by have q0 : (1 : Int32).toInt = 1 := rfl; omega) (by have q0 : (1 : Int32).toInt = 1 := rfl; omega) (by have q0 : (1 : Int32).toInt = 1 := rfl; omega) (by have q0 : (1 : Int32).toInt = 1 := rfl; omega) ok169 kx171 (by have q0 : (1 : Int32).toInt = 1 := rfl; omega) h (lv_sub hl [0, 1, 3, 4, 5, 6, 7] rfl)
                  · have hc164 : ¬ (v160).toInt ≤ (r127).toInt := i_nle hc164 rfl rfl
                    refine lv_aload_n hx hb dX9_bestRow_108 rfl (lv_at hl 5 rfl) ?_
                    refine r_get kc9 X h 64 6 (by decide) rfl f141 (by decide) kv_495 rfl dX9_bestRow_109 ?_
                    refine lv_iload hx hb dX9_bestRow_112 (lv_at hl 1 rfl) ?_
                    refine lv_iload_n hx hb dX9_bestRow_114 rfl (lv_at hl 6 rfl) ?_
                    refine n_Si (na := 3) (As := [.ref (ad 69), .int r127, .int j]) (rest := []) X hD hN h (c_M_goLadle l G cI cB cZ cO ad wL70 69 (Or.inr (Or.inl rfl)) ok79 r127 j (by omega) (by omega) (by omega) (by omega) ) ⟨kv_511, kv_512, kv_470, kv_513⟩ ⟨by decide, by decide, by decide⟩ ⟨Nat.le_of_ble_eq_true rfl, Nat.le_of_ble_eq_true rfl⟩ ⟨Nat.zero_le _, Nat.zero_le _⟩ rfl hl.1 rfl (Nat.le_of_ble_eq_true rfl) dX9_bestRow_115 (fun r175 w176 H locs hp177 h => ?_)
                    obtain ⟨ok179, kk180, hr178⟩ := hp177
                    have kx181 : KM w w176 := KM.tr kx80 kk180.1
                    refine lv_istore (lv' := [(8, .int r175), (5, .int 1), (7, .int r127), (6, .int L68), (4, .int L18), (3, .int L19), (0, .ref (ad 64)), (1, .int j), (2, .int n)]) hx hb dX9_bestRow_118 hl (by decide) rfl (fun ls hl => ?_)
                    refine lv_aload_n hx hb dX9_bestRow_120 rfl (lv_at hl 6 rfl) ?_
                    have f182 : w176 64 = .inr (7, [.ref (ad 65), .ref (ad 66), .ref (ad 67), .ref (ad 68), .long x131, .long x132, .ref (ad 69), .int t133, .ref (ad 70), .ref (ad 71), .int t134, .int t135, .int t136, .int t137, .int t138, .ref (ad 72), .ref (ad 73)]) := (kk180.2 64 (by decide)).trans f141
                    refine r_get kc9 X h 64 6 (by decide) rfl f182 (by decide) kv_495 rfl dX9_bestRow_121 ?_
                    refine n_Sv (na := 1) (As := [.ref (ad 69)]) (rest := []) X hD hN h (c_M_goHour l G cI cB cZ cO ad w176 69 (Or.inr (Or.inl rfl)) ok179   ) ⟨kv_492, kv_493, kv_470, kv_494⟩ ⟨by decide, by decide, by decide⟩ ⟨Nat.le_of_ble_eq_true rfl, Nat.le_of_ble_eq_true rfl⟩ ⟨Nat.zero_le _, Nat.zero_le _⟩ rfl hl.1 rfl (Nat.le_of_ble_eq_true rfl) dX9_bestRow_124 (fun w184 H locs hp185 h => ?_)
                    obtain ⟨ok187, kk188, hr186⟩ := hp185
                    have kx189 : KM w w184 := KM.tr kx181 kk188.1
                    obtain ⟨z190, e191, t192⟩ := x_add (x := L68) (y := 1) (a := L68.toInt) (b := 1) rfl rfl (by omega) (by omega)
                    refine lv_iinc (v := z190) (lv' := [(6, .int z190), (8, .int r175), (5, .int 1), (7, .int r127), (4, .int L18), (3, .int L19), (0, .ref (ad 64)), (1, .int j), (2, .int n)]) hx hb dX9_bestRow_127 hl (k := 3) rfl e191 (by decide) rfl (fun ls hl => ?_)
                    refine lv_goto (tgt := 37) hx hb dX9_bestRow_130 (by decide) ?_
                    exact ih73  z190 (1 : Int32) w184 _ _ _ (by have q0 : (1 : Int32).toInt = 1 := rfl; omega) (by have q0 : (1 : Int32).toInt = 1 := rfl; omega) (by have q0 : (1 : Int32).toInt = 1 := rfl; omega) (by have q0 : (1 : Int32).toInt = 1 := rfl; omega) ok187 kx189 (by have q0 : (1 : Int32).toInt = 1 := rfl; omega) h (lv_sub hl [0, 2, 4, 5, 6, 7, 8] rfl)
                · have hc163 : ¬ (r127).toInt = (v160).toInt := i_ne hc163 rfl rfl
                  refine lv_aload_n hx hb dX9_bestRow_70 rfl (lv_at hl 5 rfl) ?_
                  refine r_get kc9 X h 64 6 (by decide) rfl f141 (by decide) kv_495 rfl dX9_bestRow_71 ?_
                  refine lv_bipush (v := 7) hx hb dX9_bestRow_74 (by decide) ?_
                  obtain ⟨g194, f193, p195⟩ := (show sA cI 41 (alA) (wL70 69) from ok79 69 (by decide))
                  have f196 : wL70 69 = .inl (cI, 41, .inl g194) := f193
                  obtain ⟨v197, e198⟩ : ∃ z : Int32, g194 7 = z := ⟨_, rfl⟩
                  refine o_iald (v := v197) X h 69 0 (by decide) rfl f196 rfl (by unfold vp_in; decide) e198 dX9_bestRow_76 ?_
                  refine lv_iload hx hb dX9_bestRow_77 (lv_at hl 0 rfl) ?_
                  refine n_Si (na := 2) (As := [.int v197, .int r127]) (rest := []) X hD hN h (c_M_has l G cI cB cZ cO ad wL70   v197 r127  ) ⟨kv_496, kv_497, kv_470, kv_498⟩ ⟨by decide, by decide, by decide⟩ ⟨Nat.le_of_ble_eq_true rfl, Nat.le_of_ble_eq_true rfl⟩ ⟨Nat.zero_le _, Nat.zero_le _⟩ rfl hl.1 rfl (Nat.le_of_ble_eq_true rfl) dX9_bestRow_79 (fun r200 w201 H locs hp202 h => ?_)
                  obtain ⟨rfl, hr203⟩ := hp202
                  rcases hr203 with rfl | rfl
                  · refine lv_if_ne (tgt := 89) hx hb dX9_bestRow_82 (by decide) (fun _ => ?_) (fun hc => absurd hc (by decide))
                    refine lv_iconst (v := 0) hx hb dX9_bestRow_89 (by decide) ?_
                    refine lv_istore (lv' := [(5, .int 0), (7, .int r127), (6, .int L68), (4, .int L18), (3, .int L19), (0, .ref (ad 64)), (1, .int j), (2, .int n)]) hx hb dX9_bestRow_90 hl (by decide) rfl (fun ls hl => ?_)
                    refine lv_iload hx hb dX9_bestRow_92 (lv_at hl 0 rfl) ?_
                    refine lv_if_eq (tgt := 120) hx hb dX9_bestRow_94 (by decide) (fun _ => ?_) (fun hc => absurd (by decide) hc)
                    refine lv_aload_n hx hb dX9_bestRow_120 rfl (lv_at hl 5 rfl) ?_
                    refine r_get kc9 X h 64 6 (by decide) rfl f141 (by decide) kv_495 rfl dX9_bestRow_121 ?_
                    refine n_Sv (na := 1) (As := [.ref (ad 69)]) (rest := []) X hD hN h (c_M_goHour l G cI cB cZ cO ad wL70 69 (Or.inr (Or.inl rfl)) ok79   ) ⟨kv_492, kv_493, kv_470, kv_494⟩ ⟨by decide, by decide, by decide⟩ ⟨Nat.le_of_ble_eq_true rfl, Nat.le_of_ble_eq_true rfl⟩ ⟨Nat.zero_le _, Nat.zero_le _⟩ rfl hl.1 rfl (Nat.le_of_ble_eq_true rfl) dX9_bestRow_124 (fun w205 H locs hp206 h => ?_)
                    obtain ⟨ok208, kk209, hr207⟩ := hp206
                    have kx210 : KM w w205 := KM.tr kx80 kk209.1
                    obtain ⟨z211, e212, t213⟩ := x_add (x := L68) (y := 1) (a := L68.toInt) (b := 1) rfl rfl (by omega) (by omega)
                    refine lv_iinc (v := z211) (lv' := [(6, .int z211), (5, .int 0), (7, .int r127), (4, .int L18), (3, .int L19), (0, .ref (ad 64)), (1, .int j), (2, .int n)]) hx hb dX9_bestRow_127 hl (k := 2) rfl e212 (by decide) rfl (fun ls hl => ?_)
                    refine lv_goto (tgt := 37) hx hb dX9_bestRow_130 (by decide) ?_
                    exact ih73  z211 (0 : Int32) w205 _ _ _ (by have q0 : (0 : Int32).toInt = 0 := rfl; omega) (by have q0 : (0 : Int32).toInt = 0 := rfl; omega) (by have q0 : (0 : Int32).toInt = 0 := rfl; omega) (by have q0 : (0 : Int32).toInt = 0 := rfl; omega) ok208 kx210 (by have q0 : (0 : Int32).toInt = 0 := rfl; omega) h (lv_sub hl [0, 1, 3, 4, 5, 6, 7] rfl)
                  · refine lv_if_ne (tgt := 89) hx hb dX9_bestRow_82 (by decide) (fun hc => absurd (by decide) hc) (fun _ => ?_)
                    refine lv_iconst (v := 1) hx hb dX9_bestRow_85 (by decide) ?_
                    refine lv_goto (tgt := 90) hx hb dX9_bestRow_86 (by decide) ?_
                    refine lv_istore (lv' := [(5, .int 1), (7, .int r127), (6, .int L68), (4, .int L18), (3, .int L19), (0, .ref (ad 64)), (1, .int j), (2, .int n)]) hx hb dX9_bestRow_90 hl (by decide) rfl (fun ls hl => ?_)
                    refine lv_iload hx hb dX9_bestRow_92 (lv_at hl 0 rfl) ?_
                    refine lv_if_eq (tgt := 120) hx hb dX9_bestRow_94 (by decide) (fun hc => absurd hc (by decide)) (fun _ => ?_)
                    refine lv_iload hx hb dX9_bestRow_97 (lv_at hl 1 rfl) ?_
                    refine lv_aload_n hx hb dX9_bestRow_99 rfl (lv_at hl 5 rfl) ?_
                    refine r_get kc9 X h 64 0 (by decide) rfl f141 (by decide) kv_467 rfl dX9_bestRow_100 ?_
                    refine lv_iconst (v := 0) hx hb dX9_bestRow_103 (by decide) ?_
                    refine o_iald (v := v160) X h 65 0 (by decide) rfl f159 rfl (by unfold vp_in; decide) e161 dX9_bestRow_104 ?_
                    refine lv_icmp_ge (tgt := 120) hx hb dX9_bestRow_105 (by decide) (fun hc214 => ?_) (fun hc214 => ?_)
                    · have hc214 : (v160).toInt ≤ (r127).toInt := i_le hc214 rfl rfl
                      refine lv_aload_n hx hb dX9_bestRow_120 rfl (lv_at hl 5 rfl) ?_
                      refine r_get kc9 X h 64 6 (by decide) rfl f141 (by decide) kv_495 rfl dX9_bestRow_121 ?_
                      refine n_Sv (na := 1) (As := [.ref (ad 69)]) (rest := []) X hD hN h (c_M_goHour l G cI cB cZ cO ad wL70 69 (Or.inr (Or.inl rfl)) ok79   ) ⟨kv_492, kv_493, kv_470, kv_494⟩ ⟨by decide, by decide, by decide⟩ ⟨Nat.le_of_ble_eq_true rfl, Nat.le_of_ble_eq_true rfl⟩ ⟨Nat.zero_le _, Nat.zero_le _⟩ rfl hl.1 rfl (Nat.le_of_ble_eq_true rfl) dX9_bestRow_124 (fun w216 H locs hp217 h => ?_)
                      obtain ⟨ok219, kk220, hr218⟩ := hp217
                      have kx221 : KM w w216 := KM.tr kx80 kk220.1
                      obtain ⟨z222, e223, t224⟩ := x_add (x := L68) (y := 1) (a := L68.toInt) (b := 1) rfl rfl (by omega) (by omega)
                      refine lv_iinc (v := z222) (lv' := [(6, .int z222), (5, .int 1), (7, .int r127), (4, .int L18), (3, .int L19), (0, .ref (ad 64)), (1, .int j), (2, .int n)]) hx hb dX9_bestRow_127 hl (k := 2) rfl e223 (by decide) rfl (fun ls hl => ?_)
                      refine lv_goto (tgt := 37) hx hb dX9_bestRow_130 (by decide) ?_
                      exact ih73  z222 (1 : Int32) w216 _ _ _ (by have q0 : (1 : Int32).toInt = 1 := rfl; omega) (by have q0 : (1 : Int32).toInt = 1 := rfl; omega) (by have q0 : (1 : Int32).toInt = 1 := rfl; omega) (by have q0 : (1 : Int32).toInt = 1 := rfl; omega) ok219 kx221 (by have q0 : (1 : Int32).toInt = 1 := rfl; omega) h (lv_sub hl [0, 1, 3, 4, 5, 6, 7] rfl)
                    · have hc214 : ¬ (v160).toInt ≤ (r127).toInt := i_nle hc214 rfl rfl
                      refine lv_aload_n hx hb dX9_bestRow_108 rfl (lv_at hl 5 rfl) ?_
                      refine r_get kc9 X h 64 6 (by decide) rfl f141 (by decide) kv_495 rfl dX9_bestRow_109 ?_
                      refine lv_iload hx hb dX9_bestRow_112 (lv_at hl 1 rfl) ?_
                      refine lv_iload_n hx hb dX9_bestRow_114 rfl (lv_at hl 6 rfl) ?_
                      refine n_Si (na := 3) (As := [.ref (ad 69), .int r127, .int j]) (rest := []) X hD hN h (c_M_goLadle l G cI cB cZ cO ad wL70 69 (Or.inr (Or.inl rfl)) ok79 r127 j (by omega) (by omega) (by omega) (by omega) ) ⟨kv_511, kv_512, kv_470, kv_513⟩ ⟨by decide, by decide, by decide⟩ ⟨Nat.le_of_ble_eq_true rfl, Nat.le_of_ble_eq_true rfl⟩ ⟨Nat.zero_le _, Nat.zero_le _⟩ rfl hl.1 rfl (Nat.le_of_ble_eq_true rfl) dX9_bestRow_115 (fun r225 w226 H locs hp227 h => ?_)
                      obtain ⟨ok229, kk230, hr228⟩ := hp227
                      have kx231 : KM w w226 := KM.tr kx80 kk230.1
                      refine lv_istore (lv' := [(8, .int r225), (5, .int 1), (7, .int r127), (6, .int L68), (4, .int L18), (3, .int L19), (0, .ref (ad 64)), (1, .int j), (2, .int n)]) hx hb dX9_bestRow_118 hl (by decide) rfl (fun ls hl => ?_)
                      refine lv_aload_n hx hb dX9_bestRow_120 rfl (lv_at hl 6 rfl) ?_
                      have f232 : w226 64 = .inr (7, [.ref (ad 65), .ref (ad 66), .ref (ad 67), .ref (ad 68), .long x131, .long x132, .ref (ad 69), .int t133, .ref (ad 70), .ref (ad 71), .int t134, .int t135, .int t136, .int t137, .int t138, .ref (ad 72), .ref (ad 73)]) := (kk230.2 64 (by decide)).trans f141
                      refine r_get kc9 X h 64 6 (by decide) rfl f232 (by decide) kv_495 rfl dX9_bestRow_121 ?_
                      refine n_Sv (na := 1) (As := [.ref (ad 69)]) (rest := []) X hD hN h (c_M_goHour l G cI cB cZ cO ad w226 69 (Or.inr (Or.inl rfl)) ok229   ) ⟨kv_492, kv_493, kv_470, kv_494⟩ ⟨by decide, by decide, by decide⟩ ⟨Nat.le_of_ble_eq_true rfl, Nat.le_of_ble_eq_true rfl⟩ ⟨Nat.zero_le _, Nat.zero_le _⟩ rfl hl.1 rfl (Nat.le_of_ble_eq_true rfl) dX9_bestRow_124 (fun w234 H locs hp235 h => ?_)
                      obtain ⟨ok237, kk238, hr236⟩ := hp235
                      have kx239 : KM w w234 := KM.tr kx231 kk238.1
                      obtain ⟨z240, e241, t242⟩ := x_add (x := L68) (y := 1) (a := L68.toInt) (b := 1) rfl rfl (by omega) (by omega)
                      refine lv_iinc (v := z240) (lv' := [(6, .int z240), (8, .int r225), (5, .int 1), (7, .int r127), (4, .int L18), (3, .int L19), (0, .ref (ad 64)), (1, .int j), (2, .int n)]) hx hb dX9_bestRow_127 hl (k := 3) rfl e241 (by decide) rfl (fun ls hl => ?_)
                      refine lv_goto (tgt := 37) hx hb dX9_bestRow_130 (by decide) ?_
                      exact ih73  z240 (1 : Int32) w234 _ _ _ (by have q0 : (1 : Int32).toInt = 1 := rfl; omega) (by have q0 : (1 : Int32).toInt = 1 := rfl; omega) (by have q0 : (1 : Int32).toInt = 1 := rfl; omega) (by have q0 : (1 : Int32).toInt = 1 := rfl; omega) ok237 kx239 (by have q0 : (1 : Int32).toInt = 1 := rfl; omega) h (lv_sub hl [0, 2, 4, 5, 6, 7, 8] rfl)
        exact hloop71 5 (0 : Int32) (1 : Int32) w62 _ _ _ (by have q0 : (0 : Int32).toInt = 0 := rfl; have q1 : (1 : Int32).toInt = 1 := rfl; omega) (by have q0 : (0 : Int32).toInt = 0 := rfl; have q1 : (1 : Int32).toInt = 1 := rfl; omega) (by have q0 : (0 : Int32).toInt = 0 := rfl; have q1 : (1 : Int32).toInt = 1 := rfl; omega) (by have q0 : (0 : Int32).toInt = 0 := rfl; have q1 : (1 : Int32).toInt = 1 := rfl; omega) ok65 kx67 (by have q0 : (0 : Int32).toInt = 0 := rfl; have q1 : (1 : Int32).toInt = 1 := rfl; omega) h (lv_sub hl [0, 1, 2, 3, 4, 5, 6] rfl)
  exact hloop21 10001 (0 : Int32) (0 : Int32) w13 _ _ _ (by have q0 : (0 : Int32).toInt = 0 := rfl; omega) (by have q0 : (0 : Int32).toInt = 0 := rfl; omega) (by have q0 : (0 : Int32).toInt = 0 := rfl; omega) (by have q0 : (0 : Int32).toInt = 0 := rfl; omega) ok16 kx17 (by have q0 : (0 : Int32).toInt = 0 := rfl; omega) h (lv_sub hl [0, 1, 2, 3, 4] rfl)

set_option maxHeartbeats 4000000 in
set_option maxRecDepth 100000 in
theorem c_M_isOfTaste (l : Launch) (G : va_G) (cI cB cZ cO : ClassId) (ad : Nat → Nat) (w : Nat → va_E)  (ok : OK cI cB cZ cO ad w) (x : Int32) (t : Int32)   : NI l G (tyq cI cB cZ cO) yX9_isOfTaste cX9_isOfTaste 5 (some .boolean) 1 21 74 ad w [.ref (ad 64), .int x, .int t] (fun r w1 => w = w1 ∧ (r = 1 ∨ r = 0)) := by
  refine nk_i (own := "NoonShadeModel") rfl (by decide) (Nat.le_of_ble_eq_true rfl) ?_
  intro p e s m below meth c ls X hD hN hr hlk h hl
  have hx := X.1.1
  have hb := X.1.2.1
  have hown := X.1.2.2.2.1
  have hts := X.1.2.2.2.2
  have hl : lv_has ls 5 [(0, .ref (ad 64)), (1, .int x), (2, .int t)] := hl
  refine lv_iload_n hx hb dX9_isOfTaste_0 rfl (lv_at hl 1 rfl) ?_
  refine lv_aload_n hx hb dX9_isOfTaste_1 rfl (lv_at hl 0 rfl) ?_
  obtain ⟨x2, x3, t4, t5, t6, t7, t8, t9, f1, h10, h11⟩ := (show sM ad (w 64) from ok 64 (by decide))
  have f12 : w 64 = .inr (7, [.ref (ad 65), .ref (ad 66), .ref (ad 67), .ref (ad 68), .long x2, .long x3, .ref (ad 69), .int t4, .ref (ad 70), .ref (ad 71), .int t5, .int t6, .int t7, .int t8, .int t9, .ref (ad 72), .ref (ad 73)]) := f1
  refine r_get kc9 X h 64 0 (by decide) rfl f12 (by decide) kv_467 rfl dX9_isOfTaste_2 ?_
  refine lv_bipush (v := 7) hx hb dX9_isOfTaste_5 (by decide) ?_
  obtain ⟨g14, f13, p15⟩ := (show sA cI 177 (alA) (w 65) from ok 65 (by decide))
  have f16 : w 65 = .inl (cI, 177, .inl g14) := f13
  obtain ⟨v17, e18⟩ : ∃ z : Int32, g14 7 = z := ⟨_, rfl⟩
  refine o_iald (v := v17) X h 65 0 (by decide) rfl f16 rfl (by unfold vp_in; decide) e18 dX9_isOfTaste_7 ?_
  obtain ⟨z22, e20⟩ : ∃ z : Int32, x &&& v17 = z := ⟨_, rfl⟩
  refine o_iand (z := z22) hx hb dX9_isOfTaste_8 e20 ?_
  refine lv_if_ne (tgt := 16) hx hb dX9_isOfTaste_9 (by decide) (fun hc23 => ?_) (fun hc23 => ?_)
  · have hc23 : ¬ (z22).toInt = 0 := i_ne hc23 rfl rfl
    refine lv_iconst (v := 0) hx hb dX9_isOfTaste_16 (by decide) ?_
    refine lv_istore_n (lv' := [(3, .int 0), (0, .ref (ad 64)), (1, .int x), (2, .int t)]) hx hb dX9_isOfTaste_17 rfl hl (by decide) rfl (fun ls hl => ?_)
    refine lv_iconst (v := 0) hx hb dX9_isOfTaste_18 (by decide) ?_
    refine lv_istore (lv' := [(4, .int 0), (3, .int 0), (0, .ref (ad 64)), (1, .int x), (2, .int t)]) hx hb dX9_isOfTaste_19 hl (by decide) rfl (fun ls hl => ?_)
    have hloop26 : ∀ (d27 : Nat) (L24 : Int32) (L25 : Int32) (H : Heap) (locs : List Loc) (ls : Array Slot), 0 ≤ L25.toInt → L25.toInt ≤ 1 → 0 ≤ L24.toInt → L24.toInt ≤ 7 → 7 - L24.toInt < (d27 : Int) → St G 74 ad (wA 74 ad s.heap.size) s.heap w H locs → lv_has ls 5 [(4, .int L24), (3, .int L25), (0, .ref (ad 64)), (1, .int x), (2, .int t)] → W p l e { frames := 1, cells := 0, slots := 0, locals := 21 } s m [.ref (ad 64), .int x, .int t].toArray below meth c H locs 0 0 (MQ below (va_Qi (fun r w1 => w = w1 ∧ (r = 1 ∨ r = 0)) (Aft G 74 ad) (wA 74 ad s.heap.size)) [.ref (ad 64), .int x, .int t].toArray s 0 0 (wA 74 ad s.heap.size)) (F0 m 21 ls []) := by
      intro d27
      induction d27 with
      | zero => intro L24 L25 H locs ls hi30 hi31 hi32 hi33 hm29 h hl; exfalso; omega
      | succ d27 ih28 =>
        intro L24 L25 H locs ls hi30 hi31 hi32 hi33 hm29 h hl
        refine lv_iload hx hb dX9_isOfTaste_21 (lv_at hl 0 rfl) ?_
        refine lv_aload_n hx hb dX9_isOfTaste_23 rfl (lv_at hl 2 rfl) ?_
        refine r_get kc9 X h 64 0 (by decide) rfl f12 (by decide) kv_467 rfl dX9_isOfTaste_24 ?_
        refine lv_iconst (v := 0) hx hb dX9_isOfTaste_27 (by decide) ?_
        obtain ⟨v37, e38⟩ : ∃ z : Int32, g14 0 = z := ⟨_, rfl⟩
        have h39 := (alA_rd p15 e38).1 rfl
        refine o_iald (v := v37) X h 65 0 (by decide) rfl f16 rfl (by unfold vp_in; decide) e38 dX9_isOfTaste_28 ?_
        refine lv_icmp_ge (tgt := 71) hx hb dX9_isOfTaste_29 (by decide) (fun hc40 => ?_) (fun hc40 => ?_)
        · have hc40 : (v37).toInt ≤ (L24).toInt := i_le hc40 rfl rfl
          refine lv_iload_n hx hb dX9_isOfTaste_71 rfl (lv_at hl 1 rfl) ?_
          exact e_n X h hr hlk (nbool (by omega) (by omega)) dX9_isOfTaste_72 ⟨rfl, (b01 (by omega) (by omega))⟩
        · have hc40 : ¬ (v37).toInt ≤ (L24).toInt := i_nle hc40 rfl rfl
          refine lv_iload_n hx hb dX9_isOfTaste_32 rfl (lv_at hl 1 rfl) ?_
          refine lv_if_eq (tgt := 63) hx hb dX9_isOfTaste_33 (by decide) (fun hc41 => ?_) (fun hc41 => ?_)
          · have hc41 : (L25).toInt = 0 := i_eq hc41 rfl rfl
            refine lv_iconst (v := 0) hx hb dX9_isOfTaste_63 (by decide) ?_
            refine lv_istore_n (lv' := [(3, .int 0), (4, .int L24), (0, .ref (ad 64)), (1, .int x), (2, .int t)]) hx hb dX9_isOfTaste_64 rfl hl (by decide) rfl (fun ls hl => ?_)
            obtain ⟨z42, e43, t44⟩ := x_add (x := L24) (y := 1) (a := L24.toInt) (b := 1) rfl rfl (by omega) (by omega)
            refine lv_iinc (v := z42) (lv' := [(4, .int z42), (3, .int 0), (0, .ref (ad 64)), (1, .int x), (2, .int t)]) hx hb dX9_isOfTaste_65 hl (k := 1) rfl e43 (by decide) rfl (fun ls hl => ?_)
            refine lv_goto (tgt := 21) hx hb dX9_isOfTaste_68 (by decide) ?_
            exact ih28  z42 (0 : Int32)  _ _ _ (by have q0 : (0 : Int32).toInt = 0 := rfl; omega) (by have q0 : (0 : Int32).toInt = 0 := rfl; omega) (by have q0 : (0 : Int32).toInt = 0 := rfl; omega) (by have q0 : (0 : Int32).toInt = 0 := rfl; omega)  (by have q0 : (0 : Int32).toInt = 0 := rfl; omega) h (lv_sub hl [0, 1, 2, 3, 4] rfl)
          · have hc41 : ¬ (L25).toInt = 0 := i_ne hc41 rfl rfl
            refine lv_iload_n hx hb dX9_isOfTaste_36 rfl (lv_at hl 3 rfl) ?_
            refine lv_iload hx hb dX9_isOfTaste_37 (lv_at hl 0 rfl) ?_
            refine n_Si (na := 2) (As := [.int x, .int L24]) (rest := []) X hD hN h (c_M_has l G cI cB cZ cO ad w   x L24  ) ⟨kv_496, kv_497, kv_470, kv_498⟩ ⟨by decide, by decide, by decide⟩ ⟨Nat.le_of_ble_eq_true rfl, Nat.le_of_ble_eq_true rfl⟩ ⟨Nat.zero_le _, Nat.zero_le _⟩ rfl hl.1 rfl (Nat.le_of_ble_eq_true rfl) dX9_isOfTaste_39 (fun r45 w46 H locs hp47 h => ?_)
            obtain ⟨rfl, hr48⟩ := hp47
            rcases hr48 with rfl | rfl
            · refine lv_if_eq (tgt := 59) hx hb dX9_isOfTaste_42 (by decide) (fun hc => absurd hc (by decide)) (fun _ => ?_)
              refine lv_aload_n hx hb dX9_isOfTaste_45 rfl (lv_at hl 2 rfl) ?_
              refine r_get kc9 X h 64 0 (by decide) rfl f12 (by decide) kv_467 rfl dX9_isOfTaste_46 ?_
              refine lv_bipush (v := 30) hx hb dX9_isOfTaste_49 (by decide) ?_
              refine lv_iload hx hb dX9_isOfTaste_51 (lv_at hl 0 rfl) ?_
              obtain ⟨z51, e49, t50⟩ := x_add (x := (30 : Int32)) (y := L24) (a := 30) (b := (L24).toInt) rfl rfl (by omega) (by omega)
              refine o_iadd (z := z51) hx hb dX9_isOfTaste_53 e49 ?_
              obtain ⟨v52, e53⟩ : ∃ z : Int32, g14 (z51).toNatClampNeg = z := ⟨_, rfl⟩
              refine o_iald (v := v52) X h 65 0 (by decide) rfl f16 rfl (in_of (by omega) (by omega)) e53 dX9_isOfTaste_54 ?_
              refine lv_iload_n hx hb dX9_isOfTaste_55 rfl (lv_at hl 4 rfl) ?_
              refine lv_icmp_ne (tgt := 63) hx hb dX9_isOfTaste_56 (by decide) (fun hc55 => ?_) (fun hc55 => ?_)
              · have hc55 : ¬ (v52).toInt = (t).toInt := i_ne hc55 rfl rfl
                refine lv_iconst (v := 0) hx hb dX9_isOfTaste_63 (by decide) ?_
                refine lv_istore_n (lv' := [(3, .int 0), (4, .int L24), (0, .ref (ad 64)), (1, .int x), (2, .int t)]) hx hb dX9_isOfTaste_64 rfl hl (by decide) rfl (fun ls hl => ?_)
                obtain ⟨z56, e57, t58⟩ := x_add (x := L24) (y := 1) (a := L24.toInt) (b := 1) rfl rfl (by omega) (by omega)
                refine lv_iinc (v := z56) (lv' := [(4, .int z56), (3, .int 0), (0, .ref (ad 64)), (1, .int x), (2, .int t)]) hx hb dX9_isOfTaste_65 hl (k := 1) rfl e57 (by decide) rfl (fun ls hl => ?_)
                refine lv_goto (tgt := 21) hx hb dX9_isOfTaste_68 (by decide) ?_
                exact ih28  z56 (0 : Int32)  _ _ _ (by have q0 : (0 : Int32).toInt = 0 := rfl; omega) (by have q0 : (0 : Int32).toInt = 0 := rfl; omega) (by have q0 : (0 : Int32).toInt = 0 := rfl; omega) (by have q0 : (0 : Int32).toInt = 0 := rfl; omega)  (by have q0 : (0 : Int32).toInt = 0 := rfl; omega) h (lv_sub hl [0, 1, 2, 3, 4] rfl)
              · have hc55 : (v52).toInt = (t).toInt := i_eq hc55 rfl rfl
                refine lv_iconst (v := 1) hx hb dX9_isOfTaste_59 (by decide) ?_
                refine lv_goto (tgt := 64) hx hb dX9_isOfTaste_60 (by decide) ?_
                refine lv_istore_n (lv' := [(3, .int 1), (4, .int L24), (0, .ref (ad 64)), (1, .int x), (2, .int t)]) hx hb dX9_isOfTaste_64 rfl hl (by decide) rfl (fun ls hl => ?_)
                obtain ⟨z59, e60, t61⟩ := x_add (x := L24) (y := 1) (a := L24.toInt) (b := 1) rfl rfl (by omega) (by omega)
                refine lv_iinc (v := z59) (lv' := [(4, .int z59), (3, .int 1), (0, .ref (ad 64)), (1, .int x), (2, .int t)]) hx hb dX9_isOfTaste_65 hl (k := 1) rfl e60 (by decide) rfl (fun ls hl => ?_)
                refine lv_goto (tgt := 21) hx hb dX9_isOfTaste_68 (by decide) ?_
                exact ih28  z59 (1 : Int32)  _ _ _ (by have q0 : (1 : Int32).toInt = 1 := rfl; omega) (by have q0 : (1 : Int32).toInt = 1 := rfl; omega) (by have q0 : (1 : Int32).toInt = 1 := rfl; omega) (by have q0 : (1 : Int32).toInt = 1 := rfl; omega)  (by have q0 : (1 : Int32).toInt = 1 := rfl; omega) h (lv_sub hl [0, 1, 2, 3, 4] rfl)
            · refine lv_if_eq (tgt := 59) hx hb dX9_isOfTaste_42 (by decide) (fun _ => ?_) (fun hc => absurd (by decide) hc)
              refine lv_iconst (v := 1) hx hb dX9_isOfTaste_59 (by decide) ?_
              refine lv_goto (tgt := 64) hx hb dX9_isOfTaste_60 (by decide) ?_
              refine lv_istore_n (lv' := [(3, .int 1), (4, .int L24), (0, .ref (ad 64)), (1, .int x), (2, .int t)]) hx hb dX9_isOfTaste_64 rfl hl (by decide) rfl (fun ls hl => ?_)
              obtain ⟨z62, e63, t64⟩ := x_add (x := L24) (y := 1) (a := L24.toInt) (b := 1) rfl rfl (by omega) (by omega)
              refine lv_iinc (v := z62) (lv' := [(4, .int z62), (3, .int 1), (0, .ref (ad 64)), (1, .int x), (2, .int t)]) hx hb dX9_isOfTaste_65 hl (k := 1) rfl e63 (by decide) rfl (fun ls hl => ?_)
              refine lv_goto (tgt := 21) hx hb dX9_isOfTaste_68 (by decide) ?_
              exact ih28  z62 (1 : Int32)  _ _ _ (by have q0 : (1 : Int32).toInt = 1 := rfl; omega) (by have q0 : (1 : Int32).toInt = 1 := rfl; omega) (by have q0 : (1 : Int32).toInt = 1 := rfl; omega) (by have q0 : (1 : Int32).toInt = 1 := rfl; omega)  (by have q0 : (1 : Int32).toInt = 1 := rfl; omega) h (lv_sub hl [0, 1, 2, 3, 4] rfl)
    exact hloop26 8 (0 : Int32) (0 : Int32)  _ _ _ (by have q0 : (0 : Int32).toInt = 0 := rfl; omega) (by have q0 : (0 : Int32).toInt = 0 := rfl; omega) (by have q0 : (0 : Int32).toInt = 0 := rfl; omega) (by have q0 : (0 : Int32).toInt = 0 := rfl; omega)  (by have q0 : (0 : Int32).toInt = 0 := rfl; omega) h (lv_sub hl [0, 1, 2, 3, 4] rfl)
  · have hc23 : (z22).toInt = 0 := i_eq hc23 rfl rfl
    refine lv_iconst (v := 1) hx hb dX9_isOfTaste_12 (by decide) ?_
    refine lv_goto (tgt := 17) hx hb dX9_isOfTaste_13 (by decide) ?_
    refine lv_istore_n (lv' := [(3, .int 1), (0, .ref (ad 64)), (1, .int x), (2, .int t)]) hx hb dX9_isOfTaste_17 rfl hl (by decide) rfl (fun ls hl => ?_)
    refine lv_iconst (v := 0) hx hb dX9_isOfTaste_18 (by decide) ?_
    refine lv_istore (lv' := [(4, .int 0), (3, .int 1), (0, .ref (ad 64)), (1, .int x), (2, .int t)]) hx hb dX9_isOfTaste_19 hl (by decide) rfl (fun ls hl => ?_)
    have hloop67 : ∀ (d68 : Nat) (L65 : Int32) (L66 : Int32) (H : Heap) (locs : List Loc) (ls : Array Slot), 0 ≤ L66.toInt → L66.toInt ≤ 1 → 0 ≤ L65.toInt → L65.toInt ≤ 7 → 7 - L65.toInt < (d68 : Int) → St G 74 ad (wA 74 ad s.heap.size) s.heap w H locs → lv_has ls 5 [(4, .int L65), (3, .int L66), (0, .ref (ad 64)), (1, .int x), (2, .int t)] → W p l e { frames := 1, cells := 0, slots := 0, locals := 21 } s m [.ref (ad 64), .int x, .int t].toArray below meth c H locs 0 0 (MQ below (va_Qi (fun r w1 => w = w1 ∧ (r = 1 ∨ r = 0)) (Aft G 74 ad) (wA 74 ad s.heap.size)) [.ref (ad 64), .int x, .int t].toArray s 0 0 (wA 74 ad s.heap.size)) (F0 m 21 ls []) := by
      intro d68
      induction d68 with
      | zero => intro L65 L66 H locs ls hi71 hi72 hi73 hi74 hm70 h hl; exfalso; omega
      | succ d68 ih69 =>
        intro L65 L66 H locs ls hi71 hi72 hi73 hi74 hm70 h hl
        refine lv_iload hx hb dX9_isOfTaste_21 (lv_at hl 0 rfl) ?_
        refine lv_aload_n hx hb dX9_isOfTaste_23 rfl (lv_at hl 2 rfl) ?_
        refine r_get kc9 X h 64 0 (by decide) rfl f12 (by decide) kv_467 rfl dX9_isOfTaste_24 ?_
        refine lv_iconst (v := 0) hx hb dX9_isOfTaste_27 (by decide) ?_
        obtain ⟨v78, e79⟩ : ∃ z : Int32, g14 0 = z := ⟨_, rfl⟩
        have h80 := (alA_rd p15 e79).1 rfl
        refine o_iald (v := v78) X h 65 0 (by decide) rfl f16 rfl (by unfold vp_in; decide) e79 dX9_isOfTaste_28 ?_
        refine lv_icmp_ge (tgt := 71) hx hb dX9_isOfTaste_29 (by decide) (fun hc81 => ?_) (fun hc81 => ?_)
        · have hc81 : (v78).toInt ≤ (L65).toInt := i_le hc81 rfl rfl
          refine lv_iload_n hx hb dX9_isOfTaste_71 rfl (lv_at hl 1 rfl) ?_
          exact e_n X h hr hlk (nbool (by omega) (by omega)) dX9_isOfTaste_72 ⟨rfl, (b01 (by omega) (by omega))⟩
        · have hc81 : ¬ (v78).toInt ≤ (L65).toInt := i_nle hc81 rfl rfl
          refine lv_iload_n hx hb dX9_isOfTaste_32 rfl (lv_at hl 1 rfl) ?_
          refine lv_if_eq (tgt := 63) hx hb dX9_isOfTaste_33 (by decide) (fun hc82 => ?_) (fun hc82 => ?_)
          · have hc82 : (L66).toInt = 0 := i_eq hc82 rfl rfl
            refine lv_iconst (v := 0) hx hb dX9_isOfTaste_63 (by decide) ?_
            refine lv_istore_n (lv' := [(3, .int 0), (4, .int L65), (0, .ref (ad 64)), (1, .int x), (2, .int t)]) hx hb dX9_isOfTaste_64 rfl hl (by decide) rfl (fun ls hl => ?_)
            obtain ⟨z83, e84, t85⟩ := x_add (x := L65) (y := 1) (a := L65.toInt) (b := 1) rfl rfl (by omega) (by omega)
            refine lv_iinc (v := z83) (lv' := [(4, .int z83), (3, .int 0), (0, .ref (ad 64)), (1, .int x), (2, .int t)]) hx hb dX9_isOfTaste_65 hl (k := 1) rfl e84 (by decide) rfl (fun ls hl => ?_)
            refine lv_goto (tgt := 21) hx hb dX9_isOfTaste_68 (by decide) ?_
            exact ih69  z83 (0 : Int32)  _ _ _ (by have q0 : (0 : Int32).toInt = 0 := rfl; omega) (by have q0 : (0 : Int32).toInt = 0 := rfl; omega) (by have q0 : (0 : Int32).toInt = 0 := rfl; omega) (by have q0 : (0 : Int32).toInt = 0 := rfl; omega)  (by have q0 : (0 : Int32).toInt = 0 := rfl; omega) h (lv_sub hl [0, 1, 2, 3, 4] rfl)
          · have hc82 : ¬ (L66).toInt = 0 := i_ne hc82 rfl rfl
            refine lv_iload_n hx hb dX9_isOfTaste_36 rfl (lv_at hl 3 rfl) ?_
            refine lv_iload hx hb dX9_isOfTaste_37 (lv_at hl 0 rfl) ?_
            refine n_Si (na := 2) (As := [.int x, .int L65]) (rest := []) X hD hN h (c_M_has l G cI cB cZ cO ad w   x L65  ) ⟨kv_496, kv_497, kv_470, kv_498⟩ ⟨by decide, by decide, by decide⟩ ⟨Nat.le_of_ble_eq_true rfl, Nat.le_of_ble_eq_true rfl⟩ ⟨Nat.zero_le _, Nat.zero_le _⟩ rfl hl.1 rfl (Nat.le_of_ble_eq_true rfl) dX9_isOfTaste_39 (fun r86 w87 H locs hp88 h => ?_)
            obtain ⟨rfl, hr89⟩ := hp88
            rcases hr89 with rfl | rfl
            · refine lv_if_eq (tgt := 59) hx hb dX9_isOfTaste_42 (by decide) (fun hc => absurd hc (by decide)) (fun _ => ?_)
              refine lv_aload_n hx hb dX9_isOfTaste_45 rfl (lv_at hl 2 rfl) ?_
              refine r_get kc9 X h 64 0 (by decide) rfl f12 (by decide) kv_467 rfl dX9_isOfTaste_46 ?_
              refine lv_bipush (v := 30) hx hb dX9_isOfTaste_49 (by decide) ?_
              refine lv_iload hx hb dX9_isOfTaste_51 (lv_at hl 0 rfl) ?_
              obtain ⟨z92, e90, t91⟩ := x_add (x := (30 : Int32)) (y := L65) (a := 30) (b := (L65).toInt) rfl rfl (by omega) (by omega)
              refine o_iadd (z := z92) hx hb dX9_isOfTaste_53 e90 ?_
              obtain ⟨v93, e94⟩ : ∃ z : Int32, g14 (z92).toNatClampNeg = z := ⟨_, rfl⟩
              refine o_iald (v := v93) X h 65 0 (by decide) rfl f16 rfl (in_of (by omega) (by omega)) e94 dX9_isOfTaste_54 ?_
              refine lv_iload_n hx hb dX9_isOfTaste_55 rfl (lv_at hl 4 rfl) ?_
              refine lv_icmp_ne (tgt := 63) hx hb dX9_isOfTaste_56 (by decide) (fun hc96 => ?_) (fun hc96 => ?_)
              · have hc96 : ¬ (v93).toInt = (t).toInt := i_ne hc96 rfl rfl
                refine lv_iconst (v := 0) hx hb dX9_isOfTaste_63 (by decide) ?_
                refine lv_istore_n (lv' := [(3, .int 0), (4, .int L65), (0, .ref (ad 64)), (1, .int x), (2, .int t)]) hx hb dX9_isOfTaste_64 rfl hl (by decide) rfl (fun ls hl => ?_)
                obtain ⟨z97, e98, t99⟩ := x_add (x := L65) (y := 1) (a := L65.toInt) (b := 1) rfl rfl (by omega) (by omega)
                refine lv_iinc (v := z97) (lv' := [(4, .int z97), (3, .int 0), (0, .ref (ad 64)), (1, .int x), (2, .int t)]) hx hb dX9_isOfTaste_65 hl (k := 1) rfl e98 (by decide) rfl (fun ls hl => ?_)
                refine lv_goto (tgt := 21) hx hb dX9_isOfTaste_68 (by decide) ?_
                exact ih69  z97 (0 : Int32)  _ _ _ (by have q0 : (0 : Int32).toInt = 0 := rfl; omega) (by have q0 : (0 : Int32).toInt = 0 := rfl; omega) (by have q0 : (0 : Int32).toInt = 0 := rfl; omega) (by have q0 : (0 : Int32).toInt = 0 := rfl; omega)  (by have q0 : (0 : Int32).toInt = 0 := rfl; omega) h (lv_sub hl [0, 1, 2, 3, 4] rfl)
              · have hc96 : (v93).toInt = (t).toInt := i_eq hc96 rfl rfl
                refine lv_iconst (v := 1) hx hb dX9_isOfTaste_59 (by decide) ?_
                refine lv_goto (tgt := 64) hx hb dX9_isOfTaste_60 (by decide) ?_
                refine lv_istore_n (lv' := [(3, .int 1), (4, .int L65), (0, .ref (ad 64)), (1, .int x), (2, .int t)]) hx hb dX9_isOfTaste_64 rfl hl (by decide) rfl (fun ls hl => ?_)
                obtain ⟨z100, e101, t102⟩ := x_add (x := L65) (y := 1) (a := L65.toInt) (b := 1) rfl rfl (by omega) (by omega)
                refine lv_iinc (v := z100) (lv' := [(4, .int z100), (3, .int 1), (0, .ref (ad 64)), (1, .int x), (2, .int t)]) hx hb dX9_isOfTaste_65 hl (k := 1) rfl e101 (by decide) rfl (fun ls hl => ?_)
                refine lv_goto (tgt := 21) hx hb dX9_isOfTaste_68 (by decide) ?_
                exact ih69  z100 (1 : Int32)  _ _ _ (by have q0 : (1 : Int32).toInt = 1 := rfl; omega) (by have q0 : (1 : Int32).toInt = 1 := rfl; omega) (by have q0 : (1 : Int32).toInt = 1 := rfl; omega) (by have q0 : (1 : Int32).toInt = 1 := rfl; omega)  (by have q0 : (1 : Int32).toInt = 1 := rfl; omega) h (lv_sub hl [0, 1, 2, 3, 4] rfl)
            · refine lv_if_eq (tgt := 59) hx hb dX9_isOfTaste_42 (by decide) (fun _ => ?_) (fun hc => absurd (by decide) hc)
              refine lv_iconst (v := 1) hx hb dX9_isOfTaste_59 (by decide) ?_
              refine lv_goto (tgt := 64) hx hb dX9_isOfTaste_60 (by decide) ?_
              refine lv_istore_n (lv' := [(3, .int 1), (4, .int L65), (0, .ref (ad 64)), (1, .int x), (2, .int t)]) hx hb dX9_isOfTaste_64 rfl hl (by decide) rfl (fun ls hl => ?_)
              obtain ⟨z103, e104, t105⟩ := x_add (x := L65) (y := 1) (a := L65.toInt) (b := 1) rfl rfl (by omega) (by omega)
              refine lv_iinc (v := z103) (lv' := [(4, .int z103), (3, .int 1), (0, .ref (ad 64)), (1, .int x), (2, .int t)]) hx hb dX9_isOfTaste_65 hl (k := 1) rfl e104 (by decide) rfl (fun ls hl => ?_)
              refine lv_goto (tgt := 21) hx hb dX9_isOfTaste_68 (by decide) ?_
              exact ih69  z103 (1 : Int32)  _ _ _ (by have q0 : (1 : Int32).toInt = 1 := rfl; omega) (by have q0 : (1 : Int32).toInt = 1 := rfl; omega) (by have q0 : (1 : Int32).toInt = 1 := rfl; omega) (by have q0 : (1 : Int32).toInt = 1 := rfl; omega)  (by have q0 : (1 : Int32).toInt = 1 := rfl; omega) h (lv_sub hl [0, 1, 2, 3, 4] rfl)
    exact hloop67 8 (0 : Int32) (1 : Int32)  _ _ _ (by have q0 : (0 : Int32).toInt = 0 := rfl; have q1 : (1 : Int32).toInt = 1 := rfl; omega) (by have q0 : (0 : Int32).toInt = 0 := rfl; have q1 : (1 : Int32).toInt = 1 := rfl; omega) (by have q0 : (0 : Int32).toInt = 0 := rfl; have q1 : (1 : Int32).toInt = 1 := rfl; omega) (by have q0 : (0 : Int32).toInt = 0 := rfl; have q1 : (1 : Int32).toInt = 1 := rfl; omega)  (by have q0 : (0 : Int32).toInt = 0 := rfl; have q1 : (1 : Int32).toInt = 1 := rfl; omega) h (lv_sub hl [0, 1, 2, 3, 4] rfl)

set_option maxHeartbeats 4000000 in
set_option maxRecDepth 100000 in
theorem c_M_givenBy (l : Launch) (G : va_G) (cI cB cZ cO : ClassId) (ad : Nat → Nat) (w : Nat → va_E)  (ok : OK cI cB cZ cO ad w) (x : Int32)   : NI l G (tyq cI cB cZ cO) yX9_givenBy cX9_givenBy 4 (some .int) 2 47 74 ad w [.ref (ad 64), .int x] (fun r w1 => w = w1 ∧ True) := by
  refine nk_i (own := "NoonShadeModel") rfl (by decide) (Nat.le_of_ble_eq_true rfl) ?_
  intro p e s m below meth c ls X hD hN hr hlk h hl
  have hx := X.1.1
  have hb := X.1.2.1
  have hown := X.1.2.2.2.1
  have hts := X.1.2.2.2.2
  have hl : lv_has ls 4 [(0, .ref (ad 64)), (1, .int x)] := hl
  refine lv_iconst (v := 0) hx hb dX9_givenBy_0 (by decide) ?_
  refine lv_istore_n (lv' := [(2, .int 0), (0, .ref (ad 64)), (1, .int x)]) hx hb dX9_givenBy_1 rfl hl (by decide) rfl (fun ls hl => ?_)
  refine lv_iconst (v := 0) hx hb dX9_givenBy_2 (by decide) ?_
  refine lv_istore_n (lv' := [(3, .int 0), (2, .int 0), (0, .ref (ad 64)), (1, .int x)]) hx hb dX9_givenBy_3 rfl hl (by decide) rfl (fun ls hl => ?_)
  have hloop3 : ∀ (d4 : Nat) (L1 : Int32) (L2 : Int32) (H : Heap) (locs : List Loc) (ls : Array Slot), 0 ≤ L1.toInt → L1.toInt ≤ 7 → 7 - L1.toInt < (d4 : Int) → St G 74 ad (wA 74 ad s.heap.size) s.heap w H locs → lv_has ls 4 [(3, .int L1), (2, .int L2), (0, .ref (ad 64)), (1, .int x)] → W p l e { frames := 2, cells := 0, slots := 0, locals := 47 } s m [.ref (ad 64), .int x].toArray below meth c H locs 0 0 (MQ below (va_Qi (fun r w1 => w = w1 ∧ True) (Aft G 74 ad) (wA 74 ad s.heap.size)) [.ref (ad 64), .int x].toArray s 0 0 (wA 74 ad s.heap.size)) (F0 m 4 ls []) := by
    intro d4
    induction d4 with
    | zero => intro L1 L2 H locs ls hi7 hi8 hm6 h hl; exfalso; omega
    | succ d4 ih5 =>
      intro L1 L2 H locs ls hi7 hi8 hm6 h hl
      refine lv_iload_n hx hb dX9_givenBy_4 rfl (lv_at hl 0 rfl) ?_
      refine lv_aload_n hx hb dX9_givenBy_5 rfl (lv_at hl 2 rfl) ?_
      obtain ⟨x13, x14, t15, t16, t17, t18, t19, t20, f12, h21, h22⟩ := (show sM ad (w 64) from ok 64 (by decide))
      have f23 : w 64 = .inr (7, [.ref (ad 65), .ref (ad 66), .ref (ad 67), .ref (ad 68), .long x13, .long x14, .ref (ad 69), .int t15, .ref (ad 70), .ref (ad 71), .int t16, .int t17, .int t18, .int t19, .int t20, .ref (ad 72), .ref (ad 73)]) := f12
      refine r_get kc9 X h 64 0 (by decide) rfl f23 (by decide) kv_467 rfl dX9_givenBy_6 ?_
      refine lv_iconst (v := 0) hx hb dX9_givenBy_9 (by decide) ?_
      obtain ⟨g25, f24, p26⟩ := (show sA cI 177 (alA) (w 65) from ok 65 (by decide))
      have f27 : w 65 = .inl (cI, 177, .inl g25) := f24
      obtain ⟨v28, e29⟩ : ∃ z : Int32, g25 0 = z := ⟨_, rfl⟩
      have h30 := (alA_rd p26 e29).1 rfl
      refine o_iald (v := v28) X h 65 0 (by decide) rfl f27 rfl (by unfold vp_in; decide) e29 dX9_givenBy_10 ?_
      refine lv_icmp_ge (tgt := 44) hx hb dX9_givenBy_11 (by decide) (fun hc31 => ?_) (fun hc31 => ?_)
      · have hc31 : (v28).toInt ≤ (L1).toInt := i_le hc31 rfl rfl
        refine lv_iload_n hx hb dX9_givenBy_44 rfl (lv_at hl 1 rfl) ?_
        exact e_i X h hr hlk dX9_givenBy_45 ⟨rfl, trivial⟩
      · have hc31 : ¬ (v28).toInt ≤ (L1).toInt := i_nle hc31 rfl rfl
        refine lv_iload_n hx hb dX9_givenBy_14 rfl (lv_at hl 1 rfl) ?_
        refine lv_iload_n hx hb dX9_givenBy_15 rfl (lv_at hl 3 rfl) ?_
        refine lv_iload_n hx hb dX9_givenBy_16 rfl (lv_at hl 0 rfl) ?_
        refine n_Si (na := 2) (As := [.int x, .int L1]) (rest := [.int L2]) X hD hN h (c_M_has l G cI cB cZ cO ad w   x L1  ) ⟨kv_496, kv_497, kv_470, kv_498⟩ ⟨by decide, by decide, by decide⟩ ⟨Nat.le_of_ble_eq_true rfl, Nat.le_of_ble_eq_true rfl⟩ ⟨Nat.zero_le _, Nat.zero_le _⟩ rfl hl.1 rfl (Nat.le_of_ble_eq_true rfl) dX9_givenBy_17 (fun r32 w33 H locs hp34 h => ?_)
        obtain ⟨rfl, hr35⟩ := hp34
        rcases hr35 with rfl | rfl
        · refine lv_if_eq (tgt := 35) hx hb dX9_givenBy_20 (by decide) (fun hc => absurd hc (by decide)) (fun _ => ?_)
          refine lv_aload_n hx hb dX9_givenBy_23 rfl (lv_at hl 2 rfl) ?_
          refine r_get kc9 X h 64 0 (by decide) rfl f23 (by decide) kv_467 rfl dX9_givenBy_24 ?_
          refine lv_iload_n hx hb dX9_givenBy_27 rfl (lv_at hl 0 rfl) ?_
          refine lv_iconst (v := 0) hx hb dX9_givenBy_28 (by decide) ?_
          refine n_Si (na := 3) (As := [.ref (ad 65), .int L1, .int 0]) (rest := [.int L2]) X hD hN h (c_M_givesOf l G cI cB cZ cO ad w 65 (Or.inl rfl) ok L1 (0 : Int32) (by omega) (by omega) ) ⟨kv_483, kv_484, kv_470, kv_485⟩ ⟨by decide, by decide, by decide⟩ ⟨Nat.le_of_ble_eq_true rfl, Nat.le_of_ble_eq_true rfl⟩ ⟨Nat.zero_le _, Nat.zero_le _⟩ rfl hl.1 rfl (Nat.le_of_ble_eq_true rfl) dX9_givenBy_29 (fun r36 w37 H locs hp38 h => ?_)
          obtain ⟨rfl, hr39⟩ := hp38
          refine lv_goto (tgt := 36) hx hb dX9_givenBy_32 (by decide) ?_
          obtain ⟨z42, e40⟩ : ∃ z : Int32, L2 + r36 = z := ⟨_, rfl⟩
          refine o_iadd (z := z42) hx hb dX9_givenBy_36 e40 ?_
          refine lv_istore_n (lv' := [(2, .int z42), (3, .int L1), (0, .ref (ad 64)), (1, .int x)]) hx hb dX9_givenBy_37 rfl hl (by decide) rfl (fun ls hl => ?_)
          obtain ⟨z43, e44, t45⟩ := x_add (x := L1) (y := 1) (a := L1.toInt) (b := 1) rfl rfl (by omega) (by omega)
          refine lv_iinc (v := z43) (lv' := [(3, .int z43), (2, .int z42), (0, .ref (ad 64)), (1, .int x)]) hx hb dX9_givenBy_38 hl (k := 1) rfl e44 (by decide) rfl (fun ls hl => ?_)
          refine lv_goto (tgt := 4) hx hb dX9_givenBy_41 (by decide) ?_
          exact ih5  z43 z42  _ _ _ (by omega) (by omega)  (by omega) h (lv_sub hl [0, 1, 2, 3] rfl)
        · refine lv_if_eq (tgt := 35) hx hb dX9_givenBy_20 (by decide) (fun _ => ?_) (fun hc => absurd (by decide) hc)
          refine lv_iconst (v := 0) hx hb dX9_givenBy_35 (by decide) ?_
          obtain ⟨z48, e46⟩ : ∃ z : Int32, L2 + (0 : Int32) = z := ⟨_, rfl⟩
          refine o_iadd (z := z48) hx hb dX9_givenBy_36 e46 ?_
          refine lv_istore_n (lv' := [(2, .int z48), (3, .int L1), (0, .ref (ad 64)), (1, .int x)]) hx hb dX9_givenBy_37 rfl hl (by decide) rfl (fun ls hl => ?_)
          obtain ⟨z49, e50, t51⟩ := x_add (x := L1) (y := 1) (a := L1.toInt) (b := 1) rfl rfl (by omega) (by omega)
          refine lv_iinc (v := z49) (lv' := [(3, .int z49), (2, .int z48), (0, .ref (ad 64)), (1, .int x)]) hx hb dX9_givenBy_38 hl (k := 1) rfl e50 (by decide) rfl (fun ls hl => ?_)
          refine lv_goto (tgt := 4) hx hb dX9_givenBy_41 (by decide) ?_
          exact ih5  z49 z48  _ _ _ (by omega) (by omega)  (by omega) h (lv_sub hl [0, 1, 2, 3] rfl)
  exact hloop3 8 (0 : Int32) (0 : Int32)  _ _ _ (by have q0 : (0 : Int32).toInt = 0 := rfl; omega) (by have q0 : (0 : Int32).toInt = 0 := rfl; omega)  (by have q0 : (0 : Int32).toInt = 0 := rfl; omega) h (lv_sub hl [0, 1, 2, 3] rfl)

set_option maxHeartbeats 4000000 in
set_option maxRecDepth 100000 in
theorem c_M_kindsBy (l : Launch) (G : va_G) (cI cB cZ cO : ClassId) (ad : Nat → Nat) (w : Nat → va_E)  (ok : OK cI cB cZ cO ad w) (i : Int32) (x : Int32) (n : Int32) (y : Int32) (hl_x : 41 ≤ x.toInt) (hh_x : x.toInt ≤ 65) (hl_n : 0 ≤ n.toInt) (hh_n : n.toInt ≤ 6)  : NI l G (tyq cI cB cZ cO) yX9_kindsBy cX9_kindsBy 11 (some .int) 1 25 74 ad w [.ref (ad 64), .int i, .int x, .int n, .int y] (fun r w1 => w = w1 ∧ True) := by
  refine nk_i (own := "NoonShadeModel") rfl (by decide) (Nat.le_of_ble_eq_true rfl) ?_
  intro p e s m below meth c ls X hD hN hr hlk h hl
  have hx := X.1.1
  have hb := X.1.2.1
  have hown := X.1.2.2.2.1
  have hts := X.1.2.2.2.2
  have hl : lv_has ls 11 [(0, .ref (ad 64)), (1, .int i), (2, .int x), (3, .int n), (4, .int y)] := hl
  refine lv_iconst (v := 0) hx hb dX9_kindsBy_0 (by decide) ?_
  refine lv_istore (lv' := [(5, .int 0), (0, .ref (ad 64)), (1, .int i), (2, .int x), (3, .int n), (4, .int y)]) hx hb dX9_kindsBy_1 hl (by decide) rfl (fun ls hl => ?_)
  refine lv_iconst (v := 0) hx hb dX9_kindsBy_3 (by decide) ?_
  refine lv_istore (lv' := [(6, .int 0), (5, .int 0), (0, .ref (ad 64)), (1, .int i), (2, .int x), (3, .int n), (4, .int y)]) hx hb dX9_kindsBy_4 hl (by decide) rfl (fun ls hl => ?_)
  have hloop3 : ∀ (d4 : Nat) (L1 : Int32) (L2 : Int32) (H : Heap) (locs : List Loc) (ls : Array Slot), 0 ≤ L1.toInt → L1.toInt ≤ 6 → 6 - L1.toInt < (d4 : Int) → St G 74 ad (wA 74 ad s.heap.size) s.heap w H locs → lv_has ls 11 [(6, .int L1), (5, .int L2), (0, .ref (ad 64)), (1, .int i), (2, .int x), (3, .int n), (4, .int y)] → W p l e { frames := 1, cells := 0, slots := 0, locals := 25 } s m [.ref (ad 64), .int i, .int x, .int n, .int y].toArray below meth c H locs 0 0 (MQ below (va_Qi (fun r w1 => w = w1 ∧ True) (Aft G 74 ad) (wA 74 ad s.heap.size)) [.ref (ad 64), .int i, .int x, .int n, .int y].toArray s 0 0 (wA 74 ad s.heap.size)) (F0 m 6 ls []) := by
    intro d4
    induction d4 with
    | zero => intro L1 L2 H locs ls hi7 hi8 hm6 h hl; exfalso; omega
    | succ d4 ih5 =>
      intro L1 L2 H locs ls hi7 hi8 hm6 h hl
      refine lv_iload hx hb dX9_kindsBy_6 (lv_at hl 0 rfl) ?_
      refine lv_bipush (v := 6) hx hb dX9_kindsBy_8 (by decide) ?_
      refine lv_icmp_ge (tgt := 156) hx hb dX9_kindsBy_10 (by decide) (fun hc12 => ?_) (fun hc12 => ?_)
      · have hc12 : 6 ≤ (L1).toInt := i_le hc12 rfl rfl
        refine lv_iload hx hb dX9_kindsBy_156 (lv_at hl 1 rfl) ?_
        exact e_i X h hr hlk dX9_kindsBy_158 ⟨rfl, trivial⟩
      · have hc12 : ¬ 6 ≤ (L1).toInt := i_nle hc12 rfl rfl
        refine lv_iconst (v := 1) hx hb dX9_kindsBy_13 (by decide) ?_
        refine lv_istore (lv' := [(7, .int 1), (6, .int L1), (5, .int L2), (0, .ref (ad 64)), (1, .int i), (2, .int x), (3, .int n), (4, .int y)]) hx hb dX9_kindsBy_14 hl (by decide) rfl (fun ls hl => ?_)
        refine lv_iconst (v := 0) hx hb dX9_kindsBy_16 (by decide) ?_
        refine lv_istore (lv' := [(8, .int 0), (7, .int 1), (6, .int L1), (5, .int L2), (0, .ref (ad 64)), (1, .int i), (2, .int x), (3, .int n), (4, .int y)]) hx hb dX9_kindsBy_17 hl (by decide) rfl (fun ls hl => ?_)
        have hloop15 : ∀ (d16 : Nat) (L13 : Int32) (L14 : Int32) (H : Heap) (locs : List Loc) (ls : Array Slot), 0 ≤ L14.toInt → L14.toInt ≤ 1 → 0 ≤ L13.toInt → L13.toInt ≤ 6 → 6 - L13.toInt < (d16 : Int) → St G 74 ad (wA 74 ad s.heap.size) s.heap w H locs → lv_has ls 11 [(8, .int L13), (7, .int L14), (6, .int L1), (5, .int L2), (0, .ref (ad 64)), (1, .int i), (2, .int x), (3, .int n), (4, .int y)] → W p l e { frames := 1, cells := 0, slots := 0, locals := 25 } s m [.ref (ad 64), .int i, .int x, .int n, .int y].toArray below meth c H locs 0 0 (MQ below (va_Qi (fun r w1 => w = w1 ∧ True) (Aft G 74 ad) (wA 74 ad s.heap.size)) [.ref (ad 64), .int i, .int x, .int n, .int y].toArray s 0 0 (wA 74 ad s.heap.size)) (F0 m 19 ls []) := by
          intro d16
          induction d16 with
          | zero => intro L13 L14 H locs ls hi19 hi20 hi21 hi22 hm18 h hl; exfalso; omega
          | succ d16 ih17 =>
            intro L13 L14 H locs ls hi19 hi20 hi21 hi22 hm18 h hl
            refine lv_iload hx hb dX9_kindsBy_19 (lv_at hl 0 rfl) ?_
            refine lv_iload_n hx hb dX9_kindsBy_21 rfl (lv_at hl 7 rfl) ?_
            refine lv_icmp_ge (tgt := 132) hx hb dX9_kindsBy_22 (by decide) (fun hc26 => ?_) (fun hc26 => ?_)
            · have hc26 : (n).toInt ≤ (L13).toInt := i_le hc26 rfl rfl
              refine lv_iload hx hb dX9_kindsBy_132 (lv_at hl 3 rfl) ?_
              refine lv_iload hx hb dX9_kindsBy_134 (lv_at hl 1 rfl) ?_
              refine lv_if_eq (tgt := 146) hx hb dX9_kindsBy_136 (by decide) (fun hc27 => ?_) (fun hc27 => ?_)
              · have hc27 : (L14).toInt = 0 := i_eq hc27 rfl rfl
                refine lv_iconst (v := 0) hx hb dX9_kindsBy_146 (by decide) ?_
                obtain ⟨z30, e28⟩ : ∃ z : Int32, L2 ||| (0 : Int32) = z := ⟨_, rfl⟩
                refine o_ior (z := z30) hx hb dX9_kindsBy_147 e28 ?_
                refine lv_istore (lv' := [(5, .int z30), (8, .int L13), (7, .int L14), (6, .int L1), (0, .ref (ad 64)), (1, .int i), (2, .int x), (3, .int n), (4, .int y)]) hx hb dX9_kindsBy_148 hl (by decide) rfl (fun ls hl => ?_)
                obtain ⟨z31, e32, t33⟩ := x_add (x := L1) (y := 1) (a := L1.toInt) (b := 1) rfl rfl (by omega) (by omega)
                refine lv_iinc (v := z31) (lv' := [(6, .int z31), (5, .int z30), (8, .int L13), (7, .int L14), (0, .ref (ad 64)), (1, .int i), (2, .int x), (3, .int n), (4, .int y)]) hx hb dX9_kindsBy_150 hl (k := 3) rfl e32 (by decide) rfl (fun ls hl => ?_)
                refine lv_goto (tgt := 6) hx hb dX9_kindsBy_153 (by decide) ?_
                exact ih5  z31 z30  _ _ _ (by omega) (by omega)  (by omega) h (lv_sub hl [0, 1, 4, 5, 6, 7, 8] rfl)
              · have hc27 : ¬ (L14).toInt = 0 := i_ne hc27 rfl rfl
                refine lv_iconst (v := 1) hx hb dX9_kindsBy_139 (by decide) ?_
                refine lv_iload hx hb dX9_kindsBy_140 (lv_at hl 2 rfl) ?_
                obtain ⟨z36, e34, t35, t35b⟩ := x_shl7 (i := L1) (by omega) (by omega)
                refine o_ishl (z := z36) hx hb dX9_kindsBy_142 e34 ?_
                refine lv_goto (tgt := 147) hx hb dX9_kindsBy_143 (by decide) ?_
                obtain ⟨z39, e37⟩ : ∃ z : Int32, L2 ||| z36 = z := ⟨_, rfl⟩
                refine o_ior (z := z39) hx hb dX9_kindsBy_147 e37 ?_
                refine lv_istore (lv' := [(5, .int z39), (8, .int L13), (7, .int L14), (6, .int L1), (0, .ref (ad 64)), (1, .int i), (2, .int x), (3, .int n), (4, .int y)]) hx hb dX9_kindsBy_148 hl (by decide) rfl (fun ls hl => ?_)
                obtain ⟨z40, e41, t42⟩ := x_add (x := L1) (y := 1) (a := L1.toInt) (b := 1) rfl rfl (by omega) (by omega)
                refine lv_iinc (v := z40) (lv' := [(6, .int z40), (5, .int z39), (8, .int L13), (7, .int L14), (0, .ref (ad 64)), (1, .int i), (2, .int x), (3, .int n), (4, .int y)]) hx hb dX9_kindsBy_150 hl (k := 3) rfl e41 (by decide) rfl (fun ls hl => ?_)
                refine lv_goto (tgt := 6) hx hb dX9_kindsBy_153 (by decide) ?_
                exact ih5  z40 z39  _ _ _ (by omega) (by omega)  (by omega) h (lv_sub hl [0, 1, 4, 5, 6, 7, 8] rfl)
            · have hc26 : ¬ (n).toInt ≤ (L13).toInt := i_nle hc26 rfl rfl
              refine lv_iload_n hx hb dX9_kindsBy_25 rfl (lv_at hl 6 rfl) ?_
              refine lv_iconst (v := 4) hx hb dX9_kindsBy_26 (by decide) ?_
              refine lv_iload hx hb dX9_kindsBy_27 (lv_at hl 0 rfl) ?_
              obtain ⟨z45, e43, t44⟩ := x_mul (x := (4 : Int32)) (y := L13) (a := 4) (b := (L13).toInt) rfl rfl (by omega) (by omega)
              refine o_imul (z := z45) hx hb dX9_kindsBy_29 e43 ?_
              obtain ⟨z48, e46, t47⟩ := x_add (x := x) (y := z45) (a := (x).toInt) (b := (z45).toInt) rfl rfl (by omega) (by omega)
              refine o_iadd (z := z48) hx hb dX9_kindsBy_30 e46 ?_
              refine lv_istore (lv' := [(9, .int z48), (8, .int L13), (7, .int L14), (6, .int L1), (5, .int L2), (0, .ref (ad 64)), (1, .int i), (2, .int x), (3, .int n), (4, .int y)]) hx hb dX9_kindsBy_31 hl (by decide) rfl (fun ls hl => ?_)
              refine lv_iload hx hb dX9_kindsBy_33 (lv_at hl 9 rfl) ?_
              refine lv_if_eq (tgt := 64) hx hb dX9_kindsBy_35 (by decide) (fun hc49 => ?_) (fun hc49 => ?_)
              · have hc49 : (y).toInt = 0 := i_eq hc49 rfl rfl
                refine lv_iload hx hb dX9_kindsBy_64 (lv_at hl 3 rfl) ?_
                refine lv_aload_n hx hb dX9_kindsBy_66 rfl (lv_at hl 5 rfl) ?_
                obtain ⟨x51, x52, t53, t54, t55, t56, t57, t58, f50, h59, h60⟩ := (show sM ad (w 64) from ok 64 (by decide))
                have f61 : w 64 = .inr (7, [.ref (ad 65), .ref (ad 66), .ref (ad 67), .ref (ad 68), .long x51, .long x52, .ref (ad 69), .int t53, .ref (ad 70), .ref (ad 71), .int t54, .int t55, .int t56, .int t57, .int t58, .ref (ad 72), .ref (ad 73)]) := f50
                refine r_get kc9 X h 64 0 (by decide) rfl f61 (by decide) kv_467 rfl dX9_kindsBy_67 ?_
                refine lv_iload hx hb dX9_kindsBy_70 (lv_at hl 0 rfl) ?_
                refine lv_iconst (v := 1) hx hb dX9_kindsBy_72 (by decide) ?_
                obtain ⟨z64, e62, t63⟩ := x_add (x := z48) (y := (1 : Int32)) (a := (z48).toInt) (b := 1) rfl rfl (by omega) (by omega)
                refine o_iadd (z := z64) hx hb dX9_kindsBy_73 e62 ?_
                obtain ⟨g66, f65, p67⟩ := (show sA cI 177 (alA) (w 65) from ok 65 (by decide))
                have f68 : w 65 = .inl (cI, 177, .inl g66) := f65
                obtain ⟨v69, e70⟩ : ∃ z : Int32, g66 (z64).toNatClampNeg = z := ⟨_, rfl⟩
                refine o_iald (v := v69) X h 65 0 (by decide) rfl f68 rfl (in_of (by omega) (by omega)) e70 dX9_kindsBy_74 ?_
                refine lv_aload_n hx hb dX9_kindsBy_75 rfl (lv_at hl 5 rfl) ?_
                refine r_get kc9 X h 64 0 (by decide) rfl f61 (by decide) kv_467 rfl dX9_kindsBy_76 ?_
                refine lv_iload hx hb dX9_kindsBy_79 (lv_at hl 0 rfl) ?_
                refine lv_iconst (v := 2) hx hb dX9_kindsBy_81 (by decide) ?_
                obtain ⟨z74, e72, t73⟩ := x_add (x := z48) (y := (2 : Int32)) (a := (z48).toInt) (b := 2) rfl rfl (by omega) (by omega)
                refine o_iadd (z := z74) hx hb dX9_kindsBy_82 e72 ?_
                obtain ⟨v75, e76⟩ : ∃ z : Int32, g66 (z74).toNatClampNeg = z := ⟨_, rfl⟩
                refine o_iald (v := v75) X h 65 0 (by decide) rfl f68 rfl (in_of (by omega) (by omega)) e76 dX9_kindsBy_83 ?_
                refine n_Si (na := 3) (As := [.int L1, .int v69, .int v75]) (rest := []) X hD hN h (c_M_losesAs l G cI cB cZ cO ad w   L1 v69 v75  ) ⟨kv_480, kv_481, kv_470, kv_482⟩ ⟨by decide, by decide, by decide⟩ ⟨Nat.le_of_ble_eq_true rfl, Nat.le_of_ble_eq_true rfl⟩ ⟨Nat.zero_le _, Nat.zero_le _⟩ rfl hl.1 rfl (Nat.le_of_ble_eq_true rfl) dX9_kindsBy_84 (fun r78 w79 H locs hp80 h => ?_)
                obtain ⟨rfl, hr81⟩ := hp80
                refine lv_istore (lv' := [(10, .int r78), (9, .int z48), (8, .int L13), (7, .int L14), (6, .int L1), (5, .int L2), (0, .ref (ad 64)), (1, .int i), (2, .int x), (3, .int n), (4, .int y)]) hx hb dX9_kindsBy_87 hl (by decide) rfl (fun ls hl => ?_)
                refine lv_iload hx hb dX9_kindsBy_89 (lv_at hl 3 rfl) ?_
                refine lv_if_eq (tgt := 123) hx hb dX9_kindsBy_91 (by decide) (fun hc82 => ?_) (fun hc82 => ?_)
                · have hc82 : (L14).toInt = 0 := i_eq hc82 rfl rfl
                  refine lv_iconst (v := 0) hx hb dX9_kindsBy_123 (by decide) ?_
                  refine lv_istore (lv' := [(7, .int 0), (10, .int r78), (9, .int z48), (8, .int L13), (6, .int L1), (5, .int L2), (0, .ref (ad 64)), (1, .int i), (2, .int x), (3, .int n), (4, .int y)]) hx hb dX9_kindsBy_124 hl (by decide) rfl (fun ls hl => ?_)
                  obtain ⟨z83, e84, t85⟩ := x_add (x := L13) (y := 1) (a := L13.toInt) (b := 1) rfl rfl (by omega) (by omega)
                  refine lv_iinc (v := z83) (lv' := [(8, .int z83), (7, .int 0), (10, .int r78), (9, .int z48), (6, .int L1), (5, .int L2), (0, .ref (ad 64)), (1, .int i), (2, .int x), (3, .int n), (4, .int y)]) hx hb dX9_kindsBy_126 hl (k := 3) rfl e84 (by decide) rfl (fun ls hl => ?_)
                  refine lv_goto (tgt := 19) hx hb dX9_kindsBy_129 (by decide) ?_
                  exact ih17  z83 (0 : Int32)  _ _ _ (by have q0 : (0 : Int32).toInt = 0 := rfl; omega) (by have q0 : (0 : Int32).toInt = 0 := rfl; omega) (by have q0 : (0 : Int32).toInt = 0 := rfl; omega) (by have q0 : (0 : Int32).toInt = 0 := rfl; omega)  (by have q0 : (0 : Int32).toInt = 0 := rfl; omega) h (lv_sub hl [0, 1, 4, 5, 6, 7, 8, 9, 10] rfl)
                · have hc82 : ¬ (L14).toInt = 0 := i_ne hc82 rfl rfl
                  refine lv_aload_n hx hb dX9_kindsBy_94 rfl (lv_at hl 6 rfl) ?_
                  refine r_get kc9 X h 64 0 (by decide) rfl f61 (by decide) kv_467 rfl dX9_kindsBy_95 ?_
                  refine lv_iload hx hb dX9_kindsBy_98 (lv_at hl 1 rfl) ?_
                  obtain ⟨v86, e87⟩ : ∃ z : Int32, g66 (z48).toNatClampNeg = z := ⟨_, rfl⟩
                  refine o_iald (v := v86) X h 65 0 (by decide) rfl f68 rfl (in_of (by omega) (by omega)) e87 dX9_kindsBy_100 ?_
                  refine lv_iload_n hx hb dX9_kindsBy_101 rfl (lv_at hl 7 rfl) ?_
                  refine lv_icmp_ne (tgt := 119) hx hb dX9_kindsBy_102 (by decide) (fun hc89 => ?_) (fun hc89 => ?_)
                  · have hc89 : ¬ (v86).toInt = (i).toInt := i_ne hc89 rfl rfl
                    refine lv_iconst (v := 1) hx hb dX9_kindsBy_119 (by decide) ?_
                    refine lv_goto (tgt := 124) hx hb dX9_kindsBy_120 (by decide) ?_
                    refine lv_istore (lv' := [(7, .int 1), (10, .int r78), (9, .int z48), (8, .int L13), (6, .int L1), (5, .int L2), (0, .ref (ad 64)), (1, .int i), (2, .int x), (3, .int n), (4, .int y)]) hx hb dX9_kindsBy_124 hl (by decide) rfl (fun ls hl => ?_)
                    obtain ⟨z90, e91, t92⟩ := x_add (x := L13) (y := 1) (a := L13.toInt) (b := 1) rfl rfl (by omega) (by omega)
                    refine lv_iinc (v := z90) (lv' := [(8, .int z90), (7, .int 1), (10, .int r78), (9, .int z48), (6, .int L1), (5, .int L2), (0, .ref (ad 64)), (1, .int i), (2, .int x), (3, .int n), (4, .int y)]) hx hb dX9_kindsBy_126 hl (k := 3) rfl e91 (by decide) rfl (fun ls hl => ?_)
                    refine lv_goto (tgt := 19) hx hb dX9_kindsBy_129 (by decide) ?_
                    exact ih17  z90 (1 : Int32)  _ _ _ (by have q0 : (1 : Int32).toInt = 1 := rfl; omega) (by have q0 : (1 : Int32).toInt = 1 := rfl; omega) (by have q0 : (1 : Int32).toInt = 1 := rfl; omega) (by have q0 : (1 : Int32).toInt = 1 := rfl; omega)  (by have q0 : (1 : Int32).toInt = 1 := rfl; omega) h (lv_sub hl [0, 1, 4, 5, 6, 7, 8, 9, 10] rfl)
                  · have hc89 : (v86).toInt = (i).toInt := i_eq hc89 rfl rfl
                    refine lv_iload hx hb dX9_kindsBy_105 (lv_at hl 0 rfl) ?_
                    refine lv_aload_n hx hb dX9_kindsBy_107 rfl (lv_at hl 6 rfl) ?_
                    refine r_get kc9 X h 64 0 (by decide) rfl f61 (by decide) kv_467 rfl dX9_kindsBy_108 ?_
                    refine lv_iload hx hb dX9_kindsBy_111 (lv_at hl 1 rfl) ?_
                    refine lv_iconst (v := 3) hx hb dX9_kindsBy_113 (by decide) ?_
                    obtain ⟨z95, e93, t94⟩ := x_add (x := z48) (y := (3 : Int32)) (a := (z48).toInt) (b := 3) rfl rfl (by omega) (by omega)
                    refine o_iadd (z := z95) hx hb dX9_kindsBy_114 e93 ?_
                    obtain ⟨v96, e97⟩ : ∃ z : Int32, g66 (z95).toNatClampNeg = z := ⟨_, rfl⟩
                    refine o_iald (v := v96) X h 65 0 (by decide) rfl f68 rfl (in_of (by omega) (by omega)) e97 dX9_kindsBy_115 ?_
                    refine lv_icmp_ne (tgt := 123) hx hb dX9_kindsBy_116 (by decide) (fun hc99 => ?_) (fun hc99 => ?_)
                    · have hc99 : ¬ (r78).toInt = (v96).toInt := i_ne hc99 rfl rfl
                      refine lv_iconst (v := 0) hx hb dX9_kindsBy_123 (by decide) ?_
                      refine lv_istore (lv' := [(7, .int 0), (10, .int r78), (9, .int z48), (8, .int L13), (6, .int L1), (5, .int L2), (0, .ref (ad 64)), (1, .int i), (2, .int x), (3, .int n), (4, .int y)]) hx hb dX9_kindsBy_124 hl (by decide) rfl (fun ls hl => ?_)
                      obtain ⟨z100, e101, t102⟩ := x_add (x := L13) (y := 1) (a := L13.toInt) (b := 1) rfl rfl (by omega) (by omega)
                      refine lv_iinc (v := z100) (lv' := [(8, .int z100), (7, .int 0), (10, .int r78), (9, .int z48), (6, .int L1), (5, .int L2), (0, .ref (ad 64)), (1, .int i), (2, .int x), (3, .int n), (4, .int y)]) hx hb dX9_kindsBy_126 hl (k := 3) rfl e101 (by decide) rfl (fun ls hl => ?_)
                      refine lv_goto (tgt := 19) hx hb dX9_kindsBy_129 (by decide) ?_
                      exact ih17  z100 (0 : Int32)  _ _ _ (by have q0 : (0 : Int32).toInt = 0 := rfl; omega) (by have q0 : (0 : Int32).toInt = 0 := rfl; omega) (by have q0 : (0 : Int32).toInt = 0 := rfl; omega) (by have q0 : (0 : Int32).toInt = 0 := rfl; omega)  (by have q0 : (0 : Int32).toInt = 0 := rfl; omega) h (lv_sub hl [0, 1, 4, 5, 6, 7, 8, 9, 10] rfl)
                    · have hc99 : (r78).toInt = (v96).toInt := i_eq hc99 rfl rfl
                      refine lv_iconst (v := 1) hx hb dX9_kindsBy_119 (by decide) ?_
                      refine lv_goto (tgt := 124) hx hb dX9_kindsBy_120 (by decide) ?_
                      refine lv_istore (lv' := [(7, .int 1), (10, .int r78), (9, .int z48), (8, .int L13), (6, .int L1), (5, .int L2), (0, .ref (ad 64)), (1, .int i), (2, .int x), (3, .int n), (4, .int y)]) hx hb dX9_kindsBy_124 hl (by decide) rfl (fun ls hl => ?_)
                      obtain ⟨z103, e104, t105⟩ := x_add (x := L13) (y := 1) (a := L13.toInt) (b := 1) rfl rfl (by omega) (by omega)
                      refine lv_iinc (v := z103) (lv' := [(8, .int z103), (7, .int 1), (10, .int r78), (9, .int z48), (6, .int L1), (5, .int L2), (0, .ref (ad 64)), (1, .int i), (2, .int x), (3, .int n), (4, .int y)]) hx hb dX9_kindsBy_126 hl (k := 3) rfl e104 (by decide) rfl (fun ls hl => ?_)
                      refine lv_goto (tgt := 19) hx hb dX9_kindsBy_129 (by decide) ?_
                      exact ih17  z103 (1 : Int32)  _ _ _ (by have q0 : (1 : Int32).toInt = 1 := rfl; omega) (by have q0 : (1 : Int32).toInt = 1 := rfl; omega) (by have q0 : (1 : Int32).toInt = 1 := rfl; omega) (by have q0 : (1 : Int32).toInt = 1 := rfl; omega)  (by have q0 : (1 : Int32).toInt = 1 := rfl; omega) h (lv_sub hl [0, 1, 4, 5, 6, 7, 8, 9, 10] rfl)
              · have hc49 : ¬ (y).toInt = 0 := i_ne hc49 rfl rfl
                refine lv_iload hx hb dX9_kindsBy_38 (lv_at hl 3 rfl) ?_
                refine lv_aload_n hx hb dX9_kindsBy_40 rfl (lv_at hl 5 rfl) ?_
                obtain ⟨x107, x108, t109, t110, t111, t112, t113, t114, f106, h115, h116⟩ := (show sM ad (w 64) from ok 64 (by decide))
                have f117 : w 64 = .inr (7, [.ref (ad 65), .ref (ad 66), .ref (ad 67), .ref (ad 68), .long x107, .long x108, .ref (ad 69), .int t109, .ref (ad 70), .ref (ad 71), .int t110, .int t111, .int t112, .int t113, .int t114, .ref (ad 72), .ref (ad 73)]) := f106
                refine r_get kc9 X h 64 0 (by decide) rfl f117 (by decide) kv_467 rfl dX9_kindsBy_41 ?_
                refine lv_iload hx hb dX9_kindsBy_44 (lv_at hl 0 rfl) ?_
                refine lv_iconst (v := 1) hx hb dX9_kindsBy_46 (by decide) ?_
                obtain ⟨z120, e118, t119⟩ := x_add (x := z48) (y := (1 : Int32)) (a := (z48).toInt) (b := 1) rfl rfl (by omega) (by omega)
                refine o_iadd (z := z120) hx hb dX9_kindsBy_47 e118 ?_
                obtain ⟨g122, f121, p123⟩ := (show sA cI 177 (alA) (w 65) from ok 65 (by decide))
                have f124 : w 65 = .inl (cI, 177, .inl g122) := f121
                obtain ⟨v125, e126⟩ : ∃ z : Int32, g122 (z120).toNatClampNeg = z := ⟨_, rfl⟩
                refine o_iald (v := v125) X h 65 0 (by decide) rfl f124 rfl (in_of (by omega) (by omega)) e126 dX9_kindsBy_48 ?_
                refine lv_aload_n hx hb dX9_kindsBy_49 rfl (lv_at hl 5 rfl) ?_
                refine r_get kc9 X h 64 0 (by decide) rfl f117 (by decide) kv_467 rfl dX9_kindsBy_50 ?_
                refine lv_iload hx hb dX9_kindsBy_53 (lv_at hl 0 rfl) ?_
                refine lv_iconst (v := 2) hx hb dX9_kindsBy_55 (by decide) ?_
                obtain ⟨z130, e128, t129⟩ := x_add (x := z48) (y := (2 : Int32)) (a := (z48).toInt) (b := 2) rfl rfl (by omega) (by omega)
                refine o_iadd (z := z130) hx hb dX9_kindsBy_56 e128 ?_
                obtain ⟨v131, e132⟩ : ∃ z : Int32, g122 (z130).toNatClampNeg = z := ⟨_, rfl⟩
                refine o_iald (v := v131) X h 65 0 (by decide) rfl f124 rfl (in_of (by omega) (by omega)) e132 dX9_kindsBy_57 ?_
                refine n_Si (na := 3) (As := [.int L1, .int v125, .int v131]) (rest := []) X hD hN h (c_M_givesAs l G cI cB cZ cO ad w   L1 v125 v131  ) ⟨kv_477, kv_478, kv_470, kv_479⟩ ⟨by decide, by decide, by decide⟩ ⟨Nat.le_of_ble_eq_true rfl, Nat.le_of_ble_eq_true rfl⟩ ⟨Nat.zero_le _, Nat.zero_le _⟩ rfl hl.1 rfl (Nat.le_of_ble_eq_true rfl) dX9_kindsBy_58 (fun r134 w135 H locs hp136 h => ?_)
                obtain ⟨rfl, hr137⟩ := hp136
                refine lv_goto (tgt := 87) hx hb dX9_kindsBy_61 (by decide) ?_
                refine lv_istore (lv' := [(10, .int r134), (9, .int z48), (8, .int L13), (7, .int L14), (6, .int L1), (5, .int L2), (0, .ref (ad 64)), (1, .int i), (2, .int x), (3, .int n), (4, .int y)]) hx hb dX9_kindsBy_87 hl (by decide) rfl (fun ls hl => ?_)
                refine lv_iload hx hb dX9_kindsBy_89 (lv_at hl 3 rfl) ?_
                refine lv_if_eq (tgt := 123) hx hb dX9_kindsBy_91 (by decide) (fun hc138 => ?_) (fun hc138 => ?_)
                · have hc138 : (L14).toInt = 0 := i_eq hc138 rfl rfl
                  refine lv_iconst (v := 0) hx hb dX9_kindsBy_123 (by decide) ?_
                  refine lv_istore (lv' := [(7, .int 0), (10, .int r134), (9, .int z48), (8, .int L13), (6, .int L1), (5, .int L2), (0, .ref (ad 64)), (1, .int i), (2, .int x), (3, .int n), (4, .int y)]) hx hb dX9_kindsBy_124 hl (by decide) rfl (fun ls hl => ?_)
                  obtain ⟨z139, e140, t141⟩ := x_add (x := L13) (y := 1) (a := L13.toInt) (b := 1) rfl rfl (by omega) (by omega)
                  refine lv_iinc (v := z139) (lv' := [(8, .int z139), (7, .int 0), (10, .int r134), (9, .int z48), (6, .int L1), (5, .int L2), (0, .ref (ad 64)), (1, .int i), (2, .int x), (3, .int n), (4, .int y)]) hx hb dX9_kindsBy_126 hl (k := 3) rfl e140 (by decide) rfl (fun ls hl => ?_)
                  refine lv_goto (tgt := 19) hx hb dX9_kindsBy_129 (by decide) ?_
                  exact ih17  z139 (0 : Int32)  _ _ _ (by have q0 : (0 : Int32).toInt = 0 := rfl; omega) (by have q0 : (0 : Int32).toInt = 0 := rfl; omega) (by have q0 : (0 : Int32).toInt = 0 := rfl; omega) (by have q0 : (0 : Int32).toInt = 0 := rfl; omega)  (by have q0 : (0 : Int32).toInt = 0 := rfl; omega) h (lv_sub hl [0, 1, 4, 5, 6, 7, 8, 9, 10] rfl)
                · have hc138 : ¬ (L14).toInt = 0 := i_ne hc138 rfl rfl
                  refine lv_aload_n hx hb dX9_kindsBy_94 rfl (lv_at hl 6 rfl) ?_
                  refine r_get kc9 X h 64 0 (by decide) rfl f117 (by decide) kv_467 rfl dX9_kindsBy_95 ?_
                  refine lv_iload hx hb dX9_kindsBy_98 (lv_at hl 1 rfl) ?_
                  obtain ⟨v142, e143⟩ : ∃ z : Int32, g122 (z48).toNatClampNeg = z := ⟨_, rfl⟩
                  refine o_iald (v := v142) X h 65 0 (by decide) rfl f124 rfl (in_of (by omega) (by omega)) e143 dX9_kindsBy_100 ?_
                  refine lv_iload_n hx hb dX9_kindsBy_101 rfl (lv_at hl 7 rfl) ?_
                  refine lv_icmp_ne (tgt := 119) hx hb dX9_kindsBy_102 (by decide) (fun hc145 => ?_) (fun hc145 => ?_)
                  · have hc145 : ¬ (v142).toInt = (i).toInt := i_ne hc145 rfl rfl
                    refine lv_iconst (v := 1) hx hb dX9_kindsBy_119 (by decide) ?_
                    refine lv_goto (tgt := 124) hx hb dX9_kindsBy_120 (by decide) ?_
                    refine lv_istore (lv' := [(7, .int 1), (10, .int r134), (9, .int z48), (8, .int L13), (6, .int L1), (5, .int L2), (0, .ref (ad 64)), (1, .int i), (2, .int x), (3, .int n), (4, .int y)]) hx hb dX9_kindsBy_124 hl (by decide) rfl (fun ls hl => ?_)
                    obtain ⟨z146, e147, t148⟩ := x_add (x := L13) (y := 1) (a := L13.toInt) (b := 1) rfl rfl (by omega) (by omega)
                    refine lv_iinc (v := z146) (lv' := [(8, .int z146), (7, .int 1), (10, .int r134), (9, .int z48), (6, .int L1), (5, .int L2), (0, .ref (ad 64)), (1, .int i), (2, .int x), (3, .int n), (4, .int y)]) hx hb dX9_kindsBy_126 hl (k := 3) rfl e147 (by decide) rfl (fun ls hl => ?_)
                    refine lv_goto (tgt := 19) hx hb dX9_kindsBy_129 (by decide) ?_
                    exact ih17  z146 (1 : Int32)  _ _ _ (by have q0 : (1 : Int32).toInt = 1 := rfl; omega) (by have q0 : (1 : Int32).toInt = 1 := rfl; omega) (by have q0 : (1 : Int32).toInt = 1 := rfl; omega) (by have q0 : (1 : Int32).toInt = 1 := rfl; omega)  (by have q0 : (1 : Int32).toInt = 1 := rfl; omega) h (lv_sub hl [0, 1, 4, 5, 6, 7, 8, 9, 10] rfl)
                  · have hc145 : (v142).toInt = (i).toInt := i_eq hc145 rfl rfl
                    refine lv_iload hx hb dX9_kindsBy_105 (lv_at hl 0 rfl) ?_
                    refine lv_aload_n hx hb dX9_kindsBy_107 rfl (lv_at hl 6 rfl) ?_
                    refine r_get kc9 X h 64 0 (by decide) rfl f117 (by decide) kv_467 rfl dX9_kindsBy_108 ?_
                    refine lv_iload hx hb dX9_kindsBy_111 (lv_at hl 1 rfl) ?_
                    refine lv_iconst (v := 3) hx hb dX9_kindsBy_113 (by decide) ?_
                    obtain ⟨z151, e149, t150⟩ := x_add (x := z48) (y := (3 : Int32)) (a := (z48).toInt) (b := 3) rfl rfl (by omega) (by omega)
                    refine o_iadd (z := z151) hx hb dX9_kindsBy_114 e149 ?_
                    obtain ⟨v152, e153⟩ : ∃ z : Int32, g122 (z151).toNatClampNeg = z := ⟨_, rfl⟩
                    refine o_iald (v := v152) X h 65 0 (by decide) rfl f124 rfl (in_of (by omega) (by omega)) e153 dX9_kindsBy_115 ?_
                    refine lv_icmp_ne (tgt := 123) hx hb dX9_kindsBy_116 (by decide) (fun hc155 => ?_) (fun hc155 => ?_)
                    · have hc155 : ¬ (r134).toInt = (v152).toInt := i_ne hc155 rfl rfl
                      refine lv_iconst (v := 0) hx hb dX9_kindsBy_123 (by decide) ?_
                      refine lv_istore (lv' := [(7, .int 0), (10, .int r134), (9, .int z48), (8, .int L13), (6, .int L1), (5, .int L2), (0, .ref (ad 64)), (1, .int i), (2, .int x), (3, .int n), (4, .int y)]) hx hb dX9_kindsBy_124 hl (by decide) rfl (fun ls hl => ?_)
                      obtain ⟨z156, e157, t158⟩ := x_add (x := L13) (y := 1) (a := L13.toInt) (b := 1) rfl rfl (by omega) (by omega)
                      refine lv_iinc (v := z156) (lv' := [(8, .int z156), (7, .int 0), (10, .int r134), (9, .int z48), (6, .int L1), (5, .int L2), (0, .ref (ad 64)), (1, .int i), (2, .int x), (3, .int n), (4, .int y)]) hx hb dX9_kindsBy_126 hl (k := 3) rfl e157 (by decide) rfl (fun ls hl => ?_)
                      refine lv_goto (tgt := 19) hx hb dX9_kindsBy_129 (by decide) ?_
                      exact ih17  z156 (0 : Int32)  _ _ _ (by have q0 : (0 : Int32).toInt = 0 := rfl; omega) (by have q0 : (0 : Int32).toInt = 0 := rfl; omega) (by have q0 : (0 : Int32).toInt = 0 := rfl; omega) (by have q0 : (0 : Int32).toInt = 0 := rfl; omega)  (by have q0 : (0 : Int32).toInt = 0 := rfl; omega) h (lv_sub hl [0, 1, 4, 5, 6, 7, 8, 9, 10] rfl)
                    · have hc155 : (r134).toInt = (v152).toInt := i_eq hc155 rfl rfl
                      refine lv_iconst (v := 1) hx hb dX9_kindsBy_119 (by decide) ?_
                      refine lv_goto (tgt := 124) hx hb dX9_kindsBy_120 (by decide) ?_
                      refine lv_istore (lv' := [(7, .int 1), (10, .int r134), (9, .int z48), (8, .int L13), (6, .int L1), (5, .int L2), (0, .ref (ad 64)), (1, .int i), (2, .int x), (3, .int n), (4, .int y)]) hx hb dX9_kindsBy_124 hl (by decide) rfl (fun ls hl => ?_)
                      obtain ⟨z159, e160, t161⟩ := x_add (x := L13) (y := 1) (a := L13.toInt) (b := 1) rfl rfl (by omega) (by omega)
                      refine lv_iinc (v := z159) (lv' := [(8, .int z159), (7, .int 1), (10, .int r134), (9, .int z48), (6, .int L1), (5, .int L2), (0, .ref (ad 64)), (1, .int i), (2, .int x), (3, .int n), (4, .int y)]) hx hb dX9_kindsBy_126 hl (k := 3) rfl e160 (by decide) rfl (fun ls hl => ?_)
                      refine lv_goto (tgt := 19) hx hb dX9_kindsBy_129 (by decide) ?_
                      exact ih17  z159 (1 : Int32)  _ _ _ (by have q0 : (1 : Int32).toInt = 1 := rfl; omega) (by have q0 : (1 : Int32).toInt = 1 := rfl; omega) (by have q0 : (1 : Int32).toInt = 1 := rfl; omega) (by have q0 : (1 : Int32).toInt = 1 := rfl; omega)  (by have q0 : (1 : Int32).toInt = 1 := rfl; omega) h (lv_sub hl [0, 1, 4, 5, 6, 7, 8, 9, 10] rfl)
        exact hloop15 7 (0 : Int32) (1 : Int32)  _ _ _ (by have q0 : (0 : Int32).toInt = 0 := rfl; have q1 : (1 : Int32).toInt = 1 := rfl; omega) (by have q0 : (0 : Int32).toInt = 0 := rfl; have q1 : (1 : Int32).toInt = 1 := rfl; omega) (by have q0 : (0 : Int32).toInt = 0 := rfl; have q1 : (1 : Int32).toInt = 1 := rfl; omega) (by have q0 : (0 : Int32).toInt = 0 := rfl; have q1 : (1 : Int32).toInt = 1 := rfl; omega)  (by have q0 : (0 : Int32).toInt = 0 := rfl; have q1 : (1 : Int32).toInt = 1 := rfl; omega) h (lv_sub hl [0, 1, 2, 3, 4, 5, 6, 7, 8] rfl)
  exact hloop3 7 (0 : Int32) (0 : Int32)  _ _ _ (by have q0 : (0 : Int32).toInt = 0 := rfl; omega) (by have q0 : (0 : Int32).toInt = 0 := rfl; omega)  (by have q0 : (0 : Int32).toInt = 0 := rfl; omega) h (lv_sub hl [0, 1, 2, 3, 4, 5, 6] rfl)

set_option maxHeartbeats 4000000 in
set_option maxRecDepth 100000 in
theorem c_M_kindsOfCaster (l : Launch) (G : va_G) (cI cB cZ cO : ClassId) (ad : Nat → Nat) (w : Nat → va_E)  (ok : OK cI cB cZ cO ad w) (i : Int32)   : NI l G (tyq cI cB cZ cO) yX9_kindsOfCaster cX9_kindsOfCaster 2 (some .int) 2 55 74 ad w [.ref (ad 64), .int i] (fun r w1 => w = w1 ∧ True) := by
  refine nk_i (own := "NoonShadeModel") rfl (by decide) (Nat.le_of_ble_eq_true rfl) ?_
  intro p e s m below meth c ls X hD hN hr hlk h hl
  have hx := X.1.1
  have hb := X.1.2.1
  have hown := X.1.2.2.2.1
  have hts := X.1.2.2.2.2
  have hl : lv_has ls 2 [(0, .ref (ad 64)), (1, .int i)] := hl
  refine lv_aload_n hx hb dX9_kindsOfCaster_0 rfl (lv_at hl 0 rfl) ?_
  refine lv_iload_n hx hb dX9_kindsOfCaster_1 rfl (lv_at hl 1 rfl) ?_
  refine lv_bipush (v := 41) hx hb dX9_kindsOfCaster_2 (by decide) ?_
  refine lv_aload_n hx hb dX9_kindsOfCaster_4 rfl (lv_at hl 0 rfl) ?_
  obtain ⟨x2, x3, t4, t5, t6, t7, t8, t9, f1, h10, h11⟩ := (show sM ad (w 64) from ok 64 (by decide))
  have f12 : w 64 = .inr (7, [.ref (ad 65), .ref (ad 66), .ref (ad 67), .ref (ad 68), .long x2, .long x3, .ref (ad 69), .int t4, .ref (ad 70), .ref (ad 71), .int t5, .int t6, .int t7, .int t8, .int t9, .ref (ad 72), .ref (ad 73)]) := f1
  refine r_get kc9 X h 64 0 (by decide) rfl f12 (by decide) kv_467 rfl dX9_kindsOfCaster_5 ?_
  refine lv_iconst (v := 2) hx hb dX9_kindsOfCaster_8 (by decide) ?_
  obtain ⟨g14, f13, p15⟩ := (show sA cI 177 (alA) (w 65) from ok 65 (by decide))
  have f16 : w 65 = .inl (cI, 177, .inl g14) := f13
  obtain ⟨v17, e18⟩ : ∃ z : Int32, g14 2 = z := ⟨_, rfl⟩
  have h19 := (alA_rd p15 e18).2.2.1 rfl
  refine o_iald (v := v17) X h 65 0 (by decide) rfl f16 rfl (by unfold vp_in; decide) e18 dX9_kindsOfCaster_9 ?_
  refine lv_iconst (v := 1) hx hb dX9_kindsOfCaster_10 (by decide) ?_
  refine n_Vi (na := 4) (As := [.int i, .int 41, .int v17, .int 1]) (rest := []) X hD hN h rfl (c_M_kindsBy l G cI cB cZ cO ad w  ok i (41 : Int32) v17 (1 : Int32) (by decide) (by decide) (by omega) (by omega) ) ⟨kv_514, kv_515, kv_516, kv_470, kv_517⟩ rfl ⟨by decide, by decide, by decide⟩ ⟨Nat.le_of_ble_eq_true rfl, Nat.le_of_ble_eq_true rfl⟩ ⟨Nat.zero_le _, Nat.zero_le _⟩ (by decide) f12 rfl rfl hl.1 rfl (Nat.le_of_ble_eq_true rfl) dX9_kindsOfCaster_11 (fun r20 w21 H locs hp22 h => ?_)
  obtain ⟨rfl, hr23⟩ := hp22
  exact e_i X h hr hlk dX9_kindsOfCaster_14 ⟨rfl, trivial⟩

set_option maxHeartbeats 4000000 in
set_option maxRecDepth 100000 in
theorem c_M_kindsOfJar (l : Launch) (G : va_G) (cI cB cZ cO : ClassId) (ad : Nat → Nat) (w : Nat → va_E)  (ok : OK cI cB cZ cO ad w) (j : Int32)   : NI l G (tyq cI cB cZ cO) yX9_kindsOfJar cX9_kindsOfJar 2 (some .int) 2 55 74 ad w [.ref (ad 64), .int j] (fun r w1 => w = w1 ∧ True) := by
  refine nk_i (own := "NoonShadeModel") rfl (by decide) (Nat.le_of_ble_eq_true rfl) ?_
  intro p e s m below meth c ls X hD hN hr hlk h hl
  have hx := X.1.1
  have hb := X.1.2.1
  have hown := X.1.2.2.2.1
  have hts := X.1.2.2.2.2
  have hl : lv_has ls 2 [(0, .ref (ad 64)), (1, .int j)] := hl
  refine lv_aload_n hx hb dX9_kindsOfJar_0 rfl (lv_at hl 0 rfl) ?_
  refine lv_iload_n hx hb dX9_kindsOfJar_1 rfl (lv_at hl 1 rfl) ?_
  refine lv_bipush (v := 65) hx hb dX9_kindsOfJar_2 (by decide) ?_
  refine lv_aload_n hx hb dX9_kindsOfJar_4 rfl (lv_at hl 0 rfl) ?_
  obtain ⟨x2, x3, t4, t5, t6, t7, t8, t9, f1, h10, h11⟩ := (show sM ad (w 64) from ok 64 (by decide))
  have f12 : w 64 = .inr (7, [.ref (ad 65), .ref (ad 66), .ref (ad 67), .ref (ad 68), .long x2, .long x3, .ref (ad 69), .int t4, .ref (ad 70), .ref (ad 71), .int t5, .int t6, .int t7, .int t8, .int t9, .ref (ad 72), .ref (ad 73)]) := f1
  refine r_get kc9 X h 64 0 (by decide) rfl f12 (by decide) kv_467 rfl dX9_kindsOfJar_5 ?_
  refine lv_iconst (v := 3) hx hb dX9_kindsOfJar_8 (by decide) ?_
  obtain ⟨g14, f13, p15⟩ := (show sA cI 177 (alA) (w 65) from ok 65 (by decide))
  have f16 : w 65 = .inl (cI, 177, .inl g14) := f13
  obtain ⟨v17, e18⟩ : ∃ z : Int32, g14 3 = z := ⟨_, rfl⟩
  have h19 := (alA_rd p15 e18).2.2.2.1 rfl
  refine o_iald (v := v17) X h 65 0 (by decide) rfl f16 rfl (by unfold vp_in; decide) e18 dX9_kindsOfJar_9 ?_
  refine lv_iconst (v := 0) hx hb dX9_kindsOfJar_10 (by decide) ?_
  refine n_Vi (na := 4) (As := [.int j, .int 65, .int v17, .int 0]) (rest := []) X hD hN h rfl (c_M_kindsBy l G cI cB cZ cO ad w  ok j (65 : Int32) v17 (0 : Int32) (by decide) (by decide) (by omega) (by omega) ) ⟨kv_514, kv_515, kv_516, kv_470, kv_517⟩ rfl ⟨by decide, by decide, by decide⟩ ⟨Nat.le_of_ble_eq_true rfl, Nat.le_of_ble_eq_true rfl⟩ ⟨Nat.zero_le _, Nat.zero_le _⟩ (by decide) f12 rfl rfl hl.1 rfl (Nat.le_of_ble_eq_true rfl) dX9_kindsOfJar_11 (fun r20 w21 H locs hp22 h => ?_)
  obtain ⟨rfl, hr23⟩ := hp22
  exact e_i X h hr hlk dX9_kindsOfJar_14 ⟨rfl, trivial⟩

set_option maxHeartbeats 4000000 in
set_option maxRecDepth 100000 in
theorem c_M_mostAlike (l : Launch) (G : va_G) (cI cB cZ cO : ClassId) (ad : Nat → Nat) (w : Nat → va_E)  (ok : OK cI cB cZ cO ad w) (x : Int32)   : NI l G (tyq cI cB cZ cO) yX9_mostAlike cX9_mostAlike 6 (some .int) 1 21 74 ad w [.ref (ad 64), .int x] (fun r w1 => w = w1 ∧ True) := by
  refine nk_i (own := "NoonShadeModel") rfl (by decide) (Nat.le_of_ble_eq_true rfl) ?_
  intro p e s m below meth c ls X hD hN hr hlk h hl
  have hx := X.1.1
  have hb := X.1.2.1
  have hown := X.1.2.2.2.1
  have hts := X.1.2.2.2.2
  have hl : lv_has ls 6 [(0, .ref (ad 64)), (1, .int x)] := hl
  refine lv_iconst (v := 0) hx hb dX9_mostAlike_0 (by decide) ?_
  refine lv_istore_n (lv' := [(2, .int 0), (0, .ref (ad 64)), (1, .int x)]) hx hb dX9_mostAlike_1 rfl hl (by decide) rfl (fun ls hl => ?_)
  refine lv_iconst (v := 0) hx hb dX9_mostAlike_2 (by decide) ?_
  refine lv_istore_n (lv' := [(3, .int 0), (2, .int 0), (0, .ref (ad 64)), (1, .int x)]) hx hb dX9_mostAlike_3 rfl hl (by decide) rfl (fun ls hl => ?_)
  have hloop3 : ∀ (d4 : Nat) (L1 : Int32) (L2 : Int32) (H : Heap) (locs : List Loc) (ls : Array Slot), 0 ≤ L1.toInt → L1.toInt ≤ 6 → 6 - L1.toInt < (d4 : Int) → St G 74 ad (wA 74 ad s.heap.size) s.heap w H locs → lv_has ls 6 [(3, .int L1), (2, .int L2), (0, .ref (ad 64)), (1, .int x)] → W p l e { frames := 1, cells := 0, slots := 0, locals := 21 } s m [.ref (ad 64), .int x].toArray below meth c H locs 0 0 (MQ below (va_Qi (fun r w1 => w = w1 ∧ True) (Aft G 74 ad) (wA 74 ad s.heap.size)) [.ref (ad 64), .int x].toArray s 0 0 (wA 74 ad s.heap.size)) (F0 m 4 ls []) := by
    intro d4
    induction d4 with
    | zero => intro L1 L2 H locs ls hi7 hi8 hm6 h hl; exfalso; omega
    | succ d4 ih5 =>
      intro L1 L2 H locs ls hi7 hi8 hm6 h hl
      refine lv_iload_n hx hb dX9_mostAlike_4 rfl (lv_at hl 0 rfl) ?_
      refine lv_bipush (v := 6) hx hb dX9_mostAlike_5 (by decide) ?_
      refine lv_icmp_ge (tgt := 91) hx hb dX9_mostAlike_7 (by decide) (fun hc12 => ?_) (fun hc12 => ?_)
      · have hc12 : 6 ≤ (L1).toInt := i_le hc12 rfl rfl
        refine lv_iload_n hx hb dX9_mostAlike_91 rfl (lv_at hl 1 rfl) ?_
        exact e_i X h hr hlk dX9_mostAlike_92 ⟨rfl, trivial⟩
      · have hc12 : ¬ 6 ≤ (L1).toInt := i_nle hc12 rfl rfl
        refine lv_iconst (v := 0) hx hb dX9_mostAlike_10 (by decide) ?_
        refine lv_istore (lv' := [(4, .int 0), (3, .int L1), (2, .int L2), (0, .ref (ad 64)), (1, .int x)]) hx hb dX9_mostAlike_11 hl (by decide) rfl (fun ls hl => ?_)
        refine lv_iconst (v := 0) hx hb dX9_mostAlike_13 (by decide) ?_
        refine lv_istore (lv' := [(5, .int 0), (4, .int 0), (3, .int L1), (2, .int L2), (0, .ref (ad 64)), (1, .int x)]) hx hb dX9_mostAlike_14 hl (by decide) rfl (fun ls hl => ?_)
        have hloop15 : ∀ (d16 : Nat) (L13 : Int32) (L14 : Int32) (H : Heap) (locs : List Loc) (ls : Array Slot), 0 ≤ L13.toInt → L13.toInt ≤ 6 → 6 - L13.toInt < (d16 : Int) → St G 74 ad (wA 74 ad s.heap.size) s.heap w H locs → lv_has ls 6 [(5, .int L13), (4, .int L14), (3, .int L1), (2, .int L2), (0, .ref (ad 64)), (1, .int x)] → W p l e { frames := 1, cells := 0, slots := 0, locals := 21 } s m [.ref (ad 64), .int x].toArray below meth c H locs 0 0 (MQ below (va_Qi (fun r w1 => w = w1 ∧ True) (Aft G 74 ad) (wA 74 ad s.heap.size)) [.ref (ad 64), .int x].toArray s 0 0 (wA 74 ad s.heap.size)) (F0 m 16 ls []) := by
          intro d16
          induction d16 with
          | zero => intro L13 L14 H locs ls hi19 hi20 hm18 h hl; exfalso; omega
          | succ d16 ih17 =>
            intro L13 L14 H locs ls hi19 hi20 hm18 h hl
            refine lv_iload hx hb dX9_mostAlike_16 (lv_at hl 0 rfl) ?_
            refine lv_bipush (v := 6) hx hb dX9_mostAlike_18 (by decide) ?_
            refine lv_icmp_ge (tgt := 72) hx hb dX9_mostAlike_20 (by decide) (fun hc24 => ?_) (fun hc24 => ?_)
            · have hc24 : 6 ≤ (L13).toInt := i_le hc24 rfl rfl
              refine lv_iload hx hb dX9_mostAlike_72 (lv_at hl 1 rfl) ?_
              refine lv_iload_n hx hb dX9_mostAlike_74 rfl (lv_at hl 3 rfl) ?_
              refine lv_icmp_le (tgt := 83) hx hb dX9_mostAlike_75 (by decide) (fun hc25 => ?_) (fun hc25 => ?_)
              · have hc25 : (L14).toInt ≤ (L2).toInt := i_le hc25 rfl rfl
                refine lv_iload_n hx hb dX9_mostAlike_83 rfl (lv_at hl 3 rfl) ?_
                refine lv_istore_n (lv' := [(2, .int L2), (5, .int L13), (4, .int L14), (3, .int L1), (0, .ref (ad 64)), (1, .int x)]) hx hb dX9_mostAlike_84 rfl hl (by decide) rfl (fun ls hl => ?_)
                obtain ⟨z26, e27, t28⟩ := x_add (x := L1) (y := 1) (a := L1.toInt) (b := 1) rfl rfl (by omega) (by omega)
                refine lv_iinc (v := z26) (lv' := [(3, .int z26), (2, .int L2), (5, .int L13), (4, .int L14), (0, .ref (ad 64)), (1, .int x)]) hx hb dX9_mostAlike_85 hl (k := 3) rfl e27 (by decide) rfl (fun ls hl => ?_)
                refine lv_goto (tgt := 4) hx hb dX9_mostAlike_88 (by decide) ?_
                exact ih5  z26 L2  _ _ _ (by omega) (by omega)  (by omega) h (lv_sub hl [0, 1, 4, 5] rfl)
              · have hc25 : ¬ (L14).toInt ≤ (L2).toInt := i_nle hc25 rfl rfl
                refine lv_iload hx hb dX9_mostAlike_78 (lv_at hl 1 rfl) ?_
                refine lv_goto (tgt := 84) hx hb dX9_mostAlike_80 (by decide) ?_
                refine lv_istore_n (lv' := [(2, .int L14), (5, .int L13), (4, .int L14), (3, .int L1), (0, .ref (ad 64)), (1, .int x)]) hx hb dX9_mostAlike_84 rfl hl (by decide) rfl (fun ls hl => ?_)
                obtain ⟨z29, e30, t31⟩ := x_add (x := L1) (y := 1) (a := L1.toInt) (b := 1) rfl rfl (by omega) (by omega)
                refine lv_iinc (v := z29) (lv' := [(3, .int z29), (2, .int L14), (5, .int L13), (4, .int L14), (0, .ref (ad 64)), (1, .int x)]) hx hb dX9_mostAlike_85 hl (k := 3) rfl e30 (by decide) rfl (fun ls hl => ?_)
                refine lv_goto (tgt := 4) hx hb dX9_mostAlike_88 (by decide) ?_
                exact ih5  z29 L14  _ _ _ (by omega) (by omega)  (by omega) h (lv_sub hl [0, 1, 4, 5] rfl)
            · have hc24 : ¬ 6 ≤ (L13).toInt := i_nle hc24 rfl rfl
              refine lv_iload_n hx hb dX9_mostAlike_23 rfl (lv_at hl 5 rfl) ?_
              refine lv_iload_n hx hb dX9_mostAlike_24 rfl (lv_at hl 2 rfl) ?_
              refine n_Si (na := 2) (As := [.int x, .int L1]) (rest := []) X hD hN h (c_M_has l G cI cB cZ cO ad w   x L1  ) ⟨kv_496, kv_497, kv_470, kv_498⟩ ⟨by decide, by decide, by decide⟩ ⟨Nat.le_of_ble_eq_true rfl, Nat.le_of_ble_eq_true rfl⟩ ⟨Nat.zero_le _, Nat.zero_le _⟩ rfl hl.1 rfl (Nat.le_of_ble_eq_true rfl) dX9_mostAlike_25 (fun r32 w33 H locs hp34 h => ?_)
              obtain ⟨rfl, hr35⟩ := hp34
              rcases hr35 with rfl | rfl
              · refine lv_if_eq (tgt := 72) hx hb dX9_mostAlike_28 (by decide) (fun hc => absurd hc (by decide)) (fun _ => ?_)
                refine lv_iload hx hb dX9_mostAlike_31 (lv_at hl 1 rfl) ?_
                refine lv_iload_n hx hb dX9_mostAlike_33 rfl (lv_at hl 5 rfl) ?_
                refine lv_iload hx hb dX9_mostAlike_34 (lv_at hl 0 rfl) ?_
                refine n_Si (na := 2) (As := [.int x, .int L13]) (rest := [.int L14]) X hD hN h (c_M_has l G cI cB cZ cO ad w   x L13  ) ⟨kv_496, kv_497, kv_470, kv_498⟩ ⟨by decide, by decide, by decide⟩ ⟨Nat.le_of_ble_eq_true rfl, Nat.le_of_ble_eq_true rfl⟩ ⟨Nat.zero_le _, Nat.zero_le _⟩ rfl hl.1 rfl (Nat.le_of_ble_eq_true rfl) dX9_mostAlike_36 (fun r36 w37 H locs hp38 h => ?_)
                obtain ⟨rfl, hr39⟩ := hp38
                rcases hr39 with rfl | rfl
                · refine lv_if_eq (tgt := 62) hx hb dX9_mostAlike_39 (by decide) (fun hc => absurd hc (by decide)) (fun _ => ?_)
                  refine lv_aload_n hx hb dX9_mostAlike_42 rfl (lv_at hl 4 rfl) ?_
                  obtain ⟨x41, x42, t43, t44, t45, t46, t47, t48, f40, h49, h50⟩ := (show sM ad (w 64) from ok 64 (by decide))
                  have f51 : w 64 = .inr (7, [.ref (ad 65), .ref (ad 66), .ref (ad 67), .ref (ad 68), .long x41, .long x42, .ref (ad 69), .int t43, .ref (ad 70), .ref (ad 71), .int t44, .int t45, .int t46, .int t47, .int t48, .ref (ad 72), .ref (ad 73)]) := f40
                  refine r_get kc9 X h 64 8 (by decide) rfl f51 (by decide) kv_518 rfl dX9_mostAlike_43 ?_
                  refine lv_iload_n hx hb dX9_mostAlike_46 rfl (lv_at hl 2 rfl) ?_
                  obtain ⟨g53, f52, p54⟩ := (show sA cI 6 (anyA) (w 70) from ok 70 (by decide))
                  have f55 : w 70 = .inl (cI, 6, .inl g53) := f52
                  obtain ⟨v56, e57⟩ : ∃ z : Int32, g53 (L1).toNatClampNeg = z := ⟨_, rfl⟩
                  refine o_iald (v := v56) X h 70 0 (by decide) rfl f55 rfl (in_of (by omega) (by omega)) e57 dX9_mostAlike_47 ?_
                  refine lv_aload_n hx hb dX9_mostAlike_48 rfl (lv_at hl 4 rfl) ?_
                  refine r_get kc9 X h 64 8 (by decide) rfl f51 (by decide) kv_518 rfl dX9_mostAlike_49 ?_
                  refine lv_iload hx hb dX9_mostAlike_52 (lv_at hl 0 rfl) ?_
                  obtain ⟨v59, e60⟩ : ∃ z : Int32, g53 (L13).toNatClampNeg = z := ⟨_, rfl⟩
                  refine o_iald (v := v59) X h 70 0 (by decide) rfl f55 rfl (in_of (by omega) (by omega)) e60 dX9_mostAlike_54 ?_
                  refine lv_icmp_ne (tgt := 62) hx hb dX9_mostAlike_55 (by decide) (fun hc62 => ?_) (fun hc62 => ?_)
                  · have hc62 : ¬ (v56).toInt = (v59).toInt := i_ne hc62 rfl rfl
                    refine lv_iconst (v := 0) hx hb dX9_mostAlike_62 (by decide) ?_
                    obtain ⟨z65, e63⟩ : ∃ z : Int32, L14 + (0 : Int32) = z := ⟨_, rfl⟩
                    refine o_iadd (z := z65) hx hb dX9_mostAlike_63 e63 ?_
                    refine lv_istore (lv' := [(4, .int z65), (5, .int L13), (3, .int L1), (2, .int L2), (0, .ref (ad 64)), (1, .int x)]) hx hb dX9_mostAlike_64 hl (by decide) rfl (fun ls hl => ?_)
                    obtain ⟨z66, e67, t68⟩ := x_add (x := L13) (y := 1) (a := L13.toInt) (b := 1) rfl rfl (by omega) (by omega)
                    refine lv_iinc (v := z66) (lv' := [(5, .int z66), (4, .int z65), (3, .int L1), (2, .int L2), (0, .ref (ad 64)), (1, .int x)]) hx hb dX9_mostAlike_66 hl (k := 1) rfl e67 (by decide) rfl (fun ls hl => ?_)
                    refine lv_goto (tgt := 16) hx hb dX9_mostAlike_69 (by decide) ?_
                    exact ih17  z66 z65  _ _ _ (by omega) (by omega)  (by omega) h (lv_sub hl [0, 1, 2, 3, 4, 5] rfl)
                  · have hc62 : (v56).toInt = (v59).toInt := i_eq hc62 rfl rfl
                    refine lv_iconst (v := 1) hx hb dX9_mostAlike_58 (by decide) ?_
                    refine lv_goto (tgt := 63) hx hb dX9_mostAlike_59 (by decide) ?_
                    obtain ⟨z71, e69⟩ : ∃ z : Int32, L14 + (1 : Int32) = z := ⟨_, rfl⟩
                    refine o_iadd (z := z71) hx hb dX9_mostAlike_63 e69 ?_
                    refine lv_istore (lv' := [(4, .int z71), (5, .int L13), (3, .int L1), (2, .int L2), (0, .ref (ad 64)), (1, .int x)]) hx hb dX9_mostAlike_64 hl (by decide) rfl (fun ls hl => ?_)
                    obtain ⟨z72, e73, t74⟩ := x_add (x := L13) (y := 1) (a := L13.toInt) (b := 1) rfl rfl (by omega) (by omega)
                    refine lv_iinc (v := z72) (lv' := [(5, .int z72), (4, .int z71), (3, .int L1), (2, .int L2), (0, .ref (ad 64)), (1, .int x)]) hx hb dX9_mostAlike_66 hl (k := 1) rfl e73 (by decide) rfl (fun ls hl => ?_)
                    refine lv_goto (tgt := 16) hx hb dX9_mostAlike_69 (by decide) ?_
                    exact ih17  z72 z71  _ _ _ (by omega) (by omega)  (by omega) h (lv_sub hl [0, 1, 2, 3, 4, 5] rfl)
                · refine lv_if_eq (tgt := 62) hx hb dX9_mostAlike_39 (by decide) (fun _ => ?_) (fun hc => absurd (by decide) hc)
                  refine lv_iconst (v := 0) hx hb dX9_mostAlike_62 (by decide) ?_
                  obtain ⟨z77, e75⟩ : ∃ z : Int32, L14 + (0 : Int32) = z := ⟨_, rfl⟩
                  refine o_iadd (z := z77) hx hb dX9_mostAlike_63 e75 ?_
                  refine lv_istore (lv' := [(4, .int z77), (5, .int L13), (3, .int L1), (2, .int L2), (0, .ref (ad 64)), (1, .int x)]) hx hb dX9_mostAlike_64 hl (by decide) rfl (fun ls hl => ?_)
                  obtain ⟨z78, e79, t80⟩ := x_add (x := L13) (y := 1) (a := L13.toInt) (b := 1) rfl rfl (by omega) (by omega)
                  refine lv_iinc (v := z78) (lv' := [(5, .int z78), (4, .int z77), (3, .int L1), (2, .int L2), (0, .ref (ad 64)), (1, .int x)]) hx hb dX9_mostAlike_66 hl (k := 1) rfl e79 (by decide) rfl (fun ls hl => ?_)
                  refine lv_goto (tgt := 16) hx hb dX9_mostAlike_69 (by decide) ?_
                  exact ih17  z78 z77  _ _ _ (by omega) (by omega)  (by omega) h (lv_sub hl [0, 1, 2, 3, 4, 5] rfl)
              · refine lv_if_eq (tgt := 72) hx hb dX9_mostAlike_28 (by decide) (fun _ => ?_) (fun hc => absurd (by decide) hc)
                refine lv_iload hx hb dX9_mostAlike_72 (lv_at hl 1 rfl) ?_
                refine lv_iload_n hx hb dX9_mostAlike_74 rfl (lv_at hl 3 rfl) ?_
                refine lv_icmp_le (tgt := 83) hx hb dX9_mostAlike_75 (by decide) (fun hc81 => ?_) (fun hc81 => ?_)
                · have hc81 : (L14).toInt ≤ (L2).toInt := i_le hc81 rfl rfl
                  refine lv_iload_n hx hb dX9_mostAlike_83 rfl (lv_at hl 3 rfl) ?_
                  refine lv_istore_n (lv' := [(2, .int L2), (5, .int L13), (4, .int L14), (3, .int L1), (0, .ref (ad 64)), (1, .int x)]) hx hb dX9_mostAlike_84 rfl hl (by decide) rfl (fun ls hl => ?_)
                  obtain ⟨z82, e83, t84⟩ := x_add (x := L1) (y := 1) (a := L1.toInt) (b := 1) rfl rfl (by omega) (by omega)
                  refine lv_iinc (v := z82) (lv' := [(3, .int z82), (2, .int L2), (5, .int L13), (4, .int L14), (0, .ref (ad 64)), (1, .int x)]) hx hb dX9_mostAlike_85 hl (k := 3) rfl e83 (by decide) rfl (fun ls hl => ?_)
                  refine lv_goto (tgt := 4) hx hb dX9_mostAlike_88 (by decide) ?_
                  exact ih5  z82 L2  _ _ _ (by omega) (by omega)  (by omega) h (lv_sub hl [0, 1, 4, 5] rfl)
                · have hc81 : ¬ (L14).toInt ≤ (L2).toInt := i_nle hc81 rfl rfl
                  refine lv_iload hx hb dX9_mostAlike_78 (lv_at hl 1 rfl) ?_
                  refine lv_goto (tgt := 84) hx hb dX9_mostAlike_80 (by decide) ?_
                  refine lv_istore_n (lv' := [(2, .int L14), (5, .int L13), (4, .int L14), (3, .int L1), (0, .ref (ad 64)), (1, .int x)]) hx hb dX9_mostAlike_84 rfl hl (by decide) rfl (fun ls hl => ?_)
                  obtain ⟨z85, e86, t87⟩ := x_add (x := L1) (y := 1) (a := L1.toInt) (b := 1) rfl rfl (by omega) (by omega)
                  refine lv_iinc (v := z85) (lv' := [(3, .int z85), (2, .int L14), (5, .int L13), (4, .int L14), (0, .ref (ad 64)), (1, .int x)]) hx hb dX9_mostAlike_85 hl (k := 3) rfl e86 (by decide) rfl (fun ls hl => ?_)
                  refine lv_goto (tgt := 4) hx hb dX9_mostAlike_88 (by decide) ?_
                  exact ih5  z85 L14  _ _ _ (by omega) (by omega)  (by omega) h (lv_sub hl [0, 1, 4, 5] rfl)
        exact hloop15 7 (0 : Int32) (0 : Int32)  _ _ _ (by have q0 : (0 : Int32).toInt = 0 := rfl; omega) (by have q0 : (0 : Int32).toInt = 0 := rfl; omega)  (by have q0 : (0 : Int32).toInt = 0 := rfl; omega) h (lv_sub hl [0, 1, 2, 3, 4, 5] rfl)
  exact hloop3 7 (0 : Int32) (0 : Int32)  _ _ _ (by have q0 : (0 : Int32).toInt = 0 := rfl; omega) (by have q0 : (0 : Int32).toInt = 0 := rfl; omega)  (by have q0 : (0 : Int32).toInt = 0 := rfl; omega) h (lv_sub hl [0, 1, 2, 3] rfl)

set_option maxHeartbeats 4000000 in
set_option maxRecDepth 100000 in
theorem c_M_gets (l : Launch) (G : va_G) (cI cB cZ cO : ClassId) (ad : Nat → Nat) (w : Nat → va_E)  (ok : OK cI cB cZ cO ad w) (i : Int32) (j : Int32) (hl_i : 0 ≤ i.toInt) (hh_i : i.toInt ≤ 6) (hl_j : 0 ≤ j.toInt) (hh_j : j.toInt ≤ 6)  : NI l G (tyq cI cB cZ cO) yX9_gets cX9_gets 4 (some .int) 2 47 74 ad w [.ref (ad 64), .int i, .int j] (fun r w1 => w = w1 ∧ True) := by
  refine nk_i (own := "NoonShadeModel") rfl (by decide) (Nat.le_of_ble_eq_true rfl) ?_
  intro p e s m below meth c ls X hD hN hr hlk h hl
  have hx := X.1.1
  have hb := X.1.2.1
  have hown := X.1.2.2.2.1
  have hts := X.1.2.2.2.2
  have hl : lv_has ls 4 [(0, .ref (ad 64)), (1, .int i), (2, .int j)] := hl
  refine lv_aload_n hx hb dX9_gets_0 rfl (lv_at hl 0 rfl) ?_
  obtain ⟨x2, x3, t4, t5, t6, t7, t8, t9, f1, h10, h11⟩ := (show sM ad (w 64) from ok 64 (by decide))
  have f12 : w 64 = .inr (7, [.ref (ad 65), .ref (ad 66), .ref (ad 67), .ref (ad 68), .long x2, .long x3, .ref (ad 69), .int t4, .ref (ad 70), .ref (ad 71), .int t5, .int t6, .int t7, .int t8, .int t9, .ref (ad 72), .ref (ad 73)]) := f1
  refine r_get kc9 X h 64 0 (by decide) rfl f12 (by decide) kv_467 rfl dX9_gets_1 ?_
  refine lv_iload_n hx hb dX9_gets_4 rfl (lv_at hl 1 rfl) ?_
  refine lv_iconst (v := 0) hx hb dX9_gets_5 (by decide) ?_
  refine n_Si (na := 3) (As := [.ref (ad 65), .int i, .int 0]) (rest := []) X hD hN h (c_M_givesOf l G cI cB cZ cO ad w 65 (Or.inl rfl) ok i (0 : Int32) (by omega) (by omega) ) ⟨kv_483, kv_484, kv_470, kv_485⟩ ⟨by decide, by decide, by decide⟩ ⟨Nat.le_of_ble_eq_true rfl, Nat.le_of_ble_eq_true rfl⟩ ⟨Nat.zero_le _, Nat.zero_le _⟩ rfl hl.1 rfl (Nat.le_of_ble_eq_true rfl) dX9_gets_6 (fun r13 w14 H locs hp15 h => ?_)
  obtain ⟨rfl, hr16⟩ := hp15
  refine lv_istore_n (lv' := [(3, .int r13), (0, .ref (ad 64)), (1, .int i), (2, .int j)]) hx hb dX9_gets_9 rfl hl (by decide) rfl (fun ls hl => ?_)
  refine lv_iload_n hx hb dX9_gets_10 rfl (lv_at hl 2 rfl) ?_
  refine lv_iload_n hx hb dX9_gets_11 rfl (lv_at hl 3 rfl) ?_
  refine lv_icmp_ne (tgt := 23) hx hb dX9_gets_12 (by decide) (fun hc17 => ?_) (fun hc17 => ?_)
  · have hc17 : ¬ (i).toInt = (j).toInt := i_ne hc17 rfl rfl
    refine lv_aload_n hx hb dX9_gets_23 rfl (lv_at hl 1 rfl) ?_
    refine r_get kc9 X h 64 0 (by decide) rfl f12 (by decide) kv_467 rfl dX9_gets_24 ?_
    refine lv_bipush (v := 30) hx hb dX9_gets_27 (by decide) ?_
    refine lv_iload_n hx hb dX9_gets_29 rfl (lv_at hl 2 rfl) ?_
    obtain ⟨z20, e18, t19⟩ := x_add (x := (30 : Int32)) (y := i) (a := 30) (b := (i).toInt) rfl rfl (by omega) (by omega)
    refine o_iadd (z := z20) hx hb dX9_gets_30 e18 ?_
    obtain ⟨g22, f21, p23⟩ := (show sA cI 177 (alA) (w 65) from ok 65 (by decide))
    have f24 : w 65 = .inl (cI, 177, .inl g22) := f21
    obtain ⟨v25, e26⟩ : ∃ z : Int32, g22 (z20).toNatClampNeg = z := ⟨_, rfl⟩
    refine o_iald (v := v25) X h 65 0 (by decide) rfl f24 rfl (in_of (by omega) (by omega)) e26 dX9_gets_31 ?_
    refine lv_aload_n hx hb dX9_gets_32 rfl (lv_at hl 1 rfl) ?_
    refine r_get kc9 X h 64 0 (by decide) rfl f12 (by decide) kv_467 rfl dX9_gets_33 ?_
    refine lv_bipush (v := 30) hx hb dX9_gets_36 (by decide) ?_
    refine lv_iload_n hx hb dX9_gets_38 rfl (lv_at hl 3 rfl) ?_
    obtain ⟨z30, e28, t29⟩ := x_add (x := (30 : Int32)) (y := j) (a := 30) (b := (j).toInt) rfl rfl (by omega) (by omega)
    refine o_iadd (z := z30) hx hb dX9_gets_39 e28 ?_
    obtain ⟨v31, e32⟩ : ∃ z : Int32, g22 (z30).toNatClampNeg = z := ⟨_, rfl⟩
    refine o_iald (v := v31) X h 65 0 (by decide) rfl f24 rfl (in_of (by omega) (by omega)) e32 dX9_gets_40 ?_
    refine lv_icmp_ne (tgt := 48) hx hb dX9_gets_41 (by decide) (fun hc34 => ?_) (fun hc34 => ?_)
    · have hc34 : ¬ (v25).toInt = (v31).toInt := i_ne hc34 rfl rfl
      refine lv_iload_n hx hb dX9_gets_48 rfl (lv_at hl 0 rfl) ?_
      refine lv_iconst (v := 2) hx hb dX9_gets_49 (by decide) ?_
      obtain ⟨z37, e35⟩ : ∃ z : Int32, r13 + (2 : Int32) = z := ⟨_, rfl⟩
      refine o_iadd (z := z37) hx hb dX9_gets_50 e35 ?_
      exact e_i X h hr hlk dX9_gets_51 ⟨rfl, trivial⟩
    · have hc34 : (v25).toInt = (v31).toInt := i_eq hc34 rfl rfl
      refine lv_iload_n hx hb dX9_gets_44 rfl (lv_at hl 0 rfl) ?_
      refine lv_goto (tgt := 51) hx hb dX9_gets_45 (by decide) ?_
      exact e_i X h hr hlk dX9_gets_51 ⟨rfl, trivial⟩
  · have hc17 : (i).toInt = (j).toInt := i_eq hc17 rfl rfl
    refine lv_iload_n hx hb dX9_gets_15 rfl (lv_at hl 0 rfl) ?_
    refine lv_iconst (v := 2) hx hb dX9_gets_16 (by decide) ?_
    obtain ⟨z40, e38⟩ : ∃ z : Int32, r13 / (2 : Int32) = z := ⟨_, rfl⟩
    refine o_idiv (z := z40) hx hb dX9_gets_17 (by decide) e38 ?_
    refine lv_iconst (v := 1) hx hb dX9_gets_18 (by decide) ?_
    obtain ⟨z43, e41⟩ : ∃ z : Int32, z40 - (1 : Int32) = z := ⟨_, rfl⟩
    refine o_isub (z := z43) hx hb dX9_gets_19 e41 ?_
    refine lv_goto (tgt := 51) hx hb dX9_gets_20 (by decide) ?_
    exact e_i X h hr hlk dX9_gets_51 ⟨rfl, trivial⟩

set_option maxHeartbeats 4000000 in
set_option maxRecDepth 100000 in
theorem c_M_mayName (l : Launch) (G : va_G) (cI cB cZ cO : ClassId) (ad : Nat → Nat) (w : Nat → va_E)  (ok : OK cI cB cZ cO ad w) (i : Int32)   : NI l G (tyq cI cB cZ cO) yX9_mayName cX9_mayName 2 (some .boolean) 2 46 74 ad w [.ref (ad 64), .int i] (fun r w1 => w = w1 ∧ ((0 ≤ i.toInt ∧ i.toInt ≤ 6 ∧ r = 1) ∨ r = 0)) := by
  refine nk_i (own := "NoonShadeModel") rfl (by decide) (Nat.le_of_ble_eq_true rfl) ?_
  intro p e s m below meth c ls X hD hN hr hlk h hl
  have hx := X.1.1
  have hb := X.1.2.1
  have hown := X.1.2.2.2.1
  have hts := X.1.2.2.2.2
  have hl : lv_has ls 2 [(0, .ref (ad 64)), (1, .int i)] := hl
  refine lv_aload_n hx hb dX9_mayName_0 rfl (lv_at hl 0 rfl) ?_
  refine lv_iload_n hx hb dX9_mayName_1 rfl (lv_at hl 1 rfl) ?_
  obtain ⟨x5, x6, t7, t8, t9, t10, t11, t12, f4, h13, h14⟩ := (show sM ad (w 64) from ok 64 (by decide))
  have f15 : w 64 = .inr (7, [.ref (ad 65), .ref (ad 66), .ref (ad 67), .ref (ad 68), .long x5, .long x6, .ref (ad 69), .int t7, .ref (ad 70), .ref (ad 71), .int t8, .int t9, .int t10, .int t11, .int t12, .ref (ad 72), .ref (ad 73)]) := f4
  refine n_Vi (na := 1) (As := [.int i]) (rest := []) X hD hN h rfl (c_M_isCaster l G cI cB cZ cO ad w  ok i  ) ⟨kv_519, kv_520, kv_521, kv_470, kv_522⟩ rfl ⟨by decide, by decide, by decide⟩ ⟨Nat.le_of_ble_eq_true rfl, Nat.le_of_ble_eq_true rfl⟩ ⟨Nat.zero_le _, Nat.zero_le _⟩ (by decide) f15 rfl rfl hl.1 rfl (Nat.le_of_ble_eq_true rfl) dX9_mayName_2 (fun r1 w2 H locs hp3 h => ?_)
  obtain ⟨rfl, hr16⟩ := hp3
  rcases hr16 with ⟨hq17, hq18, rfl⟩ | rfl
  · refine lv_if_eq (tgt := 26) hx hb dX9_mayName_5 (by decide) (fun hc => absurd hc (by decide)) (fun _ => ?_)
    refine lv_aload_n hx hb dX9_mayName_8 rfl (lv_at hl 0 rfl) ?_
    refine r_get kc9 X h 64 0 (by decide) rfl f15 (by decide) kv_467 rfl dX9_mayName_9 ?_
    refine lv_bipush (v := 7) hx hb dX9_mayName_12 (by decide) ?_
    obtain ⟨g20, f19, p21⟩ := (show sA cI 177 (alA) (w 65) from ok 65 (by decide))
    have f22 : w 65 = .inl (cI, 177, .inl g20) := f19
    obtain ⟨v23, e24⟩ : ∃ z : Int32, g20 7 = z := ⟨_, rfl⟩
    refine o_iald (v := v23) X h 65 0 (by decide) rfl f22 rfl (by unfold vp_in; decide) e24 dX9_mayName_14 ?_
    refine lv_iload_n hx hb dX9_mayName_15 rfl (lv_at hl 1 rfl) ?_
    refine n_Si (na := 2) (As := [.int v23, .int i]) (rest := []) X hD hN h (c_M_has l G cI cB cZ cO ad w   v23 i  ) ⟨kv_496, kv_497, kv_470, kv_498⟩ ⟨by decide, by decide, by decide⟩ ⟨Nat.le_of_ble_eq_true rfl, Nat.le_of_ble_eq_true rfl⟩ ⟨Nat.zero_le _, Nat.zero_le _⟩ rfl hl.1 rfl (Nat.le_of_ble_eq_true rfl) dX9_mayName_16 (fun r26 w27 H locs hp28 h => ?_)
    obtain ⟨rfl, hr29⟩ := hp28
    rcases hr29 with rfl | rfl
    · refine lv_if_ne (tgt := 26) hx hb dX9_mayName_19 (by decide) (fun _ => ?_) (fun hc => absurd hc (by decide))
      refine lv_iconst (v := 0) hx hb dX9_mayName_26 (by decide) ?_
      exact e_n X h hr hlk rfl dX9_mayName_27 ⟨rfl, Or.inr rfl⟩
    · refine lv_if_ne (tgt := 26) hx hb dX9_mayName_19 (by decide) (fun hc => absurd (by decide) hc) (fun _ => ?_)
      refine lv_iconst (v := 1) hx hb dX9_mayName_22 (by decide) ?_
      refine lv_goto (tgt := 27) hx hb dX9_mayName_23 (by decide) ?_
      exact e_n X h hr hlk rfl dX9_mayName_27 ⟨rfl, Or.inl ⟨by omega, by omega, rfl⟩⟩
  · refine lv_if_eq (tgt := 26) hx hb dX9_mayName_5 (by decide) (fun _ => ?_) (fun hc => absurd (by decide) hc)
    refine lv_iconst (v := 0) hx hb dX9_mayName_26 (by decide) ?_
    exact e_n X h hr hlk rfl dX9_mayName_27 ⟨rfl, Or.inr rfl⟩

set_option maxHeartbeats 4000000 in
set_option maxRecDepth 100000 in
theorem c_M_rests (l : Launch) (G : va_G) (cI cB cZ cO : ClassId) (ad : Nat → Nat) (w : Nat → va_E)  (ok : OK cI cB cZ cO ad w) (i : Int32) (j : Int32) (hl_i : 0 ≤ i.toInt) (hh_i : i.toInt ≤ 6) (hl_j : 0 ≤ j.toInt) (hh_j : j.toInt ≤ 6)  : NI l G (tyq cI cB cZ cO) yX9_rests cX9_rests 5 (some .boolean) 3 70 74 ad w [.ref (ad 64), .int i, .int j] (fun r w1 => w = w1 ∧ (r = 1 ∨ r = 0)) := by
  refine nk_i (own := "NoonShadeModel") rfl (by decide) (Nat.le_of_ble_eq_true rfl) ?_
  intro p e s m below meth c ls X hD hN hr hlk h hl
  have hx := X.1.1
  have hb := X.1.2.1
  have hown := X.1.2.2.2.1
  have hts := X.1.2.2.2.2
  have hl : lv_has ls 5 [(0, .ref (ad 64)), (1, .int i), (2, .int j)] := hl
  refine lv_iconst (v := 1) hx hb dX9_rests_0 (by decide) ?_
  refine lv_istore_n (lv' := [(3, .int 1), (0, .ref (ad 64)), (1, .int i), (2, .int j)]) hx hb dX9_rests_1 rfl hl (by decide) rfl (fun ls hl => ?_)
  refine lv_iconst (v := 0) hx hb dX9_rests_2 (by decide) ?_
  refine lv_istore (lv' := [(4, .int 0), (3, .int 1), (0, .ref (ad 64)), (1, .int i), (2, .int j)]) hx hb dX9_rests_3 hl (by decide) rfl (fun ls hl => ?_)
  have hloop3 : ∀ (d4 : Nat) (L1 : Int32) (L2 : Int32) (H : Heap) (locs : List Loc) (ls : Array Slot), 0 ≤ L2.toInt → L2.toInt ≤ 1 → 0 ≤ L1.toInt → L1.toInt ≤ 7 → 7 - L1.toInt < (d4 : Int) → St G 74 ad (wA 74 ad s.heap.size) s.heap w H locs → lv_has ls 5 [(4, .int L1), (3, .int L2), (0, .ref (ad 64)), (1, .int i), (2, .int j)] → W p l e { frames := 3, cells := 0, slots := 0, locals := 70 } s m [.ref (ad 64), .int i, .int j].toArray below meth c H locs 0 0 (MQ below (va_Qi (fun r w1 => w = w1 ∧ (r = 1 ∨ r = 0)) (Aft G 74 ad) (wA 74 ad s.heap.size)) [.ref (ad 64), .int i, .int j].toArray s 0 0 (wA 74 ad s.heap.size)) (F0 m 5 ls []) := by
    intro d4
    induction d4 with
    | zero => intro L1 L2 H locs ls hi7 hi8 hi9 hi10 hm6 h hl; exfalso; omega
    | succ d4 ih5 =>
      intro L1 L2 H locs ls hi7 hi8 hi9 hi10 hm6 h hl
      refine lv_iload hx hb dX9_rests_5 (lv_at hl 0 rfl) ?_
      refine lv_bipush (v := 7) hx hb dX9_rests_7 (by decide) ?_
      refine lv_icmp_ge (tgt := 69) hx hb dX9_rests_9 (by decide) (fun hc14 => ?_) (fun hc14 => ?_)
      · have hc14 : 7 ≤ (L1).toInt := i_le hc14 rfl rfl
        refine lv_iload_n hx hb dX9_rests_69 rfl (lv_at hl 1 rfl) ?_
        exact e_n X h hr hlk (nbool (by omega) (by omega)) dX9_rests_70 ⟨rfl, (b01 (by omega) (by omega))⟩
      · have hc14 : ¬ 7 ≤ (L1).toInt := i_nle hc14 rfl rfl
        refine lv_iload_n hx hb dX9_rests_12 rfl (lv_at hl 1 rfl) ?_
        refine lv_if_eq (tgt := 61) hx hb dX9_rests_13 (by decide) (fun hc15 => ?_) (fun hc15 => ?_)
        · have hc15 : (L2).toInt = 0 := i_eq hc15 rfl rfl
          refine lv_iconst (v := 0) hx hb dX9_rests_61 (by decide) ?_
          refine lv_istore_n (lv' := [(3, .int 0), (4, .int L1), (0, .ref (ad 64)), (1, .int i), (2, .int j)]) hx hb dX9_rests_62 rfl hl (by decide) rfl (fun ls hl => ?_)
          obtain ⟨z16, e17, t18⟩ := x_add (x := L1) (y := 1) (a := L1.toInt) (b := 1) rfl rfl (by omega) (by omega)
          refine lv_iinc (v := z16) (lv' := [(4, .int z16), (3, .int 0), (0, .ref (ad 64)), (1, .int i), (2, .int j)]) hx hb dX9_rests_63 hl (k := 1) rfl e17 (by decide) rfl (fun ls hl => ?_)
          refine lv_goto (tgt := 5) hx hb dX9_rests_66 (by decide) ?_
          exact ih5  z16 (0 : Int32)  _ _ _ (by have q0 : (0 : Int32).toInt = 0 := rfl; omega) (by have q0 : (0 : Int32).toInt = 0 := rfl; omega) (by have q0 : (0 : Int32).toInt = 0 := rfl; omega) (by have q0 : (0 : Int32).toInt = 0 := rfl; omega)  (by have q0 : (0 : Int32).toInt = 0 := rfl; omega) h (lv_sub hl [0, 1, 2, 3, 4] rfl)
        · have hc15 : ¬ (L2).toInt = 0 := i_ne hc15 rfl rfl
          refine lv_aload_n hx hb dX9_rests_16 rfl (lv_at hl 2 rfl) ?_
          refine lv_iload hx hb dX9_rests_17 (lv_at hl 0 rfl) ?_
          obtain ⟨x23, x24, t25, t26, t27, t28, t29, t30, f22, h31, h32⟩ := (show sM ad (w 64) from ok 64 (by decide))
          have f33 : w 64 = .inr (7, [.ref (ad 65), .ref (ad 66), .ref (ad 67), .ref (ad 68), .long x23, .long x24, .ref (ad 69), .int t25, .ref (ad 70), .ref (ad 71), .int t26, .int t27, .int t28, .int t29, .int t30, .ref (ad 72), .ref (ad 73)]) := f22
          refine n_Vi (na := 1) (As := [.int L1]) (rest := []) X hD hN h rfl (c_M_mayName l G cI cB cZ cO ad w  ok L1  ) ⟨kv_523, kv_524, kv_525, kv_470, kv_526⟩ rfl ⟨by decide, by decide, by decide⟩ ⟨Nat.le_of_ble_eq_true rfl, Nat.le_of_ble_eq_true rfl⟩ ⟨Nat.zero_le _, Nat.zero_le _⟩ (by decide) f33 rfl rfl hl.1 rfl (Nat.le_of_ble_eq_true rfl) dX9_rests_19 (fun r19 w20 H locs hp21 h => ?_)
          obtain ⟨rfl, hr34⟩ := hp21
          rcases hr34 with ⟨hq35, hq36, rfl⟩ | rfl
          · refine lv_if_eq (tgt := 57) hx hb dX9_rests_22 (by decide) (fun hc => absurd hc (by decide)) (fun _ => ?_)
            refine lv_aload_n hx hb dX9_rests_25 rfl (lv_at hl 2 rfl) ?_
            refine lv_iload hx hb dX9_rests_26 (lv_at hl 0 rfl) ?_
            refine lv_iload_n hx hb dX9_rests_28 rfl (lv_at hl 4 rfl) ?_
            refine n_Vi (na := 2) (As := [.int L1, .int j]) (rest := []) X hD hN h rfl (c_M_gets l G cI cB cZ cO ad w  ok L1 j (by omega) (by omega) (by omega) (by omega) ) ⟨kv_527, kv_528, kv_529, kv_470, kv_530⟩ rfl ⟨by decide, by decide, by decide⟩ ⟨Nat.le_of_ble_eq_true rfl, Nat.le_of_ble_eq_true rfl⟩ ⟨Nat.zero_le _, Nat.zero_le _⟩ (by decide) f33 rfl rfl hl.1 rfl (Nat.le_of_ble_eq_true rfl) dX9_rests_29 (fun r37 w38 H locs hp39 h => ?_)
            obtain ⟨rfl, hr40⟩ := hp39
            refine lv_aload_n hx hb dX9_rests_32 rfl (lv_at hl 2 rfl) ?_
            refine lv_iload_n hx hb dX9_rests_33 rfl (lv_at hl 3 rfl) ?_
            refine lv_iload_n hx hb dX9_rests_34 rfl (lv_at hl 4 rfl) ?_
            refine n_Vi (na := 2) (As := [.int i, .int j]) (rest := [.int r37]) X hD hN h rfl (c_M_gets l G cI cB cZ cO ad w  ok i j (by omega) (by omega) (by omega) (by omega) ) ⟨kv_527, kv_528, kv_529, kv_470, kv_530⟩ rfl ⟨by decide, by decide, by decide⟩ ⟨Nat.le_of_ble_eq_true rfl, Nat.le_of_ble_eq_true rfl⟩ ⟨Nat.zero_le _, Nat.zero_le _⟩ (by decide) f33 rfl rfl hl.1 rfl (Nat.le_of_ble_eq_true rfl) dX9_rests_35 (fun r41 w42 H locs hp43 h => ?_)
            obtain ⟨rfl, hr44⟩ := hp43
            refine lv_icmp_gt (tgt := 61) hx hb dX9_rests_38 (by decide) (fun hc45 => ?_) (fun hc45 => ?_)
            · have hc45 : (r41).toInt < (r37).toInt := i_lt hc45 rfl rfl
              refine lv_iconst (v := 0) hx hb dX9_rests_61 (by decide) ?_
              refine lv_istore_n (lv' := [(3, .int 0), (4, .int L1), (0, .ref (ad 64)), (1, .int i), (2, .int j)]) hx hb dX9_rests_62 rfl hl (by decide) rfl (fun ls hl => ?_)
              obtain ⟨z46, e47, t48⟩ := x_add (x := L1) (y := 1) (a := L1.toInt) (b := 1) rfl rfl (by omega) (by omega)
              refine lv_iinc (v := z46) (lv' := [(4, .int z46), (3, .int 0), (0, .ref (ad 64)), (1, .int i), (2, .int j)]) hx hb dX9_rests_63 hl (k := 1) rfl e47 (by decide) rfl (fun ls hl => ?_)
              refine lv_goto (tgt := 5) hx hb dX9_rests_66 (by decide) ?_
              exact ih5  z46 (0 : Int32)  _ _ _ (by have q0 : (0 : Int32).toInt = 0 := rfl; omega) (by have q0 : (0 : Int32).toInt = 0 := rfl; omega) (by have q0 : (0 : Int32).toInt = 0 := rfl; omega) (by have q0 : (0 : Int32).toInt = 0 := rfl; omega)  (by have q0 : (0 : Int32).toInt = 0 := rfl; omega) h (lv_sub hl [0, 1, 2, 3, 4] rfl)
            · have hc45 : ¬ (r41).toInt < (r37).toInt := i_nlt hc45 rfl rfl
              refine lv_aload_n hx hb dX9_rests_41 rfl (lv_at hl 2 rfl) ?_
              refine lv_iload hx hb dX9_rests_42 (lv_at hl 0 rfl) ?_
              refine lv_iload_n hx hb dX9_rests_44 rfl (lv_at hl 3 rfl) ?_
              refine n_Vi (na := 2) (As := [.int L1, .int i]) (rest := []) X hD hN h rfl (c_M_gets l G cI cB cZ cO ad w  ok L1 i (by omega) (by omega) (by omega) (by omega) ) ⟨kv_527, kv_528, kv_529, kv_470, kv_530⟩ rfl ⟨by decide, by decide, by decide⟩ ⟨Nat.le_of_ble_eq_true rfl, Nat.le_of_ble_eq_true rfl⟩ ⟨Nat.zero_le _, Nat.zero_le _⟩ (by decide) f33 rfl rfl hl.1 rfl (Nat.le_of_ble_eq_true rfl) dX9_rests_45 (fun r49 w50 H locs hp51 h => ?_)
              obtain ⟨rfl, hr52⟩ := hp51
              refine lv_aload_n hx hb dX9_rests_48 rfl (lv_at hl 2 rfl) ?_
              refine lv_iload_n hx hb dX9_rests_49 rfl (lv_at hl 4 rfl) ?_
              refine lv_iload_n hx hb dX9_rests_50 rfl (lv_at hl 3 rfl) ?_
              refine n_Vi (na := 2) (As := [.int j, .int i]) (rest := [.int r49]) X hD hN h rfl (c_M_gets l G cI cB cZ cO ad w  ok j i (by omega) (by omega) (by omega) (by omega) ) ⟨kv_527, kv_528, kv_529, kv_470, kv_530⟩ rfl ⟨by decide, by decide, by decide⟩ ⟨Nat.le_of_ble_eq_true rfl, Nat.le_of_ble_eq_true rfl⟩ ⟨Nat.zero_le _, Nat.zero_le _⟩ (by decide) f33 rfl rfl hl.1 rfl (Nat.le_of_ble_eq_true rfl) dX9_rests_51 (fun r53 w54 H locs hp55 h => ?_)
              obtain ⟨rfl, hr56⟩ := hp55
              refine lv_icmp_gt (tgt := 61) hx hb dX9_rests_54 (by decide) (fun hc57 => ?_) (fun hc57 => ?_)
              · have hc57 : (r53).toInt < (r49).toInt := i_lt hc57 rfl rfl
                refine lv_iconst (v := 0) hx hb dX9_rests_61 (by decide) ?_
                refine lv_istore_n (lv' := [(3, .int 0), (4, .int L1), (0, .ref (ad 64)), (1, .int i), (2, .int j)]) hx hb dX9_rests_62 rfl hl (by decide) rfl (fun ls hl => ?_)
                obtain ⟨z58, e59, t60⟩ := x_add (x := L1) (y := 1) (a := L1.toInt) (b := 1) rfl rfl (by omega) (by omega)
                refine lv_iinc (v := z58) (lv' := [(4, .int z58), (3, .int 0), (0, .ref (ad 64)), (1, .int i), (2, .int j)]) hx hb dX9_rests_63 hl (k := 1) rfl e59 (by decide) rfl (fun ls hl => ?_)
                refine lv_goto (tgt := 5) hx hb dX9_rests_66 (by decide) ?_
                exact ih5  z58 (0 : Int32)  _ _ _ (by have q0 : (0 : Int32).toInt = 0 := rfl; omega) (by have q0 : (0 : Int32).toInt = 0 := rfl; omega) (by have q0 : (0 : Int32).toInt = 0 := rfl; omega) (by have q0 : (0 : Int32).toInt = 0 := rfl; omega)  (by have q0 : (0 : Int32).toInt = 0 := rfl; omega) h (lv_sub hl [0, 1, 2, 3, 4] rfl)
              · have hc57 : ¬ (r53).toInt < (r49).toInt := i_nlt hc57 rfl rfl
                refine lv_iconst (v := 1) hx hb dX9_rests_57 (by decide) ?_
                refine lv_goto (tgt := 62) hx hb dX9_rests_58 (by decide) ?_
                refine lv_istore_n (lv' := [(3, .int 1), (4, .int L1), (0, .ref (ad 64)), (1, .int i), (2, .int j)]) hx hb dX9_rests_62 rfl hl (by decide) rfl (fun ls hl => ?_)
                obtain ⟨z61, e62, t63⟩ := x_add (x := L1) (y := 1) (a := L1.toInt) (b := 1) rfl rfl (by omega) (by omega)
                refine lv_iinc (v := z61) (lv' := [(4, .int z61), (3, .int 1), (0, .ref (ad 64)), (1, .int i), (2, .int j)]) hx hb dX9_rests_63 hl (k := 1) rfl e62 (by decide) rfl (fun ls hl => ?_)
                refine lv_goto (tgt := 5) hx hb dX9_rests_66 (by decide) ?_
                exact ih5  z61 (1 : Int32)  _ _ _ (by have q0 : (1 : Int32).toInt = 1 := rfl; omega) (by have q0 : (1 : Int32).toInt = 1 := rfl; omega) (by have q0 : (1 : Int32).toInt = 1 := rfl; omega) (by have q0 : (1 : Int32).toInt = 1 := rfl; omega)  (by have q0 : (1 : Int32).toInt = 1 := rfl; omega) h (lv_sub hl [0, 1, 2, 3, 4] rfl)
          · refine lv_if_eq (tgt := 57) hx hb dX9_rests_22 (by decide) (fun _ => ?_) (fun hc => absurd (by decide) hc)
            refine lv_iconst (v := 1) hx hb dX9_rests_57 (by decide) ?_
            refine lv_goto (tgt := 62) hx hb dX9_rests_58 (by decide) ?_
            refine lv_istore_n (lv' := [(3, .int 1), (4, .int L1), (0, .ref (ad 64)), (1, .int i), (2, .int j)]) hx hb dX9_rests_62 rfl hl (by decide) rfl (fun ls hl => ?_)
            obtain ⟨z64, e65, t66⟩ := x_add (x := L1) (y := 1) (a := L1.toInt) (b := 1) rfl rfl (by omega) (by omega)
            refine lv_iinc (v := z64) (lv' := [(4, .int z64), (3, .int 1), (0, .ref (ad 64)), (1, .int i), (2, .int j)]) hx hb dX9_rests_63 hl (k := 1) rfl e65 (by decide) rfl (fun ls hl => ?_)
            refine lv_goto (tgt := 5) hx hb dX9_rests_66 (by decide) ?_
            exact ih5  z64 (1 : Int32)  _ _ _ (by have q0 : (1 : Int32).toInt = 1 := rfl; omega) (by have q0 : (1 : Int32).toInt = 1 := rfl; omega) (by have q0 : (1 : Int32).toInt = 1 := rfl; omega) (by have q0 : (1 : Int32).toInt = 1 := rfl; omega)  (by have q0 : (1 : Int32).toInt = 1 := rfl; omega) h (lv_sub hl [0, 1, 2, 3, 4] rfl)
  exact hloop3 8 (0 : Int32) (1 : Int32)  _ _ _ (by have q0 : (0 : Int32).toInt = 0 := rfl; have q1 : (1 : Int32).toInt = 1 := rfl; omega) (by have q0 : (0 : Int32).toInt = 0 := rfl; have q1 : (1 : Int32).toInt = 1 := rfl; omega) (by have q0 : (0 : Int32).toInt = 0 := rfl; have q1 : (1 : Int32).toInt = 1 := rfl; omega) (by have q0 : (0 : Int32).toInt = 0 := rfl; have q1 : (1 : Int32).toInt = 1 := rfl; omega)  (by have q0 : (0 : Int32).toInt = 0 := rfl; have q1 : (1 : Int32).toInt = 1 := rfl; omega) h (lv_sub hl [0, 1, 2, 3, 4] rfl)

set_option maxHeartbeats 4000000 in
set_option maxRecDepth 100000 in
theorem c_M_fraction (l : Launch) (G : va_G) (cI cB cZ cO : ClassId) (ad : Nat → Nat) (w : Nat → va_E)  (ok : OK cI cB cZ cO ad w) (x : Int64) (y : Int64)  (hy0 : ¬ y.toInt = 0) : NV l G (tyq cI cB cZ cO) yX9_fraction cX9_fraction 11 0 0 74 ad w [.ref (ad 64), .long x, .long y] (fun w1 => OK cI cB cZ cO ad w1 ∧ KM w w1 ∧ True) := by
  refine nk_v (own := "NoonShadeModel") rfl (by decide) (Nat.le_of_ble_eq_true rfl) ?_
  intro p e s m below meth c ls X hD hN hr hlk h hl
  have hx := X.1.1
  have hb := X.1.2.1
  have hown := X.1.2.2.2.1
  have hts := X.1.2.2.2.2
  have hl : lv_has ls 11 [(0, .ref (ad 64)), (1, .long x), (3, .long y)] := hl
  have lo_y := llo y
  have hi_y := lhi y
  refine lv_lload_n hx hb dX9_fraction_0 rfl (lv_at hl 1 rfl) ?_
  refine lv_lstore (lv' := [(5, .long x), (0, .ref (ad 64)), (1, .long x), (3, .long y)]) hx hb dX9_fraction_1 hl (by decide) rfl (fun ls hl => ?_)
  refine lv_lload_n hx hb dX9_fraction_3 rfl (lv_at hl 3 rfl) ?_
  refine lv_lstore (lv' := [(7, .long y), (5, .long x), (0, .ref (ad 64)), (1, .long x), (3, .long y)]) hx hb dX9_fraction_4 hl (by decide) rfl (fun ls hl => ?_)
  have hloop4 : ∀ (d5 : Nat) (L1 : Int64) (L2 : Int64) (wL3 : Nat → va_E) (H : Heap) (locs : List Loc) (ls : Array Slot), (¬ L2.toInt = 0 ∨ ¬ L1.toInt = 0) → OK cI cB cZ cO ad wL3 → KM w wL3 → (L1.toInt < (d5 : Int) ∧ -L1.toInt < (d5 : Int)) → St G 74 ad (wA 74 ad s.heap.size) s.heap wL3 H locs → lv_has ls 11 [(7, .long L1), (5, .long L2), (0, .ref (ad 64)), (1, .long x), (3, .long y)] → W p l e { frames := 0, cells := 0, slots := 0, locals := 0 } s m [.ref (ad 64), .long x, .long y].toArray below meth c H locs 0 0 (MQ below (va_Qv (fun w1 => OK cI cB cZ cO ad w1 ∧ KM w w1 ∧ True) (Aft G 74 ad) (wA 74 ad s.heap.size)) [.ref (ad 64), .long x, .long y].toArray s 0 0 (wA 74 ad s.heap.size)) (F0 m 6 ls []) := by
    intro d5
    induction d5 with
    | zero => intro L1 L2 wL3 H locs ls hi8 ok9 kx10 hm7 h hl; exfalso; omega
    | succ d5 ih6 =>
      intro L1 L2 wL3 H locs ls hi8 ok9 kx10 hm7 h hl
      refine lv_lload hx hb dX9_fraction_6 (lv_at hl 0 rfl) ?_
      refine lv_lconst (v := 0) hx hb dX9_fraction_8 (by decide) ?_
      refine W.lcmp hx hb dX9_fraction_9 ?_
      refine lv_if_eq (tgt := 31) hx hb dX9_fraction_10 (by decide) (fun hc12 => ?_) (fun hc12 => ?_)
      · have hc12 : (L1).toInt = 0 := lcm_eq hc12 rfl rfl
        refine lv_aload_n hx hb dX9_fraction_31 rfl (lv_at hl 2 rfl) ?_
        refine lv_lload_n hx hb dX9_fraction_32 rfl (lv_at hl 3 rfl) ?_
        refine lv_lload hx hb dX9_fraction_33 (lv_at hl 1 rfl) ?_
        obtain ⟨z14, e13⟩ : ∃ z : Int64, x / L2 = z := ⟨_, rfl⟩
        refine o_ldiv (z := z14) hx hb dX9_fraction_35 (ne0L (by omega)) e13 ?_
        obtain ⟨x16, x17, t18, t19, t20, t21, t22, t23, f15, h24, h25⟩ := (show sM ad (wL3 64) from ok9 64 (by decide))
        have f26 : wL3 64 = .inr (7, [.ref (ad 65), .ref (ad 66), .ref (ad 67), .ref (ad 68), .long x16, .long x17, .ref (ad 69), .int t18, .ref (ad 70), .ref (ad 71), .int t19, .int t20, .int t21, .int t22, .int t23, .ref (ad 72), .ref (ad 73)]) := f15
        refine r_put kc9 X hD h 64 4 (by decide) rfl f26 (by decide) kv_531 rfl rfl rfl (Nat.le_of_ble_eq_true rfl) dX9_fraction_36 (fun H locs w27 e28 h => ?_)
        have f29 : w27 64 = .inr (7, [.ref (ad 65), .ref (ad 66), .ref (ad 67), .ref (ad 68), .long z14, .long x17, .ref (ad 69), .int t18, .ref (ad 70), .ref (ad 71), .int t19, .int t20, .int t21, .int t22, .int t23, .ref (ad 72), .ref (ad 73)]) := (congrFun e28 _).trans (va_up_self _ _ _)
        have ok30 : OK cI cB cZ cO ad w27 := OK.up ok9 e28 (sM_mk (by omega) (by omega))
        have kx31 : KM w w27 := KM.up kx10 e28 f26 rfl
        refine lv_aload_n hx hb dX9_fraction_39 rfl (lv_at hl 2 rfl) ?_
        refine lv_lload_n hx hb dX9_fraction_40 rfl (lv_at hl 4 rfl) ?_
        refine lv_lload hx hb dX9_fraction_41 (lv_at hl 1 rfl) ?_
        obtain ⟨z33, e32⟩ : ∃ z : Int64, y / L2 = z := ⟨_, rfl⟩
        refine o_ldiv (z := z33) hx hb dX9_fraction_43 (ne0L (by omega)) e32 ?_
        refine r_put kc9 X hD h 64 5 (by decide) rfl f29 (by decide) kv_532 rfl rfl rfl (Nat.le_of_ble_eq_true rfl) dX9_fraction_44 (fun H locs w34 e35 h => ?_)
        have f36 : w34 64 = .inr (7, [.ref (ad 65), .ref (ad 66), .ref (ad 67), .ref (ad 68), .long z14, .long z33, .ref (ad 69), .int t18, .ref (ad 70), .ref (ad 71), .int t19, .int t20, .int t21, .int t22, .int t23, .ref (ad 72), .ref (ad 73)]) := (congrFun e35 _).trans (va_up_self _ _ _)
        have ok37 : OK cI cB cZ cO ad w34 := OK.up ok30 e35 (sM_mk (by omega) (by omega))
        have kx38 : KM w w34 := KM.up kx31 e35 f29 rfl
        exact e_v X h hr hlk dX9_fraction_47 ⟨ok37, kx38, trivial⟩
      · have hc12 : ¬ (L1).toInt = 0 := lcm_ne hc12 rfl rfl
        refine lv_lload hx hb dX9_fraction_13 (lv_at hl 1 rfl) ?_
        refine lv_lload hx hb dX9_fraction_15 (lv_at hl 0 rfl) ?_
        obtain ⟨z40, e39, t41, t41b⟩ := x_lrem (x := L2) (y := L1) (by omega)
        refine o_lrem (z := z40) hx hb dX9_fraction_17 (ne0L (by omega)) e39 ?_
        refine lv_lstore (lv' := [(9, .long z40), (7, .long L1), (5, .long L2), (0, .ref (ad 64)), (1, .long x), (3, .long y)]) hx hb dX9_fraction_18 hl (by decide) rfl (fun ls hl => ?_)
        refine lv_lload hx hb dX9_fraction_20 (lv_at hl 1 rfl) ?_
        refine lv_lstore (lv' := [(5, .long L1), (9, .long z40), (7, .long L1), (0, .ref (ad 64)), (1, .long x), (3, .long y)]) hx hb dX9_fraction_22 hl (by decide) rfl (fun ls hl => ?_)
        refine lv_lload hx hb dX9_fraction_24 (lv_at hl 1 rfl) ?_
        refine lv_lstore (lv' := [(7, .long z40), (5, .long L1), (9, .long z40), (0, .ref (ad 64)), (1, .long x), (3, .long y)]) hx hb dX9_fraction_26 hl (by decide) rfl (fun ls hl => ?_)
        refine lv_goto (tgt := 6) hx hb dX9_fraction_28 (by decide) ?_
        exact ih6  z40 L1 wL3 _ _ _ (by omega) ok9 kx10 (by omega) h (lv_sub hl [0, 1, 3, 4, 5] rfl)
  exact hloop4 9223372036854775810 y x w _ _ _ (by omega) ok KM.rf (by omega) h (lv_sub hl [0, 1, 2, 3, 4] rfl)

set_option maxHeartbeats 4000000 in
set_option maxRecDepth 100000 in
theorem c_M_coolOf (l : Launch) (G : va_G) (cI cB cZ cO : ClassId) (ad : Nat → Nat) (w : Nat → va_E) (o : Nat) (ho : isO o) (ok : OK cI cB cZ cO ad w)    : NI l G (tyq cI cB cZ cO) yX9_coolOf cX9_coolOf 3 (some .int) 0 0 74 ad w [.ref (ad o)] (fun r w1 => w = w1 ∧ True) := by
  refine nk_i (own := "NoonShadeModel") rfl (by decide) (Nat.le_of_ble_eq_true rfl) ?_
  intro p e s m below meth c ls X hD hN hr hlk h hl
  have hx := X.1.1
  have hb := X.1.2.1
  have hown := X.1.2.2.2.1
  have hts := X.1.2.2.2.2
  have hl : lv_has ls 3 [(0, .ref (ad o))] := hl
  refine lv_iconst (v := 0) hx hb dX9_coolOf_0 (by decide) ?_
  refine lv_istore_n (lv' := [(1, .int 0), (0, .ref (ad o))]) hx hb dX9_coolOf_1 rfl hl (by decide) rfl (fun ls hl => ?_)
  refine lv_iconst (v := 0) hx hb dX9_coolOf_2 (by decide) ?_
  refine lv_istore_n (lv' := [(2, .int 0), (1, .int 0), (0, .ref (ad o))]) hx hb dX9_coolOf_3 rfl hl (by decide) rfl (fun ls hl => ?_)
  have hloop3 : ∀ (d4 : Nat) (L1 : Int32) (L2 : Int32) (H : Heap) (locs : List Loc) (ls : Array Slot), 0 ≤ L1.toInt → L1.toInt ≤ 4 → 4 - L1.toInt < (d4 : Int) → St G 74 ad (wA 74 ad s.heap.size) s.heap w H locs → lv_has ls 3 [(2, .int L1), (1, .int L2), (0, .ref (ad o))] → W p l e { frames := 0, cells := 0, slots := 0, locals := 0 } s m [.ref (ad o)].toArray below meth c H locs 0 0 (MQ below (va_Qi (fun r w1 => w = w1 ∧ True) (Aft G 74 ad) (wA 74 ad s.heap.size)) [.ref (ad o)].toArray s 0 0 (wA 74 ad s.heap.size)) (F0 m 4 ls []) := by
    intro d4
    induction d4 with
    | zero => intro L1 L2 H locs ls hi7 hi8 hm6 h hl; exfalso; omega
    | succ d4 ih5 =>
      intro L1 L2 H locs ls hi7 hi8 hm6 h hl
      refine lv_iload_n hx hb dX9_coolOf_4 rfl (lv_at hl 0 rfl) ?_
      refine lv_aload_n hx hb dX9_coolOf_5 rfl (lv_at hl 2 rfl) ?_
      refine lv_iconst (v := 1) hx hb dX9_coolOf_6 (by decide) ?_
      obtain ⟨N13, g14, f12, h16, p15⟩ := OK.o ok ho
      have f17 : w o = .inl (cI, N13, .inl g14) := f12
      obtain ⟨v18, e19⟩ : ∃ z : Int32, g14 1 = z := ⟨_, rfl⟩
      have h20 := (alA_rd p15 e19).2.1 rfl
      refine o_iald (v := v18) X h o 0 (isO.lt ho) rfl f17 rfl (in_of (by decide) (by show (1 : Int) < _; omega)) e19 dX9_coolOf_7 ?_
      refine lv_icmp_ge (tgt := 26) hx hb dX9_coolOf_8 (by decide) (fun hc21 => ?_) (fun hc21 => ?_)
      · have hc21 : (v18).toInt ≤ (L1).toInt := i_le hc21 rfl rfl
        refine lv_iload_n hx hb dX9_coolOf_26 rfl (lv_at hl 1 rfl) ?_
        exact e_i X h hr hlk dX9_coolOf_27 ⟨rfl, trivial⟩
      · have hc21 : ¬ (v18).toInt ≤ (L1).toInt := i_nle hc21 rfl rfl
        refine lv_iload_n hx hb dX9_coolOf_11 rfl (lv_at hl 1 rfl) ?_
        refine lv_aload_n hx hb dX9_coolOf_12 rfl (lv_at hl 2 rfl) ?_
        refine lv_bipush (v := 8) hx hb dX9_coolOf_13 (by decide) ?_
        refine lv_iload_n hx hb dX9_coolOf_15 rfl (lv_at hl 0 rfl) ?_
        obtain ⟨z24, e22, t23⟩ := x_add (x := (8 : Int32)) (y := L1) (a := 8) (b := (L1).toInt) rfl rfl (by omega) (by omega)
        refine o_iadd (z := z24) hx hb dX9_coolOf_16 e22 ?_
        obtain ⟨v25, e26⟩ : ∃ z : Int32, g14 (z24).toNatClampNeg = z := ⟨_, rfl⟩
        refine o_iald (v := v25) X h o 0 (isO.lt ho) rfl f17 rfl (in_of (by omega) (by omega)) e26 dX9_coolOf_17 ?_
        obtain ⟨z30, e28⟩ : ∃ z : Int32, L2 + v25 = z := ⟨_, rfl⟩
        refine o_iadd (z := z30) hx hb dX9_coolOf_18 e28 ?_
        refine lv_istore_n (lv' := [(1, .int z30), (2, .int L1), (0, .ref (ad o))]) hx hb dX9_coolOf_19 rfl hl (by decide) rfl (fun ls hl => ?_)
        obtain ⟨z31, e32, t33⟩ := x_add (x := L1) (y := 1) (a := L1.toInt) (b := 1) rfl rfl (by omega) (by omega)
        refine lv_iinc (v := z31) (lv' := [(2, .int z31), (1, .int z30), (0, .ref (ad o))]) hx hb dX9_coolOf_20 hl (k := 1) rfl e32 (by decide) rfl (fun ls hl => ?_)
        refine lv_goto (tgt := 4) hx hb dX9_coolOf_23 (by decide) ?_
        exact ih5  z31 z30  _ _ _ (by omega) (by omega)  (by omega) h (lv_sub hl [0, 1, 2] rfl)
  exact hloop3 5 (0 : Int32) (0 : Int32)  _ _ _ (by have q0 : (0 : Int32).toInt = 0 := rfl; omega) (by have q0 : (0 : Int32).toInt = 0 := rfl; omega)  (by have q0 : (0 : Int32).toInt = 0 := rfl; omega) h (lv_sub hl [0, 1, 2] rfl)

set_option maxHeartbeats 4000000 in
set_option maxRecDepth 100000 in
theorem c_M_counted (l : Launch) (G : va_G) (cI cB cZ cO : ClassId) (ad : Nat → Nat) (w : Nat → va_E)  (ok : OK cI cB cZ cO ad w) (u : Int32)   : NI l G (tyq cI cB cZ cO) yX9_counted cX9_counted 2 (some .int) 1 22 74 ad w [.ref (ad 64), .int u] (fun r w1 => w = w1 ∧ True) := by
  refine nk_i (own := "NoonShadeModel") rfl (by decide) (Nat.le_of_ble_eq_true rfl) ?_
  intro p e s m below meth c ls X hD hN hr hlk h hl
  have hx := X.1.1
  have hb := X.1.2.1
  have hown := X.1.2.2.2.1
  have hts := X.1.2.2.2.2
  have hl : lv_has ls 2 [(0, .ref (ad 64)), (1, .int u)] := hl
  refine lv_iload_n hx hb dX9_counted_0 rfl (lv_at hl 1 rfl) ?_
  by_cases hs1 : 0 ≤ (u).toInt ∧ (u).toInt ≤ 8
  · have ha2 : u = 0 ∨ u = 1 ∨ u = 2 ∨ u = 3 ∨ u = 4 ∨ u = 5 ∨ u = 6 ∨ u = 7 ∨ u = 8 := by simp only [fa_eq]; have := hs1; simp only [show ((0 : Int32).toInt = 0) from rfl, show ((1 : Int32).toInt = 1) from rfl, show ((2 : Int32).toInt = 2) from rfl, show ((3 : Int32).toInt = 3) from rfl, show ((4 : Int32).toInt = 4) from rfl, show ((5 : Int32).toInt = 5) from rfl, show ((6 : Int32).toInt = 6) from rfl, show ((7 : Int32).toInt = 7) from rfl, show ((8 : Int32).toInt = 8) from rfl]; omega
    rcases ha2 with hq | hq | hq | hq | hq | hq | hq | hq | hq
    · refine lv_tableIn (tgt := 52) (off := 51) hx hb dX9_counted_1 (by rw [hq]; decide) (by rw [hq]; decide) (by rw [hq]; decide) (by decide) ?_
      refine lv_aload_n hx hb dX9_counted_52 rfl (lv_at hl 0 rfl) ?_
      obtain ⟨x4, x5, t6, t7, t8, t9, t10, t11, f3, h12, h13⟩ := (show sM ad (w 64) from ok 64 (by decide))
      have f14 : w 64 = .inr (7, [.ref (ad 65), .ref (ad 66), .ref (ad 67), .ref (ad 68), .long x4, .long x5, .ref (ad 69), .int t6, .ref (ad 70), .ref (ad 71), .int t7, .int t8, .int t9, .int t10, .int t11, .ref (ad 72), .ref (ad 73)]) := f3
      refine r_get kc9 X h 64 0 (by decide) rfl f14 (by decide) kv_467 rfl dX9_counted_53 ?_
      refine lv_iconst (v := 0) hx hb dX9_counted_56 (by decide) ?_
      obtain ⟨g16, f15, p17⟩ := (show sA cI 177 (alA) (w 65) from ok 65 (by decide))
      have f18 : w 65 = .inl (cI, 177, .inl g16) := f15
      obtain ⟨v19, e20⟩ : ∃ z : Int32, g16 0 = z := ⟨_, rfl⟩
      have h21 := (alA_rd p17 e20).1 rfl
      refine o_iald (v := v19) X h 65 0 (by decide) rfl f18 rfl (by unfold vp_in; decide) e20 dX9_counted_57 ?_
      exact e_i X h hr hlk dX9_counted_58 ⟨rfl, trivial⟩
    · refine lv_tableIn (tgt := 59) (off := 58) hx hb dX9_counted_1 (by rw [hq]; decide) (by rw [hq]; decide) (by rw [hq]; decide) (by decide) ?_
      refine lv_aload_n hx hb dX9_counted_59 rfl (lv_at hl 0 rfl) ?_
      obtain ⟨x23, x24, t25, t26, t27, t28, t29, t30, f22, h31, h32⟩ := (show sM ad (w 64) from ok 64 (by decide))
      have f33 : w 64 = .inr (7, [.ref (ad 65), .ref (ad 66), .ref (ad 67), .ref (ad 68), .long x23, .long x24, .ref (ad 69), .int t25, .ref (ad 70), .ref (ad 71), .int t26, .int t27, .int t28, .int t29, .int t30, .ref (ad 72), .ref (ad 73)]) := f22
      refine r_get kc9 X h 64 0 (by decide) rfl f33 (by decide) kv_467 rfl dX9_counted_60 ?_
      refine lv_iconst (v := 1) hx hb dX9_counted_63 (by decide) ?_
      obtain ⟨g35, f34, p36⟩ := (show sA cI 177 (alA) (w 65) from ok 65 (by decide))
      have f37 : w 65 = .inl (cI, 177, .inl g35) := f34
      obtain ⟨v38, e39⟩ : ∃ z : Int32, g35 1 = z := ⟨_, rfl⟩
      have h40 := (alA_rd p36 e39).2.1 rfl
      refine o_iald (v := v38) X h 65 0 (by decide) rfl f37 rfl (by unfold vp_in; decide) e39 dX9_counted_64 ?_
      exact e_i X h hr hlk dX9_counted_65 ⟨rfl, trivial⟩
    · refine lv_tableIn (tgt := 66) (off := 65) hx hb dX9_counted_1 (by rw [hq]; decide) (by rw [hq]; decide) (by rw [hq]; decide) (by decide) ?_
      refine lv_aload_n hx hb dX9_counted_66 rfl (lv_at hl 0 rfl) ?_
      obtain ⟨x42, x43, t44, t45, t46, t47, t48, t49, f41, h50, h51⟩ := (show sM ad (w 64) from ok 64 (by decide))
      have f52 : w 64 = .inr (7, [.ref (ad 65), .ref (ad 66), .ref (ad 67), .ref (ad 68), .long x42, .long x43, .ref (ad 69), .int t44, .ref (ad 70), .ref (ad 71), .int t45, .int t46, .int t47, .int t48, .int t49, .ref (ad 72), .ref (ad 73)]) := f41
      refine r_get kc9 X h 64 0 (by decide) rfl f52 (by decide) kv_467 rfl dX9_counted_67 ?_
      refine n_Si (na := 1) (As := [.ref (ad 65)]) (rest := []) X hD hN h (c_M_coolOf l G cI cB cZ cO ad w 65 (Or.inl rfl) ok   ) ⟨kv_533, kv_534, kv_470, kv_535⟩ ⟨by decide, by decide, by decide⟩ ⟨Nat.le_of_ble_eq_true rfl, Nat.le_of_ble_eq_true rfl⟩ ⟨Nat.zero_le _, Nat.zero_le _⟩ rfl hl.1 rfl (Nat.le_of_ble_eq_true rfl) dX9_counted_70 (fun r53 w54 H locs hp55 h => ?_)
      obtain ⟨rfl, hr56⟩ := hp55
      exact e_i X h hr hlk dX9_counted_73 ⟨rfl, trivial⟩
    · refine lv_tableIn (tgt := 74) (off := 73) hx hb dX9_counted_1 (by rw [hq]; decide) (by rw [hq]; decide) (by rw [hq]; decide) (by decide) ?_
      refine lv_aload_n hx hb dX9_counted_74 rfl (lv_at hl 0 rfl) ?_
      obtain ⟨x58, x59, t60, t61, t62, t63, t64, t65, f57, h66, h67⟩ := (show sM ad (w 64) from ok 64 (by decide))
      have f68 : w 64 = .inr (7, [.ref (ad 65), .ref (ad 66), .ref (ad 67), .ref (ad 68), .long x58, .long x59, .ref (ad 69), .int t60, .ref (ad 70), .ref (ad 71), .int t61, .int t62, .int t63, .int t64, .int t65, .ref (ad 72), .ref (ad 73)]) := f57
      refine r_get kc9 X h 64 0 (by decide) rfl f68 (by decide) kv_467 rfl dX9_counted_75 ?_
      refine lv_iconst (v := 5) hx hb dX9_counted_78 (by decide) ?_
      obtain ⟨g70, f69, p71⟩ := (show sA cI 177 (alA) (w 65) from ok 65 (by decide))
      have f72 : w 65 = .inl (cI, 177, .inl g70) := f69
      obtain ⟨v73, e74⟩ : ∃ z : Int32, g70 5 = z := ⟨_, rfl⟩
      refine o_iald (v := v73) X h 65 0 (by decide) rfl f72 rfl (by unfold vp_in; decide) e74 dX9_counted_79 ?_
      exact e_i X h hr hlk dX9_counted_80 ⟨rfl, trivial⟩
    · refine lv_tableIn (tgt := 81) (off := 80) hx hb dX9_counted_1 (by rw [hq]; decide) (by rw [hq]; decide) (by rw [hq]; decide) (by decide) ?_
      refine lv_aload_n hx hb dX9_counted_81 rfl (lv_at hl 0 rfl) ?_
      obtain ⟨x77, x78, t79, t80, t81, t82, t83, t84, f76, h85, h86⟩ := (show sM ad (w 64) from ok 64 (by decide))
      have f87 : w 64 = .inr (7, [.ref (ad 65), .ref (ad 66), .ref (ad 67), .ref (ad 68), .long x77, .long x78, .ref (ad 69), .int t79, .ref (ad 70), .ref (ad 71), .int t80, .int t81, .int t82, .int t83, .int t84, .ref (ad 72), .ref (ad 73)]) := f76
      refine r_get kc9 X h 64 0 (by decide) rfl f87 (by decide) kv_467 rfl dX9_counted_82 ?_
      refine lv_bipush (v := 7) hx hb dX9_counted_85 (by decide) ?_
      obtain ⟨g89, f88, p90⟩ := (show sA cI 177 (alA) (w 65) from ok 65 (by decide))
      have f91 : w 65 = .inl (cI, 177, .inl g89) := f88
      obtain ⟨v92, e93⟩ : ∃ z : Int32, g89 7 = z := ⟨_, rfl⟩
      refine o_iald (v := v92) X h 65 0 (by decide) rfl f91 rfl (by unfold vp_in; decide) e93 dX9_counted_87 ?_
      refine n_Si (na := 1) (As := [.int v92]) (rest := []) X hD hN h (c_M_bits l G cI cB cZ cO ad w   v92  ) ⟨kv_536, kv_537, kv_470, kv_538⟩ ⟨by decide, by decide, by decide⟩ ⟨Nat.le_of_ble_eq_true rfl, Nat.le_of_ble_eq_true rfl⟩ ⟨Nat.zero_le _, Nat.zero_le _⟩ rfl hl.1 rfl (Nat.le_of_ble_eq_true rfl) dX9_counted_88 (fun r95 w96 H locs hp97 h => ?_)
      obtain ⟨rfl, hr98⟩ := hp97
      exact e_i X h hr hlk dX9_counted_91 ⟨rfl, trivial⟩
    · refine lv_tableIn (tgt := 92) (off := 91) hx hb dX9_counted_1 (by rw [hq]; decide) (by rw [hq]; decide) (by rw [hq]; decide) (by decide) ?_
      refine lv_aload_n hx hb dX9_counted_92 rfl (lv_at hl 0 rfl) ?_
      obtain ⟨x100, x101, t102, t103, t104, t105, t106, t107, f99, h108, h109⟩ := (show sM ad (w 64) from ok 64 (by decide))
      have f110 : w 64 = .inr (7, [.ref (ad 65), .ref (ad 66), .ref (ad 67), .ref (ad 68), .long x100, .long x101, .ref (ad 69), .int t102, .ref (ad 70), .ref (ad 71), .int t103, .int t104, .int t105, .int t106, .int t107, .ref (ad 72), .ref (ad 73)]) := f99
      refine r_get kc9 X h 64 0 (by decide) rfl f110 (by decide) kv_467 rfl dX9_counted_93 ?_
      refine lv_bipush (v := 6) hx hb dX9_counted_96 (by decide) ?_
      obtain ⟨g112, f111, p113⟩ := (show sA cI 177 (alA) (w 65) from ok 65 (by decide))
      have f114 : w 65 = .inl (cI, 177, .inl g112) := f111
      obtain ⟨v115, e116⟩ : ∃ z : Int32, g112 6 = z := ⟨_, rfl⟩
      refine o_iald (v := v115) X h 65 0 (by decide) rfl f114 rfl (by unfold vp_in; decide) e116 dX9_counted_98 ?_
      exact e_i X h hr hlk dX9_counted_99 ⟨rfl, trivial⟩
    · refine lv_tableIn (tgt := 100) (off := 99) hx hb dX9_counted_1 (by rw [hq]; decide) (by rw [hq]; decide) (by rw [hq]; decide) (by decide) ?_
      refine lv_aload_n hx hb dX9_counted_100 rfl (lv_at hl 0 rfl) ?_
      obtain ⟨x119, x120, t121, t122, t123, t124, t125, t126, f118, h127, h128⟩ := (show sM ad (w 64) from ok 64 (by decide))
      have f129 : w 64 = .inr (7, [.ref (ad 65), .ref (ad 66), .ref (ad 67), .ref (ad 68), .long x119, .long x120, .ref (ad 69), .int t121, .ref (ad 70), .ref (ad 71), .int t122, .int t123, .int t124, .int t125, .int t126, .ref (ad 72), .ref (ad 73)]) := f118
      refine r_get kc9 X h 64 0 (by decide) rfl f129 (by decide) kv_467 rfl dX9_counted_101 ?_
      refine lv_iconst (v := 2) hx hb dX9_counted_104 (by decide) ?_
      obtain ⟨g131, f130, p132⟩ := (show sA cI 177 (alA) (w 65) from ok 65 (by decide))
      have f133 : w 65 = .inl (cI, 177, .inl g131) := f130
      obtain ⟨v134, e135⟩ : ∃ z : Int32, g131 2 = z := ⟨_, rfl⟩
      have h136 := (alA_rd p132 e135).2.2.1 rfl
      refine o_iald (v := v134) X h 65 0 (by decide) rfl f133 rfl (by unfold vp_in; decide) e135 dX9_counted_105 ?_
      exact e_i X h hr hlk dX9_counted_106 ⟨rfl, trivial⟩
    · refine lv_tableIn (tgt := 107) (off := 106) hx hb dX9_counted_1 (by rw [hq]; decide) (by rw [hq]; decide) (by rw [hq]; decide) (by decide) ?_
      refine lv_aload_n hx hb dX9_counted_107 rfl (lv_at hl 0 rfl) ?_
      obtain ⟨x138, x139, t140, t141, t142, t143, t144, t145, f137, h146, h147⟩ := (show sM ad (w 64) from ok 64 (by decide))
      have f148 : w 64 = .inr (7, [.ref (ad 65), .ref (ad 66), .ref (ad 67), .ref (ad 68), .long x138, .long x139, .ref (ad 69), .int t140, .ref (ad 70), .ref (ad 71), .int t141, .int t142, .int t143, .int t144, .int t145, .ref (ad 72), .ref (ad 73)]) := f137
      refine r_get kc9 X h 64 0 (by decide) rfl f148 (by decide) kv_467 rfl dX9_counted_108 ?_
      refine lv_iconst (v := 3) hx hb dX9_counted_111 (by decide) ?_
      obtain ⟨g150, f149, p151⟩ := (show sA cI 177 (alA) (w 65) from ok 65 (by decide))
      have f152 : w 65 = .inl (cI, 177, .inl g150) := f149
      obtain ⟨v153, e154⟩ : ∃ z : Int32, g150 3 = z := ⟨_, rfl⟩
      have h155 := (alA_rd p151 e154).2.2.2.1 rfl
      refine o_iald (v := v153) X h 65 0 (by decide) rfl f152 rfl (by unfold vp_in; decide) e154 dX9_counted_112 ?_
      exact e_i X h hr hlk dX9_counted_113 ⟨rfl, trivial⟩
    · refine lv_tableIn (tgt := 114) (off := 113) hx hb dX9_counted_1 (by rw [hq]; decide) (by rw [hq]; decide) (by rw [hq]; decide) (by decide) ?_
      refine lv_aload_n hx hb dX9_counted_114 rfl (lv_at hl 0 rfl) ?_
      obtain ⟨x157, x158, t159, t160, t161, t162, t163, t164, f156, h165, h166⟩ := (show sM ad (w 64) from ok 64 (by decide))
      have f167 : w 64 = .inr (7, [.ref (ad 65), .ref (ad 66), .ref (ad 67), .ref (ad 68), .long x157, .long x158, .ref (ad 69), .int t159, .ref (ad 70), .ref (ad 71), .int t160, .int t161, .int t162, .int t163, .int t164, .ref (ad 72), .ref (ad 73)]) := f156
      refine r_get kc9 X h 64 0 (by decide) rfl f167 (by decide) kv_467 rfl dX9_counted_115 ?_
      refine lv_iconst (v := 4) hx hb dX9_counted_118 (by decide) ?_
      obtain ⟨g169, f168, p170⟩ := (show sA cI 177 (alA) (w 65) from ok 65 (by decide))
      have f171 : w 65 = .inl (cI, 177, .inl g169) := f168
      obtain ⟨v172, e173⟩ : ∃ z : Int32, g169 4 = z := ⟨_, rfl⟩
      have h174 := (alA_rd p170 e173).2.2.2.2 rfl
      refine o_iald (v := v172) X h 65 0 (by decide) rfl f171 rfl (by unfold vp_in; decide) e173 dX9_counted_119 ?_
      exact e_i X h hr hlk dX9_counted_120 ⟨rfl, trivial⟩
  · refine lv_tableOut (tgt := 121) hx hb dX9_counted_1 (by omega) (by decide) ?_
    refine lv_aload_n hx hb dX9_counted_121 rfl (lv_at hl 0 rfl) ?_
    obtain ⟨x176, x177, t178, t179, t180, t181, t182, t183, f175, h184, h185⟩ := (show sM ad (w 64) from ok 64 (by decide))
    have f186 : w 64 = .inr (7, [.ref (ad 65), .ref (ad 66), .ref (ad 67), .ref (ad 68), .long x176, .long x177, .ref (ad 69), .int t178, .ref (ad 70), .ref (ad 71), .int t179, .int t180, .int t181, .int t182, .int t183, .ref (ad 72), .ref (ad 73)]) := f175
    refine r_get kc9 X h 64 10 (by decide) rfl f186 (by decide) kv_539 rfl dX9_counted_122 ?_
    exact e_i X h hr hlk dX9_counted_125 ⟨rfl, trivial⟩

set_option maxHeartbeats 4000000 in
set_option maxRecDepth 100000 in
theorem c_M_sums (l : Launch) (G : va_G) (cI cB cZ cO : ClassId) (ad : Nat → Nat) (w : Nat → va_E)  (ok : OK cI cB cZ cO ad w) (x : Int64) (k : Int32) (n : Int32) (hl_k : 41 ≤ k.toInt) (hh_k : k.toInt ≤ 65) (hl_n : 0 ≤ n.toInt) (hh_n : n.toInt ≤ 24)  : NL l G (tyq cI cB cZ cO) yX9_sums cX9_sums 8 (some .long) 0 0 74 ad w [.ref (ad 64), .long x, .int k, .int n] (fun r w1 => w = w1 ∧ True) := by
  refine nk_l (own := "NoonShadeModel") rfl (by decide) (Nat.le_of_ble_eq_true rfl) ?_
  intro p e s m below meth c ls X hD hN hr hlk h hl
  have hx := X.1.1
  have hb := X.1.2.1
  have hown := X.1.2.2.2.1
  have hts := X.1.2.2.2.2
  have hl : lv_has ls 8 [(0, .ref (ad 64)), (1, .long x), (3, .int k), (4, .int n)] := hl
  refine lv_lload_n hx hb dX9_sums_0 rfl (lv_at hl 1 rfl) ?_
  refine lv_lstore (lv' := [(5, .long x), (0, .ref (ad 64)), (1, .long x), (3, .int k), (4, .int n)]) hx hb dX9_sums_1 hl (by decide) rfl (fun ls hl => ?_)
  refine lv_iconst (v := 0) hx hb dX9_sums_3 (by decide) ?_
  refine lv_istore (lv' := [(7, .int 0), (5, .long x), (0, .ref (ad 64)), (1, .long x), (3, .int k), (4, .int n)]) hx hb dX9_sums_4 hl (by decide) rfl (fun ls hl => ?_)
  have hloop3 : ∀ (d4 : Nat) (L1 : Int32) (L2 : Int64) (H : Heap) (locs : List Loc) (ls : Array Slot), 0 ≤ L1.toInt → L1.toInt ≤ 24 → 24 - L1.toInt < (d4 : Int) → St G 74 ad (wA 74 ad s.heap.size) s.heap w H locs → lv_has ls 8 [(7, .int L1), (5, .long L2), (0, .ref (ad 64)), (1, .long x), (3, .int k), (4, .int n)] → W p l e { frames := 0, cells := 0, slots := 0, locals := 0 } s m [.ref (ad 64), .long x, .int k, .int n].toArray below meth c H locs 0 0 (MQ below (va_Ql (fun r w1 => w = w1 ∧ True) (Aft G 74 ad) (wA 74 ad s.heap.size)) [.ref (ad 64), .long x, .int k, .int n].toArray s 0 0 (wA 74 ad s.heap.size)) (F0 m 6 ls []) := by
    intro d4
    induction d4 with
    | zero => intro L1 L2 H locs ls hi7 hi8 hm6 h hl; exfalso; omega
    | succ d4 ih5 =>
      intro L1 L2 H locs ls hi7 hi8 hm6 h hl
      refine lv_iload hx hb dX9_sums_6 (lv_at hl 0 rfl) ?_
      refine lv_iload hx hb dX9_sums_8 (lv_at hl 5 rfl) ?_
      refine lv_icmp_ge (tgt := 38) hx hb dX9_sums_10 (by decide) (fun hc12 => ?_) (fun hc12 => ?_)
      · have hc12 : (n).toInt ≤ (L1).toInt := i_le hc12 rfl rfl
        refine lv_lload hx hb dX9_sums_38 (lv_at hl 1 rfl) ?_
        exact e_l X h hr hlk dX9_sums_40 ⟨rfl, trivial⟩
      · have hc12 : ¬ (n).toInt ≤ (L1).toInt := i_nle hc12 rfl rfl
        refine lv_ldc2 (v := 31) hx hb hown (hts _ kv_540) dX9_sums_13 ?_
        refine lv_lload hx hb dX9_sums_16 (lv_at hl 1 rfl) ?_
        obtain ⟨z14, e13⟩ : ∃ z : Int64, (31 : Int64) * L2 = z := ⟨_, rfl⟩
        refine o_lmul (z := z14) hx hb dX9_sums_18 e13 ?_
        refine lv_aload_n hx hb dX9_sums_19 rfl (lv_at hl 2 rfl) ?_
        obtain ⟨x16, x17, t18, t19, t20, t21, t22, t23, f15, h24, h25⟩ := (show sM ad (w 64) from ok 64 (by decide))
        have f26 : w 64 = .inr (7, [.ref (ad 65), .ref (ad 66), .ref (ad 67), .ref (ad 68), .long x16, .long x17, .ref (ad 69), .int t18, .ref (ad 70), .ref (ad 71), .int t19, .int t20, .int t21, .int t22, .int t23, .ref (ad 72), .ref (ad 73)]) := f15
        refine r_get kc9 X h 64 0 (by decide) rfl f26 (by decide) kv_467 rfl dX9_sums_20 ?_
        refine lv_iload_n hx hb dX9_sums_23 rfl (lv_at hl 4 rfl) ?_
        refine lv_iload hx hb dX9_sums_24 (lv_at hl 0 rfl) ?_
        obtain ⟨z29, e27, t28⟩ := x_add (x := k) (y := L1) (a := (k).toInt) (b := (L1).toInt) rfl rfl (by omega) (by omega)
        refine o_iadd (z := z29) hx hb dX9_sums_26 e27 ?_
        obtain ⟨g31, f30, p32⟩ := (show sA cI 177 (alA) (w 65) from ok 65 (by decide))
        have f33 : w 65 = .inl (cI, 177, .inl g31) := f30
        obtain ⟨v34, e35⟩ : ∃ z : Int32, g31 (z29).toNatClampNeg = z := ⟨_, rfl⟩
        refine o_iald (v := v34) X h 65 0 (by decide) rfl f33 rfl (in_of (by omega) (by omega)) e35 dX9_sums_27 ?_
        obtain ⟨z37, e38⟩ : ∃ z : Int64, v34.toInt64 = z := ⟨_, rfl⟩
        have tz37 : z37.toInt = (v34).toInt := by rw [← e38]; exact Int32.toInt_toInt64 _
        refine lv_i2l (v := z37) hx hb dX9_sums_28 e38 ?_
        obtain ⟨z40, e39⟩ : ∃ z : Int64, z14 + z37 = z := ⟨_, rfl⟩
        refine o_ladd (z := z40) hx hb dX9_sums_29 e39 ?_
        refine lv_lstore (lv' := [(5, .long z40), (7, .int L1), (0, .ref (ad 64)), (1, .long x), (3, .int k), (4, .int n)]) hx hb dX9_sums_30 hl (by decide) rfl (fun ls hl => ?_)
        obtain ⟨z41, e42, t43⟩ := x_add (x := L1) (y := 1) (a := L1.toInt) (b := 1) rfl rfl (by omega) (by omega)
        refine lv_iinc (v := z41) (lv' := [(7, .int z41), (5, .long z40), (0, .ref (ad 64)), (1, .long x), (3, .int k), (4, .int n)]) hx hb dX9_sums_32 hl (k := 1) rfl e42 (by decide) rfl (fun ls hl => ?_)
        refine lv_goto (tgt := 6) hx hb dX9_sums_35 (by decide) ?_
        exact ih5  z41 z40  _ _ _ (by omega) (by omega)  (by omega) h (lv_sub hl [0, 1, 2, 3, 4, 5] rfl)
  exact hloop3 25 (0 : Int32) x  _ _ _ (by have q0 : (0 : Int32).toInt = 0 := rfl; omega) (by have q0 : (0 : Int32).toInt = 0 := rfl; omega)  (by have q0 : (0 : Int32).toInt = 0 := rfl; omega) h (lv_sub hl [0, 1, 2, 3, 4, 5] rfl)
