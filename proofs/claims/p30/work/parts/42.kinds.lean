set_option maxHeartbeats 4000000 in
set_option maxRecDepth 100000 in
theorem c_within (l : Launch) (G : va_G) (cI cB cZ cO : ClassId) (ad : Nat → Nat) (w : Nat → va_E)   (v : Int32) (lo : Int32) (hi : Int32)  (u a b : Int) (hu : v.toInt = u) (ha : lo.toInt = a) (hb2 : hi.toInt = b) : NI l G (tyq cI cB cZ cO) yX8_within cX8_within 3 (some .boolean) 0 0 74 ad w [.int v, .int lo, .int hi] (fun r w1 => w = w1 ∧ ((a ≤ u ∧ u ≤ b ∧ r = 1) ∨ (¬ (a ≤ u ∧ u ≤ b) ∧ r = 0))) := by
  refine nk_i (own := "NoonShade") rfl (by decide) (Nat.le_of_ble_eq_true rfl) ?_
  intro p e s m below meth c ls X hD hN hr hlk h hl
  have hx := X.1.1
  have hb := X.1.2.1
  have hown := X.1.2.2.2.1
  have hts := X.1.2.2.2.2
  have hl : lv_has ls 3 [(0, .int v), (1, .int lo), (2, .int hi)] := hl
  refine lv_iload_n hx hb dX8_within_0 rfl (lv_at hl 0 rfl) ?_
  refine lv_iload_n hx hb dX8_within_1 rfl (lv_at hl 1 rfl) ?_
  refine lv_icmp_lt (tgt := 14) hx hb dX8_within_2 (by decide) (fun hc1 => ?_) (fun hc1 => ?_)
  · have hc1 : u < a := i_lt hc1 hu ha
    refine lv_iconst (v := 0) hx hb dX8_within_14 (by decide) ?_
    exact e_n X h hr hlk rfl dX8_within_15 ⟨rfl, Or.inr ⟨by omega, rfl⟩⟩
  · have hc1 : ¬ u < a := i_nlt hc1 hu ha
    refine lv_iload_n hx hb dX8_within_5 rfl (lv_at hl 0 rfl) ?_
    refine lv_iload_n hx hb dX8_within_6 rfl (lv_at hl 2 rfl) ?_
    refine lv_icmp_gt (tgt := 14) hx hb dX8_within_7 (by decide) (fun hc2 => ?_) (fun hc2 => ?_)
    · have hc2 : b < u := i_lt hc2 hb2 hu
      refine lv_iconst (v := 0) hx hb dX8_within_14 (by decide) ?_
      exact e_n X h hr hlk rfl dX8_within_15 ⟨rfl, Or.inr ⟨by omega, rfl⟩⟩
    · have hc2 : ¬ b < u := i_nlt hc2 hb2 hu
      refine lv_iconst (v := 1) hx hb dX8_within_10 (by decide) ?_
      refine lv_goto (tgt := 15) hx hb dX8_within_11 (by decide) ?_
      exact e_n X h hr hlk rfl dX8_within_15 ⟨rfl, Or.inl ⟨by omega, by omega, rfl⟩⟩

set_option maxHeartbeats 4000000 in
set_option maxRecDepth 100000 in
theorem c_given (l : Launch) (G : va_G) (cI cB cZ cO : ClassId) (ad : Nat → Nat) (w : Nat → va_E)   (k : Int32) (q : Int32) (t : Int32) (hl_q : 0 ≤ q.toInt) (hh_q : q.toInt ≤ 9) (hl_t : (-23) ≤ t.toInt) (hh_t : t.toInt ≤ 23)  : NI l G (tyq cI cB cZ cO) yX0_given cX0_given 5 (some .int) 1 21 74 ad w [.int k, .int q, .int t] (fun r w1 => w = w1 ∧ 0 ≤ r.toInt ∧ r.toInt ≤ 30) := by
  refine nk_i (own := "NoonShade$CasterKinds") rfl (by decide) (Nat.le_of_ble_eq_true rfl) ?_
  intro p e s m below meth c ls X hD hN hr hlk h hl
  have hx := X.1.1
  have hb := X.1.2.1
  have hown := X.1.2.2.2.1
  have hts := X.1.2.2.2.2
  have hl : lv_has ls 5 [(0, .int k), (1, .int q), (2, .int t)] := hl
  refine lv_iload_n hx hb dX0_given_0 rfl (lv_at hl 1 rfl) ?_
  refine lv_iconst (v := 1) hx hb dX0_given_1 (by decide) ?_
  obtain ⟨z3, e1, t2⟩ := x_add (x := q) (y := (1 : Int32)) (a := (q).toInt) (b := 1) rfl rfl (by omega) (by omega)
  refine o_iadd (z := z3) hx hb dX0_given_2 e1 ?_
  refine lv_iconst (v := 2) hx hb dX0_given_3 (by decide) ?_
  obtain ⟨z6, e4, t5⟩ := x_div (x := z3) (y := (2 : Int32)) (a := (z3).toInt) (b := 2) rfl rfl (by omega) (by omega)
  refine o_idiv (z := z6) hx hb dX0_given_4 (by decide) e4 ?_
  refine lv_istore_n (lv' := [(3, .int z6), (0, .int k), (1, .int q), (2, .int t)]) hx hb dX0_given_5 rfl hl (by decide) rfl (fun ls hl => ?_)
  refine lv_iload_n hx hb dX0_given_6 rfl (lv_at hl 3 rfl) ?_
  refine lv_bipush (v := 11) hx hb dX0_given_7 (by decide) ?_
  refine lv_icmp_lt (tgt := 24) hx hb dX0_given_9 (by decide) (fun hc7 => ?_) (fun hc7 => ?_)
  · have hc7 : (t).toInt < 11 := i_lt hc7 rfl rfl
    refine lv_iload_n hx hb dX0_given_24 rfl (lv_at hl 0 rfl) ?_
    refine lv_istore (lv' := [(4, .int z6), (3, .int z6), (0, .int k), (1, .int q), (2, .int t)]) hx hb dX0_given_25 hl (by decide) rfl (fun ls hl => ?_)
    refine lv_iload_n hx hb dX0_given_27 rfl (lv_at hl 2 rfl) ?_
    by_cases hs8 : 1 ≤ (k).toInt ∧ (k).toInt ≤ 5
    · have ha9 : k = 1 ∨ k = 2 ∨ k = 3 ∨ k = 4 ∨ k = 5 := by simp only [fa_eq]; have := hs8; simp only [show ((1 : Int32).toInt = 1) from rfl, show ((2 : Int32).toInt = 2) from rfl, show ((3 : Int32).toInt = 3) from rfl, show ((4 : Int32).toInt = 4) from rfl, show ((5 : Int32).toInt = 5) from rfl]; omega
      rcases ha9 with hq | hq | hq | hq | hq
      · refine lv_tableIn (tgt := 64) (off := 36) hx hb dX0_given_28 (by rw [hq]; decide) (by rw [hq]; decide) (by rw [hq]; decide) (by decide) ?_
        refine lv_iload hx hb dX0_given_64 (lv_at hl 0 rfl) ?_
        exact e_i X h hr hlk dX0_given_66 ⟨rfl, ⟨by omega, by omega⟩⟩
      · refine lv_tableIn (tgt := 67) (off := 39) hx hb dX0_given_28 (by rw [hq]; decide) (by rw [hq]; decide) (by rw [hq]; decide) (by decide) ?_
        refine lv_iload hx hb dX0_given_67 (lv_at hl 0 rfl) ?_
        refine lv_iconst (v := 2) hx hb dX0_given_69 (by decide) ?_
        obtain ⟨z12, e10, t11⟩ := x_div (x := z6) (y := (2 : Int32)) (a := (z6).toInt) (b := 2) rfl rfl (by omega) (by omega)
        refine o_idiv (z := z12) hx hb dX0_given_70 (by decide) e10 ?_
        exact e_i X h hr hlk dX0_given_71 ⟨rfl, ⟨by omega, by omega⟩⟩
      · refine lv_tableIn (tgt := 72) (off := 44) hx hb dX0_given_28 (by rw [hq]; decide) (by rw [hq]; decide) (by rw [hq]; decide) (by decide) ?_
        refine lv_iload_n hx hb dX0_given_72 rfl (lv_at hl 4 rfl) ?_
        refine lv_iconst (v := 3) hx hb dX0_given_73 (by decide) ?_
        obtain ⟨z15, e13⟩ : ∃ z : Int32, t - t / (3 : Int32) * (3 : Int32) = z := ⟨_, rfl⟩
        refine o_irem (z := z15) hx hb dX0_given_74 (by decide) e13 ?_
        refine lv_if_ne (tgt := 82) hx hb dX0_given_75 (by decide) (fun hc16 => ?_) (fun hc16 => ?_)
        · have hc16 : ¬ (z15).toInt = 0 := i_ne hc16 rfl rfl
          refine lv_iconst (v := 2) hx hb dX0_given_82 (by decide) ?_
          refine lv_iload_n hx hb dX0_given_83 rfl (lv_at hl 1 rfl) ?_
          obtain ⟨z19, e17, t18⟩ := x_mul (x := (2 : Int32)) (y := z6) (a := 2) (b := (z6).toInt) rfl rfl (by omega) (by omega)
          refine o_imul (z := z19) hx hb dX0_given_84 e17 ?_
          exact e_i X h hr hlk dX0_given_85 ⟨rfl, ⟨by omega, by omega⟩⟩
        · have hc16 : (z15).toInt = 0 := i_eq hc16 rfl rfl
          refine lv_iconst (v := 0) hx hb dX0_given_78 (by decide) ?_
          refine lv_goto (tgt := 85) hx hb dX0_given_79 (by decide) ?_
          exact e_i X h hr hlk dX0_given_85 ⟨rfl, ⟨by decide, by decide⟩⟩
      · refine lv_tableIn (tgt := 86) (off := 58) hx hb dX0_given_28 (by rw [hq]; decide) (by rw [hq]; decide) (by rw [hq]; decide) (by decide) ?_
        refine lv_iload_n hx hb dX0_given_86 rfl (lv_at hl 1 rfl) ?_
        refine lv_bipush (v := 9) hx hb dX0_given_87 (by decide) ?_
        refine lv_iload_n hx hb dX0_given_89 rfl (lv_at hl 4 rfl) ?_
        refine lv_bipush (v := 12) hx hb dX0_given_90 (by decide) ?_
        obtain ⟨z22, e20, t21⟩ := x_sub (x := t) (y := (12 : Int32)) (a := (t).toInt) (b := 12) rfl rfl (by omega) (by omega)
        refine o_isub (z := z22) hx hb dX0_given_92 e20 ?_
        obtain ⟨z23, e24, t25, t26⟩ := x_abs (x := z22) (by omega)
        refine o_mabs X hl.1 kv_0 kv_1 kv_2 kv_3 ⟨Nat.le_of_ble_eq_true rfl, Nat.le_of_ble_eq_true rfl⟩ (Nat.le_of_ble_eq_true rfl) ⟨Nat.zero_le _, Nat.zero_le _⟩ e24 dX0_given_93 ?_
        have k33 : (9 : Int32).toInt = 9 := rfl
        obtain ⟨z28, e29, t30, t31, t32⟩ := x_min (9 : Int32) z23
        refine o_mmin X hl.1 kv_4 kv_5 kv_2 kv_6 ⟨Nat.le_of_ble_eq_true rfl, Nat.le_of_ble_eq_true rfl⟩ (Nat.le_of_ble_eq_true rfl) ⟨Nat.zero_le _, Nat.zero_le _⟩ e29 dX0_given_96 ?_
        obtain ⟨z36, e34, t35⟩ := x_add (x := z6) (y := z28) (a := (z6).toInt) (b := (z28).toInt) rfl rfl (by omega) (by omega)
        refine o_iadd (z := z36) hx hb dX0_given_99 e34 ?_
        exact e_i X h hr hlk dX0_given_100 ⟨rfl, ⟨by omega, by omega⟩⟩
      · refine lv_tableIn (tgt := 101) (off := 73) hx hb dX0_given_28 (by rw [hq]; decide) (by rw [hq]; decide) (by rw [hq]; decide) (by decide) ?_
        refine lv_iload hx hb dX0_given_101 (lv_at hl 0 rfl) ?_
        refine lv_iconst (v := 3) hx hb dX0_given_103 (by decide) ?_
        obtain ⟨z39, e37, t38⟩ := x_add (x := z6) (y := (3 : Int32)) (a := (z6).toInt) (b := 3) rfl rfl (by omega) (by omega)
        refine o_iadd (z := z39) hx hb dX0_given_104 e37 ?_
        exact e_i X h hr hlk dX0_given_105 ⟨rfl, ⟨by omega, by omega⟩⟩
    · refine lv_tableOut (tgt := 106) hx hb dX0_given_28 (by omega) (by decide) ?_
      refine lv_iload_n hx hb dX0_given_106 rfl (lv_at hl 1 rfl) ?_
      exact e_i X h hr hlk dX0_given_107 ⟨rfl, ⟨by omega, by omega⟩⟩
  · have hc7 : ¬ (t).toInt < 11 := i_nlt hc7 rfl rfl
    refine lv_iload_n hx hb dX0_given_12 rfl (lv_at hl 3 rfl) ?_
    refine lv_bipush (v := 13) hx hb dX0_given_13 (by decide) ?_
    refine lv_icmp_gt (tgt := 24) hx hb dX0_given_15 (by decide) (fun hc40 => ?_) (fun hc40 => ?_)
    · have hc40 : 13 < (t).toInt := i_lt hc40 rfl rfl
      refine lv_iload_n hx hb dX0_given_24 rfl (lv_at hl 0 rfl) ?_
      refine lv_istore (lv' := [(4, .int z6), (3, .int z6), (0, .int k), (1, .int q), (2, .int t)]) hx hb dX0_given_25 hl (by decide) rfl (fun ls hl => ?_)
      refine lv_iload_n hx hb dX0_given_27 rfl (lv_at hl 2 rfl) ?_
      by_cases hs41 : 1 ≤ (k).toInt ∧ (k).toInt ≤ 5
      · have ha42 : k = 1 ∨ k = 2 ∨ k = 3 ∨ k = 4 ∨ k = 5 := by simp only [fa_eq]; have := hs41; simp only [show ((1 : Int32).toInt = 1) from rfl, show ((2 : Int32).toInt = 2) from rfl, show ((3 : Int32).toInt = 3) from rfl, show ((4 : Int32).toInt = 4) from rfl, show ((5 : Int32).toInt = 5) from rfl]; omega
        rcases ha42 with hq | hq | hq | hq | hq
        · refine lv_tableIn (tgt := 64) (off := 36) hx hb dX0_given_28 (by rw [hq]; decide) (by rw [hq]; decide) (by rw [hq]; decide) (by decide) ?_
          refine lv_iload hx hb dX0_given_64 (lv_at hl 0 rfl) ?_
          exact e_i X h hr hlk dX0_given_66 ⟨rfl, ⟨by omega, by omega⟩⟩
        · refine lv_tableIn (tgt := 67) (off := 39) hx hb dX0_given_28 (by rw [hq]; decide) (by rw [hq]; decide) (by rw [hq]; decide) (by decide) ?_
          refine lv_iload hx hb dX0_given_67 (lv_at hl 0 rfl) ?_
          refine lv_iconst (v := 2) hx hb dX0_given_69 (by decide) ?_
          obtain ⟨z45, e43, t44⟩ := x_div (x := z6) (y := (2 : Int32)) (a := (z6).toInt) (b := 2) rfl rfl (by omega) (by omega)
          refine o_idiv (z := z45) hx hb dX0_given_70 (by decide) e43 ?_
          exact e_i X h hr hlk dX0_given_71 ⟨rfl, ⟨by omega, by omega⟩⟩
        · refine lv_tableIn (tgt := 72) (off := 44) hx hb dX0_given_28 (by rw [hq]; decide) (by rw [hq]; decide) (by rw [hq]; decide) (by decide) ?_
          refine lv_iload_n hx hb dX0_given_72 rfl (lv_at hl 4 rfl) ?_
          refine lv_iconst (v := 3) hx hb dX0_given_73 (by decide) ?_
          obtain ⟨z48, e46, t47⟩ := x_rem (x := t) (y := (3 : Int32)) (a := (t).toInt) (b := 3) rfl rfl (by omega) (by omega)
          refine o_irem (z := z48) hx hb dX0_given_74 (by decide) e46 ?_
          refine lv_if_ne (tgt := 82) hx hb dX0_given_75 (by decide) (fun hc49 => ?_) (fun hc49 => ?_)
          · have hc49 : ¬ (z48).toInt = 0 := i_ne hc49 rfl rfl
            refine lv_iconst (v := 2) hx hb dX0_given_82 (by decide) ?_
            refine lv_iload_n hx hb dX0_given_83 rfl (lv_at hl 1 rfl) ?_
            obtain ⟨z52, e50, t51⟩ := x_mul (x := (2 : Int32)) (y := z6) (a := 2) (b := (z6).toInt) rfl rfl (by omega) (by omega)
            refine o_imul (z := z52) hx hb dX0_given_84 e50 ?_
            exact e_i X h hr hlk dX0_given_85 ⟨rfl, ⟨by omega, by omega⟩⟩
          · have hc49 : (z48).toInt = 0 := i_eq hc49 rfl rfl
            refine lv_iconst (v := 0) hx hb dX0_given_78 (by decide) ?_
            refine lv_goto (tgt := 85) hx hb dX0_given_79 (by decide) ?_
            exact e_i X h hr hlk dX0_given_85 ⟨rfl, ⟨by decide, by decide⟩⟩
        · refine lv_tableIn (tgt := 86) (off := 58) hx hb dX0_given_28 (by rw [hq]; decide) (by rw [hq]; decide) (by rw [hq]; decide) (by decide) ?_
          refine lv_iload_n hx hb dX0_given_86 rfl (lv_at hl 1 rfl) ?_
          refine lv_bipush (v := 9) hx hb dX0_given_87 (by decide) ?_
          refine lv_iload_n hx hb dX0_given_89 rfl (lv_at hl 4 rfl) ?_
          refine lv_bipush (v := 12) hx hb dX0_given_90 (by decide) ?_
          obtain ⟨z55, e53, t54⟩ := x_sub (x := t) (y := (12 : Int32)) (a := (t).toInt) (b := 12) rfl rfl (by omega) (by omega)
          refine o_isub (z := z55) hx hb dX0_given_92 e53 ?_
          obtain ⟨z56, e57, t58, t59⟩ := x_abs (x := z55) (by omega)
          refine o_mabs X hl.1 kv_0 kv_1 kv_2 kv_3 ⟨Nat.le_of_ble_eq_true rfl, Nat.le_of_ble_eq_true rfl⟩ (Nat.le_of_ble_eq_true rfl) ⟨Nat.zero_le _, Nat.zero_le _⟩ e57 dX0_given_93 ?_
          have k66 : (9 : Int32).toInt = 9 := rfl
          obtain ⟨z61, e62, t63, t64, t65⟩ := x_min (9 : Int32) z56
          refine o_mmin X hl.1 kv_4 kv_5 kv_2 kv_6 ⟨Nat.le_of_ble_eq_true rfl, Nat.le_of_ble_eq_true rfl⟩ (Nat.le_of_ble_eq_true rfl) ⟨Nat.zero_le _, Nat.zero_le _⟩ e62 dX0_given_96 ?_
          obtain ⟨z69, e67, t68⟩ := x_add (x := z6) (y := z61) (a := (z6).toInt) (b := (z61).toInt) rfl rfl (by omega) (by omega)
          refine o_iadd (z := z69) hx hb dX0_given_99 e67 ?_
          exact e_i X h hr hlk dX0_given_100 ⟨rfl, ⟨by omega, by omega⟩⟩
        · refine lv_tableIn (tgt := 101) (off := 73) hx hb dX0_given_28 (by rw [hq]; decide) (by rw [hq]; decide) (by rw [hq]; decide) (by decide) ?_
          refine lv_iload hx hb dX0_given_101 (lv_at hl 0 rfl) ?_
          refine lv_iconst (v := 3) hx hb dX0_given_103 (by decide) ?_
          obtain ⟨z72, e70, t71⟩ := x_add (x := z6) (y := (3 : Int32)) (a := (z6).toInt) (b := 3) rfl rfl (by omega) (by omega)
          refine o_iadd (z := z72) hx hb dX0_given_104 e70 ?_
          exact e_i X h hr hlk dX0_given_105 ⟨rfl, ⟨by omega, by omega⟩⟩
      · refine lv_tableOut (tgt := 106) hx hb dX0_given_28 (by omega) (by decide) ?_
        refine lv_iload_n hx hb dX0_given_106 rfl (lv_at hl 1 rfl) ?_
        exact e_i X h hr hlk dX0_given_107 ⟨rfl, ⟨by omega, by omega⟩⟩
    · have hc40 : ¬ 13 < (t).toInt := i_nlt hc40 rfl rfl
      refine lv_iload_n hx hb dX0_given_18 rfl (lv_at hl 0 rfl) ?_
      refine lv_iload_n hx hb dX0_given_19 rfl (lv_at hl 2 rfl) ?_
      obtain ⟨z75, e73, t74⟩ := x_add (x := z6) (y := q) (a := (z6).toInt) (b := (q).toInt) rfl rfl (by omega) (by omega)
      refine o_iadd (z := z75) hx hb dX0_given_20 e73 ?_
      refine lv_goto (tgt := 25) hx hb dX0_given_21 (by decide) ?_
      refine lv_istore (lv' := [(4, .int z75), (3, .int z6), (0, .int k), (1, .int q), (2, .int t)]) hx hb dX0_given_25 hl (by decide) rfl (fun ls hl => ?_)
      refine lv_iload_n hx hb dX0_given_27 rfl (lv_at hl 2 rfl) ?_
      by_cases hs76 : 1 ≤ (k).toInt ∧ (k).toInt ≤ 5
      · have ha77 : k = 1 ∨ k = 2 ∨ k = 3 ∨ k = 4 ∨ k = 5 := by simp only [fa_eq]; have := hs76; simp only [show ((1 : Int32).toInt = 1) from rfl, show ((2 : Int32).toInt = 2) from rfl, show ((3 : Int32).toInt = 3) from rfl, show ((4 : Int32).toInt = 4) from rfl, show ((5 : Int32).toInt = 5) from rfl]; omega
        rcases ha77 with hq | hq | hq | hq | hq
        · refine lv_tableIn (tgt := 64) (off := 36) hx hb dX0_given_28 (by rw [hq]; decide) (by rw [hq]; decide) (by rw [hq]; decide) (by decide) ?_
          refine lv_iload hx hb dX0_given_64 (lv_at hl 0 rfl) ?_
          exact e_i X h hr hlk dX0_given_66 ⟨rfl, ⟨by omega, by omega⟩⟩
        · refine lv_tableIn (tgt := 67) (off := 39) hx hb dX0_given_28 (by rw [hq]; decide) (by rw [hq]; decide) (by rw [hq]; decide) (by decide) ?_
          refine lv_iload hx hb dX0_given_67 (lv_at hl 0 rfl) ?_
          refine lv_iconst (v := 2) hx hb dX0_given_69 (by decide) ?_
          obtain ⟨z80, e78, t79⟩ := x_div (x := z75) (y := (2 : Int32)) (a := (z75).toInt) (b := 2) rfl rfl (by omega) (by omega)
          refine o_idiv (z := z80) hx hb dX0_given_70 (by decide) e78 ?_
          exact e_i X h hr hlk dX0_given_71 ⟨rfl, ⟨by omega, by omega⟩⟩
        · refine lv_tableIn (tgt := 72) (off := 44) hx hb dX0_given_28 (by rw [hq]; decide) (by rw [hq]; decide) (by rw [hq]; decide) (by decide) ?_
          refine lv_iload_n hx hb dX0_given_72 rfl (lv_at hl 4 rfl) ?_
          refine lv_iconst (v := 3) hx hb dX0_given_73 (by decide) ?_
          obtain ⟨z83, e81, t82⟩ := x_rem (x := t) (y := (3 : Int32)) (a := (t).toInt) (b := 3) rfl rfl (by omega) (by omega)
          refine o_irem (z := z83) hx hb dX0_given_74 (by decide) e81 ?_
          refine lv_if_ne (tgt := 82) hx hb dX0_given_75 (by decide) (fun hc84 => ?_) (fun hc84 => ?_)
          · have hc84 : ¬ (z83).toInt = 0 := i_ne hc84 rfl rfl
            refine lv_iconst (v := 2) hx hb dX0_given_82 (by decide) ?_
            refine lv_iload_n hx hb dX0_given_83 rfl (lv_at hl 1 rfl) ?_
            obtain ⟨z87, e85, t86⟩ := x_mul (x := (2 : Int32)) (y := z6) (a := 2) (b := (z6).toInt) rfl rfl (by omega) (by omega)
            refine o_imul (z := z87) hx hb dX0_given_84 e85 ?_
            exact e_i X h hr hlk dX0_given_85 ⟨rfl, ⟨by omega, by omega⟩⟩
          · have hc84 : (z83).toInt = 0 := i_eq hc84 rfl rfl
            refine lv_iconst (v := 0) hx hb dX0_given_78 (by decide) ?_
            refine lv_goto (tgt := 85) hx hb dX0_given_79 (by decide) ?_
            exact e_i X h hr hlk dX0_given_85 ⟨rfl, ⟨by decide, by decide⟩⟩
        · refine lv_tableIn (tgt := 86) (off := 58) hx hb dX0_given_28 (by rw [hq]; decide) (by rw [hq]; decide) (by rw [hq]; decide) (by decide) ?_
          refine lv_iload_n hx hb dX0_given_86 rfl (lv_at hl 1 rfl) ?_
          refine lv_bipush (v := 9) hx hb dX0_given_87 (by decide) ?_
          refine lv_iload_n hx hb dX0_given_89 rfl (lv_at hl 4 rfl) ?_
          refine lv_bipush (v := 12) hx hb dX0_given_90 (by decide) ?_
          obtain ⟨z90, e88, t89⟩ := x_sub (x := t) (y := (12 : Int32)) (a := (t).toInt) (b := 12) rfl rfl (by omega) (by omega)
          refine o_isub (z := z90) hx hb dX0_given_92 e88 ?_
          obtain ⟨z91, e92, t93, t94⟩ := x_abs (x := z90) (by omega)
          refine o_mabs X hl.1 kv_0 kv_1 kv_2 kv_3 ⟨Nat.le_of_ble_eq_true rfl, Nat.le_of_ble_eq_true rfl⟩ (Nat.le_of_ble_eq_true rfl) ⟨Nat.zero_le _, Nat.zero_le _⟩ e92 dX0_given_93 ?_
          have k101 : (9 : Int32).toInt = 9 := rfl
          obtain ⟨z96, e97, t98, t99, t100⟩ := x_min (9 : Int32) z91
          refine o_mmin X hl.1 kv_4 kv_5 kv_2 kv_6 ⟨Nat.le_of_ble_eq_true rfl, Nat.le_of_ble_eq_true rfl⟩ (Nat.le_of_ble_eq_true rfl) ⟨Nat.zero_le _, Nat.zero_le _⟩ e97 dX0_given_96 ?_
          obtain ⟨z104, e102, t103⟩ := x_add (x := z6) (y := z96) (a := (z6).toInt) (b := (z96).toInt) rfl rfl (by omega) (by omega)
          refine o_iadd (z := z104) hx hb dX0_given_99 e102 ?_
          exact e_i X h hr hlk dX0_given_100 ⟨rfl, ⟨by omega, by omega⟩⟩
        · refine lv_tableIn (tgt := 101) (off := 73) hx hb dX0_given_28 (by rw [hq]; decide) (by rw [hq]; decide) (by rw [hq]; decide) (by decide) ?_
          refine lv_iload hx hb dX0_given_101 (lv_at hl 0 rfl) ?_
          refine lv_iconst (v := 3) hx hb dX0_given_103 (by decide) ?_
          obtain ⟨z107, e105, t106⟩ := x_add (x := z75) (y := (3 : Int32)) (a := (z75).toInt) (b := 3) rfl rfl (by omega) (by omega)
          refine o_iadd (z := z107) hx hb dX0_given_104 e105 ?_
          exact e_i X h hr hlk dX0_given_105 ⟨rfl, ⟨by omega, by omega⟩⟩
      · refine lv_tableOut (tgt := 106) hx hb dX0_given_28 (by omega) (by decide) ?_
        refine lv_iload_n hx hb dX0_given_106 rfl (lv_at hl 1 rfl) ?_
        exact e_i X h hr hlk dX0_given_107 ⟨rfl, ⟨by omega, by omega⟩⟩

set_option maxHeartbeats 4000000 in
set_option maxRecDepth 100000 in
theorem c_givenU (l : Launch) (G : va_G) (cI cB cZ cO : ClassId) (ad : Nat → Nat) (w : Nat → va_E)   (k : Int32) (q : Int32) (t : Int32)   : NI l G (tyq cI cB cZ cO) yX0_given cX0_given 5 (some .int) 1 21 74 ad w [.int k, .int q, .int t] (fun r w1 => w = w1 ∧ True) := by
  refine nk_i (own := "NoonShade$CasterKinds") rfl (by decide) (Nat.le_of_ble_eq_true rfl) ?_
  intro p e s m below meth c ls X hD hN hr hlk h hl
  have hx := X.1.1
  have hb := X.1.2.1
  have hown := X.1.2.2.2.1
  have hts := X.1.2.2.2.2
  have hl : lv_has ls 5 [(0, .int k), (1, .int q), (2, .int t)] := hl
  refine lv_iload_n hx hb dX0_given_0 rfl (lv_at hl 1 rfl) ?_
  refine lv_iconst (v := 1) hx hb dX0_given_1 (by decide) ?_
  obtain ⟨z3, e1⟩ : ∃ z : Int32, q + (1 : Int32) = z := ⟨_, rfl⟩
  refine o_iadd (z := z3) hx hb dX0_given_2 e1 ?_
  refine lv_iconst (v := 2) hx hb dX0_given_3 (by decide) ?_
  obtain ⟨z6, e4⟩ : ∃ z : Int32, z3 / (2 : Int32) = z := ⟨_, rfl⟩
  refine o_idiv (z := z6) hx hb dX0_given_4 (by decide) e4 ?_
  refine lv_istore_n (lv' := [(3, .int z6), (0, .int k), (1, .int q), (2, .int t)]) hx hb dX0_given_5 rfl hl (by decide) rfl (fun ls hl => ?_)
  refine lv_iload_n hx hb dX0_given_6 rfl (lv_at hl 3 rfl) ?_
  refine lv_bipush (v := 11) hx hb dX0_given_7 (by decide) ?_
  refine lv_icmp_lt (tgt := 24) hx hb dX0_given_9 (by decide) (fun hc7 => ?_) (fun hc7 => ?_)
  · have hc7 : (t).toInt < 11 := i_lt hc7 rfl rfl
    refine lv_iload_n hx hb dX0_given_24 rfl (lv_at hl 0 rfl) ?_
    refine lv_istore (lv' := [(4, .int z6), (3, .int z6), (0, .int k), (1, .int q), (2, .int t)]) hx hb dX0_given_25 hl (by decide) rfl (fun ls hl => ?_)
    refine lv_iload_n hx hb dX0_given_27 rfl (lv_at hl 2 rfl) ?_
    by_cases hs8 : 1 ≤ (k).toInt ∧ (k).toInt ≤ 5
    · have ha9 : k = 1 ∨ k = 2 ∨ k = 3 ∨ k = 4 ∨ k = 5 := by simp only [fa_eq]; have := hs8; simp only [show ((1 : Int32).toInt = 1) from rfl, show ((2 : Int32).toInt = 2) from rfl, show ((3 : Int32).toInt = 3) from rfl, show ((4 : Int32).toInt = 4) from rfl, show ((5 : Int32).toInt = 5) from rfl]; omega
      rcases ha9 with hq | hq | hq | hq | hq
      · refine lv_tableIn (tgt := 64) (off := 36) hx hb dX0_given_28 (by rw [hq]; decide) (by rw [hq]; decide) (by rw [hq]; decide) (by decide) ?_
        refine lv_iload hx hb dX0_given_64 (lv_at hl 0 rfl) ?_
        exact e_i X h hr hlk dX0_given_66 ⟨rfl, trivial⟩
      · refine lv_tableIn (tgt := 67) (off := 39) hx hb dX0_given_28 (by rw [hq]; decide) (by rw [hq]; decide) (by rw [hq]; decide) (by decide) ?_
        refine lv_iload hx hb dX0_given_67 (lv_at hl 0 rfl) ?_
        refine lv_iconst (v := 2) hx hb dX0_given_69 (by decide) ?_
        obtain ⟨z12, e10⟩ : ∃ z : Int32, z6 / (2 : Int32) = z := ⟨_, rfl⟩
        refine o_idiv (z := z12) hx hb dX0_given_70 (by decide) e10 ?_
        exact e_i X h hr hlk dX0_given_71 ⟨rfl, trivial⟩
      · refine lv_tableIn (tgt := 72) (off := 44) hx hb dX0_given_28 (by rw [hq]; decide) (by rw [hq]; decide) (by rw [hq]; decide) (by decide) ?_
        refine lv_iload_n hx hb dX0_given_72 rfl (lv_at hl 4 rfl) ?_
        refine lv_iconst (v := 3) hx hb dX0_given_73 (by decide) ?_
        obtain ⟨z15, e13⟩ : ∃ z : Int32, t - t / (3 : Int32) * (3 : Int32) = z := ⟨_, rfl⟩
        refine o_irem (z := z15) hx hb dX0_given_74 (by decide) e13 ?_
        refine lv_if_ne (tgt := 82) hx hb dX0_given_75 (by decide) (fun hc16 => ?_) (fun hc16 => ?_)
        · have hc16 : ¬ (z15).toInt = 0 := i_ne hc16 rfl rfl
          refine lv_iconst (v := 2) hx hb dX0_given_82 (by decide) ?_
          refine lv_iload_n hx hb dX0_given_83 rfl (lv_at hl 1 rfl) ?_
          obtain ⟨z19, e17⟩ : ∃ z : Int32, (2 : Int32) * z6 = z := ⟨_, rfl⟩
          refine o_imul (z := z19) hx hb dX0_given_84 e17 ?_
          exact e_i X h hr hlk dX0_given_85 ⟨rfl, trivial⟩
        · have hc16 : (z15).toInt = 0 := i_eq hc16 rfl rfl
          refine lv_iconst (v := 0) hx hb dX0_given_78 (by decide) ?_
          refine lv_goto (tgt := 85) hx hb dX0_given_79 (by decide) ?_
          exact e_i X h hr hlk dX0_given_85 ⟨rfl, trivial⟩
      · refine lv_tableIn (tgt := 86) (off := 58) hx hb dX0_given_28 (by rw [hq]; decide) (by rw [hq]; decide) (by rw [hq]; decide) (by decide) ?_
        refine lv_iload_n hx hb dX0_given_86 rfl (lv_at hl 1 rfl) ?_
        refine lv_bipush (v := 9) hx hb dX0_given_87 (by decide) ?_
        refine lv_iload_n hx hb dX0_given_89 rfl (lv_at hl 4 rfl) ?_
        refine lv_bipush (v := 12) hx hb dX0_given_90 (by decide) ?_
        obtain ⟨z22, e20⟩ : ∃ z : Int32, t - (12 : Int32) = z := ⟨_, rfl⟩
        refine o_isub (z := z22) hx hb dX0_given_92 e20 ?_
        obtain ⟨z23, e24⟩ : ∃ z : Int32, (if 0 ≤ z22 then z22 else 0 - z22) = z := ⟨_, rfl⟩
        refine o_mabs X hl.1 kv_0 kv_1 kv_2 kv_3 ⟨Nat.le_of_ble_eq_true rfl, Nat.le_of_ble_eq_true rfl⟩ (Nat.le_of_ble_eq_true rfl) ⟨Nat.zero_le _, Nat.zero_le _⟩ e24 dX0_given_93 ?_
        have k33 : (9 : Int32).toInt = 9 := rfl
        obtain ⟨z28, e29, t30, t31, t32⟩ := x_min (9 : Int32) z23
        refine o_mmin X hl.1 kv_4 kv_5 kv_2 kv_6 ⟨Nat.le_of_ble_eq_true rfl, Nat.le_of_ble_eq_true rfl⟩ (Nat.le_of_ble_eq_true rfl) ⟨Nat.zero_le _, Nat.zero_le _⟩ e29 dX0_given_96 ?_
        obtain ⟨z36, e34⟩ : ∃ z : Int32, z6 + z28 = z := ⟨_, rfl⟩
        refine o_iadd (z := z36) hx hb dX0_given_99 e34 ?_
        exact e_i X h hr hlk dX0_given_100 ⟨rfl, trivial⟩
      · refine lv_tableIn (tgt := 101) (off := 73) hx hb dX0_given_28 (by rw [hq]; decide) (by rw [hq]; decide) (by rw [hq]; decide) (by decide) ?_
        refine lv_iload hx hb dX0_given_101 (lv_at hl 0 rfl) ?_
        refine lv_iconst (v := 3) hx hb dX0_given_103 (by decide) ?_
        obtain ⟨z39, e37⟩ : ∃ z : Int32, z6 + (3 : Int32) = z := ⟨_, rfl⟩
        refine o_iadd (z := z39) hx hb dX0_given_104 e37 ?_
        exact e_i X h hr hlk dX0_given_105 ⟨rfl, trivial⟩
    · refine lv_tableOut (tgt := 106) hx hb dX0_given_28 (by omega) (by decide) ?_
      refine lv_iload_n hx hb dX0_given_106 rfl (lv_at hl 1 rfl) ?_
      exact e_i X h hr hlk dX0_given_107 ⟨rfl, trivial⟩
  · have hc7 : ¬ (t).toInt < 11 := i_nlt hc7 rfl rfl
    refine lv_iload_n hx hb dX0_given_12 rfl (lv_at hl 3 rfl) ?_
    refine lv_bipush (v := 13) hx hb dX0_given_13 (by decide) ?_
    refine lv_icmp_gt (tgt := 24) hx hb dX0_given_15 (by decide) (fun hc40 => ?_) (fun hc40 => ?_)
    · have hc40 : 13 < (t).toInt := i_lt hc40 rfl rfl
      refine lv_iload_n hx hb dX0_given_24 rfl (lv_at hl 0 rfl) ?_
      refine lv_istore (lv' := [(4, .int z6), (3, .int z6), (0, .int k), (1, .int q), (2, .int t)]) hx hb dX0_given_25 hl (by decide) rfl (fun ls hl => ?_)
      refine lv_iload_n hx hb dX0_given_27 rfl (lv_at hl 2 rfl) ?_
      by_cases hs41 : 1 ≤ (k).toInt ∧ (k).toInt ≤ 5
      · have ha42 : k = 1 ∨ k = 2 ∨ k = 3 ∨ k = 4 ∨ k = 5 := by simp only [fa_eq]; have := hs41; simp only [show ((1 : Int32).toInt = 1) from rfl, show ((2 : Int32).toInt = 2) from rfl, show ((3 : Int32).toInt = 3) from rfl, show ((4 : Int32).toInt = 4) from rfl, show ((5 : Int32).toInt = 5) from rfl]; omega
        rcases ha42 with hq | hq | hq | hq | hq
        · refine lv_tableIn (tgt := 64) (off := 36) hx hb dX0_given_28 (by rw [hq]; decide) (by rw [hq]; decide) (by rw [hq]; decide) (by decide) ?_
          refine lv_iload hx hb dX0_given_64 (lv_at hl 0 rfl) ?_
          exact e_i X h hr hlk dX0_given_66 ⟨rfl, trivial⟩
        · refine lv_tableIn (tgt := 67) (off := 39) hx hb dX0_given_28 (by rw [hq]; decide) (by rw [hq]; decide) (by rw [hq]; decide) (by decide) ?_
          refine lv_iload hx hb dX0_given_67 (lv_at hl 0 rfl) ?_
          refine lv_iconst (v := 2) hx hb dX0_given_69 (by decide) ?_
          obtain ⟨z45, e43⟩ : ∃ z : Int32, z6 / (2 : Int32) = z := ⟨_, rfl⟩
          refine o_idiv (z := z45) hx hb dX0_given_70 (by decide) e43 ?_
          exact e_i X h hr hlk dX0_given_71 ⟨rfl, trivial⟩
        · refine lv_tableIn (tgt := 72) (off := 44) hx hb dX0_given_28 (by rw [hq]; decide) (by rw [hq]; decide) (by rw [hq]; decide) (by decide) ?_
          refine lv_iload_n hx hb dX0_given_72 rfl (lv_at hl 4 rfl) ?_
          refine lv_iconst (v := 3) hx hb dX0_given_73 (by decide) ?_
          obtain ⟨z48, e46, t47⟩ := x_rem (x := t) (y := (3 : Int32)) (a := (t).toInt) (b := 3) rfl rfl (by omega) (by omega)
          refine o_irem (z := z48) hx hb dX0_given_74 (by decide) e46 ?_
          refine lv_if_ne (tgt := 82) hx hb dX0_given_75 (by decide) (fun hc49 => ?_) (fun hc49 => ?_)
          · have hc49 : ¬ (z48).toInt = 0 := i_ne hc49 rfl rfl
            refine lv_iconst (v := 2) hx hb dX0_given_82 (by decide) ?_
            refine lv_iload_n hx hb dX0_given_83 rfl (lv_at hl 1 rfl) ?_
            obtain ⟨z52, e50⟩ : ∃ z : Int32, (2 : Int32) * z6 = z := ⟨_, rfl⟩
            refine o_imul (z := z52) hx hb dX0_given_84 e50 ?_
            exact e_i X h hr hlk dX0_given_85 ⟨rfl, trivial⟩
          · have hc49 : (z48).toInt = 0 := i_eq hc49 rfl rfl
            refine lv_iconst (v := 0) hx hb dX0_given_78 (by decide) ?_
            refine lv_goto (tgt := 85) hx hb dX0_given_79 (by decide) ?_
            exact e_i X h hr hlk dX0_given_85 ⟨rfl, trivial⟩
        · refine lv_tableIn (tgt := 86) (off := 58) hx hb dX0_given_28 (by rw [hq]; decide) (by rw [hq]; decide) (by rw [hq]; decide) (by decide) ?_
          refine lv_iload_n hx hb dX0_given_86 rfl (lv_at hl 1 rfl) ?_
          refine lv_bipush (v := 9) hx hb dX0_given_87 (by decide) ?_
          refine lv_iload_n hx hb dX0_given_89 rfl (lv_at hl 4 rfl) ?_
          refine lv_bipush (v := 12) hx hb dX0_given_90 (by decide) ?_
          obtain ⟨z55, e53⟩ : ∃ z : Int32, t - (12 : Int32) = z := ⟨_, rfl⟩
          refine o_isub (z := z55) hx hb dX0_given_92 e53 ?_
          obtain ⟨z56, e57⟩ : ∃ z : Int32, (if 0 ≤ z55 then z55 else 0 - z55) = z := ⟨_, rfl⟩
          refine o_mabs X hl.1 kv_0 kv_1 kv_2 kv_3 ⟨Nat.le_of_ble_eq_true rfl, Nat.le_of_ble_eq_true rfl⟩ (Nat.le_of_ble_eq_true rfl) ⟨Nat.zero_le _, Nat.zero_le _⟩ e57 dX0_given_93 ?_
          have k66 : (9 : Int32).toInt = 9 := rfl
          obtain ⟨z61, e62, t63, t64, t65⟩ := x_min (9 : Int32) z56
          refine o_mmin X hl.1 kv_4 kv_5 kv_2 kv_6 ⟨Nat.le_of_ble_eq_true rfl, Nat.le_of_ble_eq_true rfl⟩ (Nat.le_of_ble_eq_true rfl) ⟨Nat.zero_le _, Nat.zero_le _⟩ e62 dX0_given_96 ?_
          obtain ⟨z69, e67⟩ : ∃ z : Int32, z6 + z61 = z := ⟨_, rfl⟩
          refine o_iadd (z := z69) hx hb dX0_given_99 e67 ?_
          exact e_i X h hr hlk dX0_given_100 ⟨rfl, trivial⟩
        · refine lv_tableIn (tgt := 101) (off := 73) hx hb dX0_given_28 (by rw [hq]; decide) (by rw [hq]; decide) (by rw [hq]; decide) (by decide) ?_
          refine lv_iload hx hb dX0_given_101 (lv_at hl 0 rfl) ?_
          refine lv_iconst (v := 3) hx hb dX0_given_103 (by decide) ?_
          obtain ⟨z72, e70⟩ : ∃ z : Int32, z6 + (3 : Int32) = z := ⟨_, rfl⟩
          refine o_iadd (z := z72) hx hb dX0_given_104 e70 ?_
          exact e_i X h hr hlk dX0_given_105 ⟨rfl, trivial⟩
      · refine lv_tableOut (tgt := 106) hx hb dX0_given_28 (by omega) (by decide) ?_
        refine lv_iload_n hx hb dX0_given_106 rfl (lv_at hl 1 rfl) ?_
        exact e_i X h hr hlk dX0_given_107 ⟨rfl, trivial⟩
    · have hc40 : ¬ 13 < (t).toInt := i_nlt hc40 rfl rfl
      refine lv_iload_n hx hb dX0_given_18 rfl (lv_at hl 0 rfl) ?_
      refine lv_iload_n hx hb dX0_given_19 rfl (lv_at hl 2 rfl) ?_
      obtain ⟨z75, e73⟩ : ∃ z : Int32, z6 + q = z := ⟨_, rfl⟩
      refine o_iadd (z := z75) hx hb dX0_given_20 e73 ?_
      refine lv_goto (tgt := 25) hx hb dX0_given_21 (by decide) ?_
      refine lv_istore (lv' := [(4, .int z75), (3, .int z6), (0, .int k), (1, .int q), (2, .int t)]) hx hb dX0_given_25 hl (by decide) rfl (fun ls hl => ?_)
      refine lv_iload_n hx hb dX0_given_27 rfl (lv_at hl 2 rfl) ?_
      by_cases hs76 : 1 ≤ (k).toInt ∧ (k).toInt ≤ 5
      · have ha77 : k = 1 ∨ k = 2 ∨ k = 3 ∨ k = 4 ∨ k = 5 := by simp only [fa_eq]; have := hs76; simp only [show ((1 : Int32).toInt = 1) from rfl, show ((2 : Int32).toInt = 2) from rfl, show ((3 : Int32).toInt = 3) from rfl, show ((4 : Int32).toInt = 4) from rfl, show ((5 : Int32).toInt = 5) from rfl]; omega
        rcases ha77 with hq | hq | hq | hq | hq
        · refine lv_tableIn (tgt := 64) (off := 36) hx hb dX0_given_28 (by rw [hq]; decide) (by rw [hq]; decide) (by rw [hq]; decide) (by decide) ?_
          refine lv_iload hx hb dX0_given_64 (lv_at hl 0 rfl) ?_
          exact e_i X h hr hlk dX0_given_66 ⟨rfl, trivial⟩
        · refine lv_tableIn (tgt := 67) (off := 39) hx hb dX0_given_28 (by rw [hq]; decide) (by rw [hq]; decide) (by rw [hq]; decide) (by decide) ?_
          refine lv_iload hx hb dX0_given_67 (lv_at hl 0 rfl) ?_
          refine lv_iconst (v := 2) hx hb dX0_given_69 (by decide) ?_
          obtain ⟨z80, e78⟩ : ∃ z : Int32, z75 / (2 : Int32) = z := ⟨_, rfl⟩
          refine o_idiv (z := z80) hx hb dX0_given_70 (by decide) e78 ?_
          exact e_i X h hr hlk dX0_given_71 ⟨rfl, trivial⟩
        · refine lv_tableIn (tgt := 72) (off := 44) hx hb dX0_given_28 (by rw [hq]; decide) (by rw [hq]; decide) (by rw [hq]; decide) (by decide) ?_
          refine lv_iload_n hx hb dX0_given_72 rfl (lv_at hl 4 rfl) ?_
          refine lv_iconst (v := 3) hx hb dX0_given_73 (by decide) ?_
          obtain ⟨z83, e81, t82⟩ := x_rem (x := t) (y := (3 : Int32)) (a := (t).toInt) (b := 3) rfl rfl (by omega) (by omega)
          refine o_irem (z := z83) hx hb dX0_given_74 (by decide) e81 ?_
          refine lv_if_ne (tgt := 82) hx hb dX0_given_75 (by decide) (fun hc84 => ?_) (fun hc84 => ?_)
          · have hc84 : ¬ (z83).toInt = 0 := i_ne hc84 rfl rfl
            refine lv_iconst (v := 2) hx hb dX0_given_82 (by decide) ?_
            refine lv_iload_n hx hb dX0_given_83 rfl (lv_at hl 1 rfl) ?_
            obtain ⟨z87, e85⟩ : ∃ z : Int32, (2 : Int32) * z6 = z := ⟨_, rfl⟩
            refine o_imul (z := z87) hx hb dX0_given_84 e85 ?_
            exact e_i X h hr hlk dX0_given_85 ⟨rfl, trivial⟩
          · have hc84 : (z83).toInt = 0 := i_eq hc84 rfl rfl
            refine lv_iconst (v := 0) hx hb dX0_given_78 (by decide) ?_
            refine lv_goto (tgt := 85) hx hb dX0_given_79 (by decide) ?_
            exact e_i X h hr hlk dX0_given_85 ⟨rfl, trivial⟩
        · refine lv_tableIn (tgt := 86) (off := 58) hx hb dX0_given_28 (by rw [hq]; decide) (by rw [hq]; decide) (by rw [hq]; decide) (by decide) ?_
          refine lv_iload_n hx hb dX0_given_86 rfl (lv_at hl 1 rfl) ?_
          refine lv_bipush (v := 9) hx hb dX0_given_87 (by decide) ?_
          refine lv_iload_n hx hb dX0_given_89 rfl (lv_at hl 4 rfl) ?_
          refine lv_bipush (v := 12) hx hb dX0_given_90 (by decide) ?_
          obtain ⟨z90, e88, t89⟩ := x_sub (x := t) (y := (12 : Int32)) (a := (t).toInt) (b := 12) rfl rfl (by omega) (by omega)
          refine o_isub (z := z90) hx hb dX0_given_92 e88 ?_
          obtain ⟨z91, e92, t93, t94⟩ := x_abs (x := z90) (by omega)
          refine o_mabs X hl.1 kv_0 kv_1 kv_2 kv_3 ⟨Nat.le_of_ble_eq_true rfl, Nat.le_of_ble_eq_true rfl⟩ (Nat.le_of_ble_eq_true rfl) ⟨Nat.zero_le _, Nat.zero_le _⟩ e92 dX0_given_93 ?_
          have k101 : (9 : Int32).toInt = 9 := rfl
          obtain ⟨z96, e97, t98, t99, t100⟩ := x_min (9 : Int32) z91
          refine o_mmin X hl.1 kv_4 kv_5 kv_2 kv_6 ⟨Nat.le_of_ble_eq_true rfl, Nat.le_of_ble_eq_true rfl⟩ (Nat.le_of_ble_eq_true rfl) ⟨Nat.zero_le _, Nat.zero_le _⟩ e97 dX0_given_96 ?_
          obtain ⟨z104, e102⟩ : ∃ z : Int32, z6 + z96 = z := ⟨_, rfl⟩
          refine o_iadd (z := z104) hx hb dX0_given_99 e102 ?_
          exact e_i X h hr hlk dX0_given_100 ⟨rfl, trivial⟩
        · refine lv_tableIn (tgt := 101) (off := 73) hx hb dX0_given_28 (by rw [hq]; decide) (by rw [hq]; decide) (by rw [hq]; decide) (by decide) ?_
          refine lv_iload hx hb dX0_given_101 (lv_at hl 0 rfl) ?_
          refine lv_iconst (v := 3) hx hb dX0_given_103 (by decide) ?_
          obtain ⟨z107, e105⟩ : ∃ z : Int32, z75 + (3 : Int32) = z := ⟨_, rfl⟩
          refine o_iadd (z := z107) hx hb dX0_given_104 e105 ?_
          exact e_i X h hr hlk dX0_given_105 ⟨rfl, trivial⟩
      · refine lv_tableOut (tgt := 106) hx hb dX0_given_28 (by omega) (by decide) ?_
        refine lv_iload_n hx hb dX0_given_106 rfl (lv_at hl 1 rfl) ?_
        exact e_i X h hr hlk dX0_given_107 ⟨rfl, trivial⟩

set_option maxHeartbeats 4000000 in
set_option maxRecDepth 100000 in
theorem c_lost (l : Launch) (G : va_G) (cI cB cZ cO : ClassId) (ad : Nat → Nat) (w : Nat → va_E)   (k : Int32) (q : Int32) (t : Int32) (hl_q : 0 ≤ q.toInt) (hh_q : q.toInt ≤ 60)  : NI l G (tyq cI cB cZ cO) yX3_lost cX3_lost 6 (some .int) 0 0 74 ad w [.int k, .int q, .int t] (fun r w1 => w = w1 ∧ 0 ≤ r.toInt ∧ r.toInt ≤ 30) := by
  refine nk_i (own := "NoonShade$JarKinds") rfl (by decide) (Nat.le_of_ble_eq_true rfl) ?_
  intro p e s m below meth c ls X hD hN hr hlk h hl
  have hx := X.1.1
  have hb := X.1.2.1
  have hown := X.1.2.2.2.1
  have hts := X.1.2.2.2.2
  have hl : lv_has ls 6 [(0, .int k), (1, .int q), (2, .int t)] := hl
  refine lv_iconst (v := 1) hx hb dX3_lost_0 (by decide) ?_
  refine lv_istore_n (lv' := [(3, .int 1), (0, .int k), (1, .int q), (2, .int t)]) hx hb dX3_lost_1 rfl hl (by decide) rfl (fun ls hl => ?_)
  refine lv_iload_n hx hb dX3_lost_2 rfl (lv_at hl 0 rfl) ?_
  refine lv_iconst (v := 2) hx hb dX3_lost_3 (by decide) ?_
  refine o_iadd (z := 3) hx hb dX3_lost_4 rfl ?_
  refine lv_istore (lv' := [(4, .int 3), (3, .int 1), (0, .int k), (1, .int q), (2, .int t)]) hx hb dX3_lost_5 hl (by decide) rfl (fun ls hl => ?_)
  refine lv_iload_n hx hb dX3_lost_7 rfl (lv_at hl 4 rfl) ?_
  refine lv_bipush (v := 6) hx hb dX3_lost_8 (by decide) ?_
  refine lv_icmp_ge (tgt := 17) hx hb dX3_lost_10 (by decide) (fun hc1 => ?_) (fun hc1 => ?_)
  · have hc1 : 6 ≤ (t).toInt := i_le hc1 rfl rfl
    refine lv_iload_n hx hb dX3_lost_17 rfl (lv_at hl 1 rfl) ?_
    refine lv_istore (lv' := [(5, .int 1), (4, .int 3), (3, .int 1), (0, .int k), (1, .int q), (2, .int t)]) hx hb dX3_lost_18 hl (by decide) rfl (fun ls hl => ?_)
    refine lv_iload_n hx hb dX3_lost_20 rfl (lv_at hl 3 rfl) ?_
    by_cases hs2 : 1 ≤ (k).toInt ∧ (k).toInt ≤ 5
    · have ha3 : k = 1 ∨ k = 2 ∨ k = 3 ∨ k = 4 ∨ k = 5 := by simp only [fa_eq]; have := hs2; simp only [show ((1 : Int32).toInt = 1) from rfl, show ((2 : Int32).toInt = 2) from rfl, show ((3 : Int32).toInt = 3) from rfl, show ((4 : Int32).toInt = 4) from rfl, show ((5 : Int32).toInt = 5) from rfl]; omega
      rcases ha3 with hq | hq | hq | hq | hq
      · refine lv_tableIn (tgt := 56) (off := 35) hx hb dX3_lost_21 (by rw [hq]; decide) (by rw [hq]; decide) (by rw [hq]; decide) (by decide) ?_
        refine lv_iload hx hb dX3_lost_56 (lv_at hl 1 rfl) ?_
        exact e_i X h hr hlk dX3_lost_58 ⟨rfl, ⟨by decide, by decide⟩⟩
      · refine lv_tableIn (tgt := 59) (off := 38) hx hb dX3_lost_21 (by rw [hq]; decide) (by rw [hq]; decide) (by rw [hq]; decide) (by decide) ?_
        refine lv_iload hx hb dX3_lost_59 (lv_at hl 0 rfl) ?_
        exact e_i X h hr hlk dX3_lost_61 ⟨rfl, ⟨by decide, by decide⟩⟩
      · refine lv_tableIn (tgt := 62) (off := 41) hx hb dX3_lost_21 (by rw [hq]; decide) (by rw [hq]; decide) (by rw [hq]; decide) (by decide) ?_
        refine lv_iload hx hb dX3_lost_62 (lv_at hl 1 rfl) ?_
        refine lv_iload_n hx hb dX3_lost_64 rfl (lv_at hl 4 rfl) ?_
        refine lv_bipush (v := 10) hx hb dX3_lost_65 (by decide) ?_
        obtain ⟨z6, e4, t5⟩ := x_div (x := q) (y := (10 : Int32)) (a := (q).toInt) (b := 10) rfl rfl (by omega) (by omega)
        refine o_idiv (z := z6) hx hb dX3_lost_67 (by decide) e4 ?_
        obtain ⟨z9, e7, t8⟩ := x_add (x := (3 : Int32)) (y := z6) (a := 3) (b := (z6).toInt) rfl rfl (by omega) (by omega)
        refine o_iadd (z := z9) hx hb dX3_lost_68 e7 ?_
        exact e_i X h hr hlk dX3_lost_69 ⟨rfl, ⟨by omega, by omega⟩⟩
      · refine lv_tableIn (tgt := 70) (off := 49) hx hb dX3_lost_21 (by rw [hq]; decide) (by rw [hq]; decide) (by rw [hq]; decide) (by decide) ?_
        refine lv_iload_n hx hb dX3_lost_70 rfl (lv_at hl 4 rfl) ?_
        refine lv_iconst (v := 1) hx hb dX3_lost_71 (by decide) ?_
        obtain ⟨z12, e10, t11⟩ := x_add (x := q) (y := (1 : Int32)) (a := (q).toInt) (b := 1) rfl rfl (by omega) (by omega)
        refine o_iadd (z := z12) hx hb dX3_lost_72 e10 ?_
        refine lv_iconst (v := 2) hx hb dX3_lost_73 (by decide) ?_
        obtain ⟨z15, e13, t14⟩ := x_div (x := z12) (y := (2 : Int32)) (a := (z12).toInt) (b := 2) rfl rfl (by omega) (by omega)
        refine o_idiv (z := z15) hx hb dX3_lost_74 (by decide) e13 ?_
        exact e_i X h hr hlk dX3_lost_75 ⟨rfl, ⟨by omega, by omega⟩⟩
      · refine lv_tableIn (tgt := 76) (off := 55) hx hb dX3_lost_21 (by rw [hq]; decide) (by rw [hq]; decide) (by rw [hq]; decide) (by decide) ?_
        refine lv_iload_n hx hb dX3_lost_76 rfl (lv_at hl 4 rfl) ?_
        refine lv_bipush (v := 20) hx hb dX3_lost_77 (by decide) ?_
        refine lv_icmp_lt (tgt := 86) hx hb dX3_lost_79 (by decide) (fun hc16 => ?_) (fun hc16 => ?_)
        · have hc16 : (q).toInt < 20 := i_lt hc16 rfl rfl
          refine lv_iload hx hb dX3_lost_86 (lv_at hl 0 rfl) ?_
          exact e_i X h hr hlk dX3_lost_88 ⟨rfl, ⟨by decide, by decide⟩⟩
        · have hc16 : ¬ (q).toInt < 20 := i_nlt hc16 rfl rfl
          refine lv_iconst (v := 0) hx hb dX3_lost_82 (by decide) ?_
          refine lv_goto (tgt := 88) hx hb dX3_lost_83 (by decide) ?_
          exact e_i X h hr hlk dX3_lost_88 ⟨rfl, ⟨by decide, by decide⟩⟩
    · refine lv_tableOut (tgt := 89) hx hb dX3_lost_21 (by omega) (by decide) ?_
      refine lv_iload_n hx hb dX3_lost_89 rfl (lv_at hl 2 rfl) ?_
      exact e_i X h hr hlk dX3_lost_90 ⟨rfl, ⟨by decide, by decide⟩⟩
  · have hc1 : ¬ 6 ≤ (t).toInt := i_nle hc1 rfl rfl
    refine lv_iconst (v := 0) hx hb dX3_lost_13 (by decide) ?_
    refine lv_goto (tgt := 18) hx hb dX3_lost_14 (by decide) ?_
    refine lv_istore (lv' := [(5, .int 0), (4, .int 3), (3, .int 1), (0, .int k), (1, .int q), (2, .int t)]) hx hb dX3_lost_18 hl (by decide) rfl (fun ls hl => ?_)
    refine lv_iload_n hx hb dX3_lost_20 rfl (lv_at hl 3 rfl) ?_
    by_cases hs17 : 1 ≤ (k).toInt ∧ (k).toInt ≤ 5
    · have ha18 : k = 1 ∨ k = 2 ∨ k = 3 ∨ k = 4 ∨ k = 5 := by simp only [fa_eq]; have := hs17; simp only [show ((1 : Int32).toInt = 1) from rfl, show ((2 : Int32).toInt = 2) from rfl, show ((3 : Int32).toInt = 3) from rfl, show ((4 : Int32).toInt = 4) from rfl, show ((5 : Int32).toInt = 5) from rfl]; omega
      rcases ha18 with hq | hq | hq | hq | hq
      · refine lv_tableIn (tgt := 56) (off := 35) hx hb dX3_lost_21 (by rw [hq]; decide) (by rw [hq]; decide) (by rw [hq]; decide) (by decide) ?_
        refine lv_iload hx hb dX3_lost_56 (lv_at hl 1 rfl) ?_
        exact e_i X h hr hlk dX3_lost_58 ⟨rfl, ⟨by decide, by decide⟩⟩
      · refine lv_tableIn (tgt := 59) (off := 38) hx hb dX3_lost_21 (by rw [hq]; decide) (by rw [hq]; decide) (by rw [hq]; decide) (by decide) ?_
        refine lv_iload hx hb dX3_lost_59 (lv_at hl 0 rfl) ?_
        exact e_i X h hr hlk dX3_lost_61 ⟨rfl, ⟨by decide, by decide⟩⟩
      · refine lv_tableIn (tgt := 62) (off := 41) hx hb dX3_lost_21 (by rw [hq]; decide) (by rw [hq]; decide) (by rw [hq]; decide) (by decide) ?_
        refine lv_iload hx hb dX3_lost_62 (lv_at hl 1 rfl) ?_
        refine lv_iload_n hx hb dX3_lost_64 rfl (lv_at hl 4 rfl) ?_
        refine lv_bipush (v := 10) hx hb dX3_lost_65 (by decide) ?_
        obtain ⟨z21, e19, t20⟩ := x_div (x := q) (y := (10 : Int32)) (a := (q).toInt) (b := 10) rfl rfl (by omega) (by omega)
        refine o_idiv (z := z21) hx hb dX3_lost_67 (by decide) e19 ?_
        obtain ⟨z24, e22, t23⟩ := x_add (x := (3 : Int32)) (y := z21) (a := 3) (b := (z21).toInt) rfl rfl (by omega) (by omega)
        refine o_iadd (z := z24) hx hb dX3_lost_68 e22 ?_
        exact e_i X h hr hlk dX3_lost_69 ⟨rfl, ⟨by omega, by omega⟩⟩
      · refine lv_tableIn (tgt := 70) (off := 49) hx hb dX3_lost_21 (by rw [hq]; decide) (by rw [hq]; decide) (by rw [hq]; decide) (by decide) ?_
        refine lv_iload_n hx hb dX3_lost_70 rfl (lv_at hl 4 rfl) ?_
        refine lv_iconst (v := 1) hx hb dX3_lost_71 (by decide) ?_
        obtain ⟨z27, e25, t26⟩ := x_add (x := q) (y := (1 : Int32)) (a := (q).toInt) (b := 1) rfl rfl (by omega) (by omega)
        refine o_iadd (z := z27) hx hb dX3_lost_72 e25 ?_
        refine lv_iconst (v := 2) hx hb dX3_lost_73 (by decide) ?_
        obtain ⟨z30, e28, t29⟩ := x_div (x := z27) (y := (2 : Int32)) (a := (z27).toInt) (b := 2) rfl rfl (by omega) (by omega)
        refine o_idiv (z := z30) hx hb dX3_lost_74 (by decide) e28 ?_
        exact e_i X h hr hlk dX3_lost_75 ⟨rfl, ⟨by omega, by omega⟩⟩
      · refine lv_tableIn (tgt := 76) (off := 55) hx hb dX3_lost_21 (by rw [hq]; decide) (by rw [hq]; decide) (by rw [hq]; decide) (by decide) ?_
        refine lv_iload_n hx hb dX3_lost_76 rfl (lv_at hl 4 rfl) ?_
        refine lv_bipush (v := 20) hx hb dX3_lost_77 (by decide) ?_
        refine lv_icmp_lt (tgt := 86) hx hb dX3_lost_79 (by decide) (fun hc31 => ?_) (fun hc31 => ?_)
        · have hc31 : (q).toInt < 20 := i_lt hc31 rfl rfl
          refine lv_iload hx hb dX3_lost_86 (lv_at hl 0 rfl) ?_
          exact e_i X h hr hlk dX3_lost_88 ⟨rfl, ⟨by decide, by decide⟩⟩
        · have hc31 : ¬ (q).toInt < 20 := i_nlt hc31 rfl rfl
          refine lv_iconst (v := 0) hx hb dX3_lost_82 (by decide) ?_
          refine lv_goto (tgt := 88) hx hb dX3_lost_83 (by decide) ?_
          exact e_i X h hr hlk dX3_lost_88 ⟨rfl, ⟨by decide, by decide⟩⟩
    · refine lv_tableOut (tgt := 89) hx hb dX3_lost_21 (by omega) (by decide) ?_
      refine lv_iload_n hx hb dX3_lost_89 rfl (lv_at hl 2 rfl) ?_
      exact e_i X h hr hlk dX3_lost_90 ⟨rfl, ⟨by decide, by decide⟩⟩

set_option maxHeartbeats 4000000 in
set_option maxRecDepth 100000 in
theorem c_lostU (l : Launch) (G : va_G) (cI cB cZ cO : ClassId) (ad : Nat → Nat) (w : Nat → va_E)   (k : Int32) (q : Int32) (t : Int32)   : NI l G (tyq cI cB cZ cO) yX3_lost cX3_lost 6 (some .int) 0 0 74 ad w [.int k, .int q, .int t] (fun r w1 => w = w1 ∧ True) := by
  refine nk_i (own := "NoonShade$JarKinds") rfl (by decide) (Nat.le_of_ble_eq_true rfl) ?_
  intro p e s m below meth c ls X hD hN hr hlk h hl
  have hx := X.1.1
  have hb := X.1.2.1
  have hown := X.1.2.2.2.1
  have hts := X.1.2.2.2.2
  have hl : lv_has ls 6 [(0, .int k), (1, .int q), (2, .int t)] := hl
  refine lv_iconst (v := 1) hx hb dX3_lost_0 (by decide) ?_
  refine lv_istore_n (lv' := [(3, .int 1), (0, .int k), (1, .int q), (2, .int t)]) hx hb dX3_lost_1 rfl hl (by decide) rfl (fun ls hl => ?_)
  refine lv_iload_n hx hb dX3_lost_2 rfl (lv_at hl 0 rfl) ?_
  refine lv_iconst (v := 2) hx hb dX3_lost_3 (by decide) ?_
  refine o_iadd (z := 3) hx hb dX3_lost_4 rfl ?_
  refine lv_istore (lv' := [(4, .int 3), (3, .int 1), (0, .int k), (1, .int q), (2, .int t)]) hx hb dX3_lost_5 hl (by decide) rfl (fun ls hl => ?_)
  refine lv_iload_n hx hb dX3_lost_7 rfl (lv_at hl 4 rfl) ?_
  refine lv_bipush (v := 6) hx hb dX3_lost_8 (by decide) ?_
  refine lv_icmp_ge (tgt := 17) hx hb dX3_lost_10 (by decide) (fun hc1 => ?_) (fun hc1 => ?_)
  · have hc1 : 6 ≤ (t).toInt := i_le hc1 rfl rfl
    refine lv_iload_n hx hb dX3_lost_17 rfl (lv_at hl 1 rfl) ?_
    refine lv_istore (lv' := [(5, .int 1), (4, .int 3), (3, .int 1), (0, .int k), (1, .int q), (2, .int t)]) hx hb dX3_lost_18 hl (by decide) rfl (fun ls hl => ?_)
    refine lv_iload_n hx hb dX3_lost_20 rfl (lv_at hl 3 rfl) ?_
    by_cases hs2 : 1 ≤ (k).toInt ∧ (k).toInt ≤ 5
    · have ha3 : k = 1 ∨ k = 2 ∨ k = 3 ∨ k = 4 ∨ k = 5 := by simp only [fa_eq]; have := hs2; simp only [show ((1 : Int32).toInt = 1) from rfl, show ((2 : Int32).toInt = 2) from rfl, show ((3 : Int32).toInt = 3) from rfl, show ((4 : Int32).toInt = 4) from rfl, show ((5 : Int32).toInt = 5) from rfl]; omega
      rcases ha3 with hq | hq | hq | hq | hq
      · refine lv_tableIn (tgt := 56) (off := 35) hx hb dX3_lost_21 (by rw [hq]; decide) (by rw [hq]; decide) (by rw [hq]; decide) (by decide) ?_
        refine lv_iload hx hb dX3_lost_56 (lv_at hl 1 rfl) ?_
        exact e_i X h hr hlk dX3_lost_58 ⟨rfl, trivial⟩
      · refine lv_tableIn (tgt := 59) (off := 38) hx hb dX3_lost_21 (by rw [hq]; decide) (by rw [hq]; decide) (by rw [hq]; decide) (by decide) ?_
        refine lv_iload hx hb dX3_lost_59 (lv_at hl 0 rfl) ?_
        exact e_i X h hr hlk dX3_lost_61 ⟨rfl, trivial⟩
      · refine lv_tableIn (tgt := 62) (off := 41) hx hb dX3_lost_21 (by rw [hq]; decide) (by rw [hq]; decide) (by rw [hq]; decide) (by decide) ?_
        refine lv_iload hx hb dX3_lost_62 (lv_at hl 1 rfl) ?_
        refine lv_iload_n hx hb dX3_lost_64 rfl (lv_at hl 4 rfl) ?_
        refine lv_bipush (v := 10) hx hb dX3_lost_65 (by decide) ?_
        obtain ⟨z6, e4⟩ : ∃ z : Int32, q / (10 : Int32) = z := ⟨_, rfl⟩
        refine o_idiv (z := z6) hx hb dX3_lost_67 (by decide) e4 ?_
        obtain ⟨z9, e7⟩ : ∃ z : Int32, (3 : Int32) + z6 = z := ⟨_, rfl⟩
        refine o_iadd (z := z9) hx hb dX3_lost_68 e7 ?_
        exact e_i X h hr hlk dX3_lost_69 ⟨rfl, trivial⟩
      · refine lv_tableIn (tgt := 70) (off := 49) hx hb dX3_lost_21 (by rw [hq]; decide) (by rw [hq]; decide) (by rw [hq]; decide) (by decide) ?_
        refine lv_iload_n hx hb dX3_lost_70 rfl (lv_at hl 4 rfl) ?_
        refine lv_iconst (v := 1) hx hb dX3_lost_71 (by decide) ?_
        obtain ⟨z12, e10⟩ : ∃ z : Int32, q + (1 : Int32) = z := ⟨_, rfl⟩
        refine o_iadd (z := z12) hx hb dX3_lost_72 e10 ?_
        refine lv_iconst (v := 2) hx hb dX3_lost_73 (by decide) ?_
        obtain ⟨z15, e13⟩ : ∃ z : Int32, z12 / (2 : Int32) = z := ⟨_, rfl⟩
        refine o_idiv (z := z15) hx hb dX3_lost_74 (by decide) e13 ?_
        exact e_i X h hr hlk dX3_lost_75 ⟨rfl, trivial⟩
      · refine lv_tableIn (tgt := 76) (off := 55) hx hb dX3_lost_21 (by rw [hq]; decide) (by rw [hq]; decide) (by rw [hq]; decide) (by decide) ?_
        refine lv_iload_n hx hb dX3_lost_76 rfl (lv_at hl 4 rfl) ?_
        refine lv_bipush (v := 20) hx hb dX3_lost_77 (by decide) ?_
        refine lv_icmp_lt (tgt := 86) hx hb dX3_lost_79 (by decide) (fun hc16 => ?_) (fun hc16 => ?_)
        · have hc16 : (q).toInt < 20 := i_lt hc16 rfl rfl
          refine lv_iload hx hb dX3_lost_86 (lv_at hl 0 rfl) ?_
          exact e_i X h hr hlk dX3_lost_88 ⟨rfl, trivial⟩
        · have hc16 : ¬ (q).toInt < 20 := i_nlt hc16 rfl rfl
          refine lv_iconst (v := 0) hx hb dX3_lost_82 (by decide) ?_
          refine lv_goto (tgt := 88) hx hb dX3_lost_83 (by decide) ?_
          exact e_i X h hr hlk dX3_lost_88 ⟨rfl, trivial⟩
    · refine lv_tableOut (tgt := 89) hx hb dX3_lost_21 (by omega) (by decide) ?_
      refine lv_iload_n hx hb dX3_lost_89 rfl (lv_at hl 2 rfl) ?_
      exact e_i X h hr hlk dX3_lost_90 ⟨rfl, trivial⟩
  · have hc1 : ¬ 6 ≤ (t).toInt := i_nle hc1 rfl rfl
    refine lv_iconst (v := 0) hx hb dX3_lost_13 (by decide) ?_
    refine lv_goto (tgt := 18) hx hb dX3_lost_14 (by decide) ?_
    refine lv_istore (lv' := [(5, .int 0), (4, .int 3), (3, .int 1), (0, .int k), (1, .int q), (2, .int t)]) hx hb dX3_lost_18 hl (by decide) rfl (fun ls hl => ?_)
    refine lv_iload_n hx hb dX3_lost_20 rfl (lv_at hl 3 rfl) ?_
    by_cases hs17 : 1 ≤ (k).toInt ∧ (k).toInt ≤ 5
    · have ha18 : k = 1 ∨ k = 2 ∨ k = 3 ∨ k = 4 ∨ k = 5 := by simp only [fa_eq]; have := hs17; simp only [show ((1 : Int32).toInt = 1) from rfl, show ((2 : Int32).toInt = 2) from rfl, show ((3 : Int32).toInt = 3) from rfl, show ((4 : Int32).toInt = 4) from rfl, show ((5 : Int32).toInt = 5) from rfl]; omega
      rcases ha18 with hq | hq | hq | hq | hq
      · refine lv_tableIn (tgt := 56) (off := 35) hx hb dX3_lost_21 (by rw [hq]; decide) (by rw [hq]; decide) (by rw [hq]; decide) (by decide) ?_
        refine lv_iload hx hb dX3_lost_56 (lv_at hl 1 rfl) ?_
        exact e_i X h hr hlk dX3_lost_58 ⟨rfl, trivial⟩
      · refine lv_tableIn (tgt := 59) (off := 38) hx hb dX3_lost_21 (by rw [hq]; decide) (by rw [hq]; decide) (by rw [hq]; decide) (by decide) ?_
        refine lv_iload hx hb dX3_lost_59 (lv_at hl 0 rfl) ?_
        exact e_i X h hr hlk dX3_lost_61 ⟨rfl, trivial⟩
      · refine lv_tableIn (tgt := 62) (off := 41) hx hb dX3_lost_21 (by rw [hq]; decide) (by rw [hq]; decide) (by rw [hq]; decide) (by decide) ?_
        refine lv_iload hx hb dX3_lost_62 (lv_at hl 1 rfl) ?_
        refine lv_iload_n hx hb dX3_lost_64 rfl (lv_at hl 4 rfl) ?_
        refine lv_bipush (v := 10) hx hb dX3_lost_65 (by decide) ?_
        obtain ⟨z21, e19⟩ : ∃ z : Int32, q / (10 : Int32) = z := ⟨_, rfl⟩
        refine o_idiv (z := z21) hx hb dX3_lost_67 (by decide) e19 ?_
        obtain ⟨z24, e22⟩ : ∃ z : Int32, (3 : Int32) + z21 = z := ⟨_, rfl⟩
        refine o_iadd (z := z24) hx hb dX3_lost_68 e22 ?_
        exact e_i X h hr hlk dX3_lost_69 ⟨rfl, trivial⟩
      · refine lv_tableIn (tgt := 70) (off := 49) hx hb dX3_lost_21 (by rw [hq]; decide) (by rw [hq]; decide) (by rw [hq]; decide) (by decide) ?_
        refine lv_iload_n hx hb dX3_lost_70 rfl (lv_at hl 4 rfl) ?_
        refine lv_iconst (v := 1) hx hb dX3_lost_71 (by decide) ?_
        obtain ⟨z27, e25⟩ : ∃ z : Int32, q + (1 : Int32) = z := ⟨_, rfl⟩
        refine o_iadd (z := z27) hx hb dX3_lost_72 e25 ?_
        refine lv_iconst (v := 2) hx hb dX3_lost_73 (by decide) ?_
        obtain ⟨z30, e28⟩ : ∃ z : Int32, z27 / (2 : Int32) = z := ⟨_, rfl⟩
        refine o_idiv (z := z30) hx hb dX3_lost_74 (by decide) e28 ?_
        exact e_i X h hr hlk dX3_lost_75 ⟨rfl, trivial⟩
      · refine lv_tableIn (tgt := 76) (off := 55) hx hb dX3_lost_21 (by rw [hq]; decide) (by rw [hq]; decide) (by rw [hq]; decide) (by decide) ?_
        refine lv_iload_n hx hb dX3_lost_76 rfl (lv_at hl 4 rfl) ?_
        refine lv_bipush (v := 20) hx hb dX3_lost_77 (by decide) ?_
        refine lv_icmp_lt (tgt := 86) hx hb dX3_lost_79 (by decide) (fun hc31 => ?_) (fun hc31 => ?_)
        · have hc31 : (q).toInt < 20 := i_lt hc31 rfl rfl
          refine lv_iload hx hb dX3_lost_86 (lv_at hl 0 rfl) ?_
          exact e_i X h hr hlk dX3_lost_88 ⟨rfl, trivial⟩
        · have hc31 : ¬ (q).toInt < 20 := i_nlt hc31 rfl rfl
          refine lv_iconst (v := 0) hx hb dX3_lost_82 (by decide) ?_
          refine lv_goto (tgt := 88) hx hb dX3_lost_83 (by decide) ?_
          exact e_i X h hr hlk dX3_lost_88 ⟨rfl, trivial⟩
    · refine lv_tableOut (tgt := 89) hx hb dX3_lost_21 (by omega) (by decide) ?_
      refine lv_iload_n hx hb dX3_lost_89 rfl (lv_at hl 2 rfl) ?_
      exact e_i X h hr hlk dX3_lost_90 ⟨rfl, trivial⟩

set_option maxHeartbeats 4000000 in
set_option maxRecDepth 100000 in
theorem c_kept (l : Launch) (G : va_G) (cI cB cZ cO : ClassId) (ad : Nat → Nat) (w : Nat → va_E)   (k : Int32) (q : Int32) (t : Int32) (hl_q : 0 ≤ q.toInt) (hh_q : q.toInt ≤ 60)  : NI l G (tyq cI cB cZ cO) yX3_kept cX3_kept 3 (some .int) 1 25 74 ad w [.int k, .int q, .int t] (fun r w1 => w = w1 ∧ 0 ≤ r.toInt ∧ r.toInt ≤ q.toInt) := by
  refine nk_i (own := "NoonShade$JarKinds") rfl (by decide) (Nat.le_of_ble_eq_true rfl) ?_
  intro p e s m below meth c ls X hD hN hr hlk h hl
  have hx := X.1.1
  have hb := X.1.2.1
  have hown := X.1.2.2.2.1
  have hts := X.1.2.2.2.2
  have hl : lv_has ls 3 [(0, .int k), (1, .int q), (2, .int t)] := hl
  refine lv_iconst (v := 0) hx hb dX3_kept_0 (by decide) ?_
  refine lv_iload_n hx hb dX3_kept_1 rfl (lv_at hl 1 rfl) ?_
  refine lv_iload_n hx hb dX3_kept_2 rfl (lv_at hl 0 rfl) ?_
  refine lv_iload_n hx hb dX3_kept_3 rfl (lv_at hl 1 rfl) ?_
  refine lv_iload_n hx hb dX3_kept_4 rfl (lv_at hl 2 rfl) ?_
  refine lv_bipush (v := 24) hx hb dX3_kept_5 (by decide) ?_
  obtain ⟨z3, e1, t2, t2b⟩ := x_rem24 t
  refine o_irem (z := z3) hx hb dX3_kept_7 (by decide) e1 ?_
  refine n_Si (na := 3) (As := [.int k, .int q, .int z3]) (rest := [.int q, .int 0]) X hD hN h (c_lost l G cI cB cZ cO ad w   k q z3 (by omega) (by omega) ) ⟨kv_7, kv_8, kv_9, kv_10⟩ ⟨by decide, by decide, by decide⟩ ⟨Nat.le_of_ble_eq_true rfl, Nat.le_of_ble_eq_true rfl⟩ ⟨Nat.zero_le _, Nat.zero_le _⟩ rfl hl.1 rfl (Nat.le_of_ble_eq_true rfl) dX3_kept_8 (fun r4 w5 H locs hp6 h => ?_)
  obtain ⟨rfl, hr7⟩ := hp6
  obtain ⟨h8, h9⟩ := hr7
  obtain ⟨z12, e10, t11⟩ := x_sub (x := q) (y := r4) (a := (q).toInt) (b := (r4).toInt) rfl rfl (by omega) (by omega)
  refine o_isub (z := z12) hx hb dX3_kept_11 e10 ?_
  have k18 : (0 : Int32).toInt = 0 := rfl
  obtain ⟨z13, e14, t15, t16, t17⟩ := x_max (0 : Int32) z12
  refine o_mmax X hl.1 kv_11 kv_12 kv_2 kv_13 ⟨Nat.le_of_ble_eq_true rfl, Nat.le_of_ble_eq_true rfl⟩ (Nat.le_of_ble_eq_true rfl) ⟨Nat.zero_le _, Nat.zero_le _⟩ e14 dX3_kept_12 ?_
  exact e_i X h hr hlk dX3_kept_15 ⟨rfl, ⟨by omega, by omega⟩⟩

set_option maxHeartbeats 4000000 in
set_option maxRecDepth 100000 in
theorem c_keptBehind (l : Launch) (G : va_G) (cI cB cZ cO : ClassId) (ad : Nat → Nat) (w : Nat → va_E)   (k : Int32) (q : Int32) (t : Int32) (n : Int32) (hl_q : 0 ≤ q.toInt) (hh_q : q.toInt ≤ 60) (hl_n : 0 ≤ n.toInt) (hh_n : n.toInt ≤ 60)  : NI l G (tyq cI cB cZ cO) yX3_keptBehind cX3_keptBehind 6 (some .int) 2 47 74 ad w [.int k, .int q, .int t, .int n] (fun r w1 => w = w1 ∧ 0 ≤ r.toInt ∧ r.toInt ≤ 60) := by
  refine nk_i (own := "NoonShade$JarKinds") rfl (by decide) (Nat.le_of_ble_eq_true rfl) ?_
  intro p e s m below meth c ls X hD hN hr hlk h hl
  have hx := X.1.1
  have hb := X.1.2.1
  have hown := X.1.2.2.2.1
  have hts := X.1.2.2.2.2
  have hl : lv_has ls 6 [(0, .int k), (1, .int q), (2, .int t), (3, .int n)] := hl
  refine lv_iload_n hx hb dX3_keptBehind_0 rfl (lv_at hl 1 rfl) ?_
  refine lv_istore (lv' := [(4, .int q), (0, .int k), (1, .int q), (2, .int t), (3, .int n)]) hx hb dX3_keptBehind_1 hl (by decide) rfl (fun ls hl => ?_)
  refine lv_iconst (v := 0) hx hb dX3_keptBehind_3 (by decide) ?_
  refine lv_istore (lv' := [(5, .int 0), (4, .int q), (0, .int k), (1, .int q), (2, .int t), (3, .int n)]) hx hb dX3_keptBehind_4 hl (by decide) rfl (fun ls hl => ?_)
  have hloop3 : ∀ (d4 : Nat) (L1 : Int32) (L2 : Int32) (H : Heap) (locs : List Loc) (ls : Array Slot), 0 ≤ L2.toInt → L2.toInt ≤ 60 → 0 ≤ L1.toInt → L1.toInt ≤ 60 → 60 - L1.toInt < (d4 : Int) → St G 74 ad (wA 74 ad s.heap.size) s.heap w H locs → lv_has ls 6 [(5, .int L1), (4, .int L2), (0, .int k), (1, .int q), (2, .int t), (3, .int n)] → W p l e { frames := 2, cells := 0, slots := 0, locals := 47 } s m [.int k, .int q, .int t, .int n].toArray below meth c H locs 0 0 (MQ below (va_Qi (fun r w1 => w = w1 ∧ 0 ≤ r.toInt ∧ r.toInt ≤ 60) (Aft G 74 ad) (wA 74 ad s.heap.size)) [.int k, .int q, .int t, .int n].toArray s 0 0 (wA 74 ad s.heap.size)) (F0 m 6 ls []) := by
    intro d4
    induction d4 with
    | zero => intro L1 L2 H locs ls hi7 hi8 hi9 hi10 hm6 h hl; exfalso; omega
    | succ d4 ih5 =>
      intro L1 L2 H locs ls hi7 hi8 hi9 hi10 hm6 h hl
      refine lv_iload hx hb dX3_keptBehind_6 (lv_at hl 0 rfl) ?_
      refine lv_iload_n hx hb dX3_keptBehind_8 rfl (lv_at hl 5 rfl) ?_
      refine lv_icmp_ge (tgt := 30) hx hb dX3_keptBehind_9 (by decide) (fun hc14 => ?_) (fun hc14 => ?_)
      · have hc14 : (n).toInt ≤ (L1).toInt := i_le hc14 rfl rfl
        refine lv_iload hx hb dX3_keptBehind_30 (lv_at hl 1 rfl) ?_
        exact e_i X h hr hlk dX3_keptBehind_32 ⟨rfl, ⟨by omega, by omega⟩⟩
      · have hc14 : ¬ (n).toInt ≤ (L1).toInt := i_nle hc14 rfl rfl
        refine lv_iload_n hx hb dX3_keptBehind_12 rfl (lv_at hl 2 rfl) ?_
        refine lv_iload hx hb dX3_keptBehind_13 (lv_at hl 1 rfl) ?_
        refine lv_iload_n hx hb dX3_keptBehind_15 rfl (lv_at hl 4 rfl) ?_
        refine lv_iload hx hb dX3_keptBehind_16 (lv_at hl 0 rfl) ?_
        obtain ⟨z17, e15⟩ : ∃ z : Int32, t + L1 = z := ⟨_, rfl⟩
        refine o_iadd (z := z17) hx hb dX3_keptBehind_18 e15 ?_
        refine n_Si (na := 3) (As := [.int k, .int L2, .int z17]) (rest := []) X hD hN h (c_kept l G cI cB cZ cO ad w   k L2 z17 (by omega) (by omega) ) ⟨kv_14, kv_15, kv_9, kv_16⟩ ⟨by decide, by decide, by decide⟩ ⟨Nat.le_of_ble_eq_true rfl, Nat.le_of_ble_eq_true rfl⟩ ⟨Nat.zero_le _, Nat.zero_le _⟩ rfl hl.1 rfl (Nat.le_of_ble_eq_true rfl) dX3_keptBehind_19 (fun r18 w19 H locs hp20 h => ?_)
        obtain ⟨rfl, hr21⟩ := hp20
        obtain ⟨h22, h23⟩ := hr21
        refine lv_istore (lv' := [(4, .int r18), (5, .int L1), (0, .int k), (1, .int q), (2, .int t), (3, .int n)]) hx hb dX3_keptBehind_22 hl (by decide) rfl (fun ls hl => ?_)
        obtain ⟨z24, e25, t26⟩ := x_add (x := L1) (y := 1) (a := L1.toInt) (b := 1) rfl rfl (by omega) (by omega)
        refine lv_iinc (v := z24) (lv' := [(5, .int z24), (4, .int r18), (0, .int k), (1, .int q), (2, .int t), (3, .int n)]) hx hb dX3_keptBehind_24 hl (k := 1) rfl e25 (by decide) rfl (fun ls hl => ?_)
        refine lv_goto (tgt := 6) hx hb dX3_keptBehind_27 (by decide) ?_
        exact ih5  z24 r18  _ _ _ (by omega) (by omega) (by omega) (by omega)  (by omega) h (lv_sub hl [0, 1, 2, 3, 4, 5] rfl)
  exact hloop3 61 (0 : Int32) q  _ _ _ (by have q0 : (0 : Int32).toInt = 0 := rfl; omega) (by have q0 : (0 : Int32).toInt = 0 := rfl; omega) (by have q0 : (0 : Int32).toInt = 0 := rfl; omega) (by have q0 : (0 : Int32).toInt = 0 := rfl; omega)  (by have q0 : (0 : Int32).toInt = 0 := rfl; omega) h (lv_sub hl [0, 1, 2, 3, 4, 5] rfl)
