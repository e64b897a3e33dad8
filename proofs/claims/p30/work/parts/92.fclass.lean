set_option maxHeartbeats 4000000 in
set_option maxRecDepth 100000 in
theorem c_F_given (l : Launch) (G : va_G) (cI cB cZ cO : ClassId) (ad : Nat → Nat) (w : Nat → va_E)   (k : Int32) (q : Int32) (t : Int32) (hl_q : 0 ≤ q.toInt) (hh_q : q.toInt ≤ 9) (hl_t : (-23) ≤ t.toInt) (hh_t : t.toInt ≤ 23)  : NI l G (tyq cI cB cZ cO) yX0_given cX0_given 5 (some .int) 1 21 74 ad w [.int k, .int q, .int t] (fun r w1 => w = w1 ∧ givF k q t = r ∧ 0 ≤ r.toInt ∧ r.toInt ≤ 30) := by
  refine nk_i (own := "NoonShade$CasterKinds") rfl (by decide) (Nat.le_of_ble_eq_true rfl) ?_
  intro p e s m below meth c ls X hD hN hr hlk h hl
  have hx := X.1.1
  have hb := X.1.2.1
  have hown := X.1.2.2.2.1
  have hts := X.1.2.2.2.2
  have hl : lv_has ls 5 [(0, .int k), (1, .int q), (2, .int t)] := hl
  refine lv_iload_n hx hb dX0_given_0 rfl (lv_at hl 1 rfl) ?_
  refine lv_iconst (v := 1) hx hb dX0_given_1 (by decide) ?_
  obtain ⟨z3, e1, t2⟩ := x_add (x := q) (y := (1 : Int32)) (a := (q).toInt) (b := 1) rfl rfl (by omega) (by omega)
  have n4 : z3.toNatClampNeg = q.toNatClampNeg + 1 := cl_addn (x := q) (y := (1 : Int32)) rfl rfl t2 (by omega) (by decide)
  refine o_iadd (z := z3) hx hb dX0_given_2 e1 ?_
  refine lv_iconst (v := 2) hx hb dX0_given_3 (by decide) ?_
  obtain ⟨z7, e5, t6⟩ := x_div (x := z3) (y := (2 : Int32)) (a := (z3).toInt) (b := 2) rfl rfl (by omega) (by omega)
  refine o_idiv (z := z7) hx hb dX0_given_4 (by decide) e5 ?_
  refine lv_istore_n (lv' := [(3, .int z7), (0, .int k), (1, .int q), (2, .int t)]) hx hb dX0_given_5 rfl hl (by decide) rfl (fun ls hl => ?_)
  refine lv_iload_n hx hb dX0_given_6 rfl (lv_at hl 3 rfl) ?_
  refine lv_bipush (v := 11) hx hb dX0_given_7 (by decide) ?_
  refine lv_icmp_lt (tgt := 24) hx hb dX0_given_9 (by decide) (fun hc8 => ?_) (fun hc8 => ?_)
  · have hc8 : (t).toInt < 11 := i_lt hc8 rfl rfl
    refine lv_iload_n hx hb dX0_given_24 rfl (lv_at hl 0 rfl) ?_
    refine lv_istore (lv' := [(4, .int z7), (3, .int z7), (0, .int k), (1, .int q), (2, .int t)]) hx hb dX0_given_25 hl (by decide) rfl (fun ls hl => ?_)
    refine lv_iload_n hx hb dX0_given_27 rfl (lv_at hl 2 rfl) ?_
    by_cases hs9 : 1 ≤ (k).toInt ∧ (k).toInt ≤ 5
    · have ha10 : k = 1 ∨ k = 2 ∨ k = 3 ∨ k = 4 ∨ k = 5 := by simp only [fa_eq]; have := hs9; simp only [show ((1 : Int32).toInt = 1) from rfl, show ((2 : Int32).toInt = 2) from rfl, show ((3 : Int32).toInt = 3) from rfl, show ((4 : Int32).toInt = 4) from rfl, show ((5 : Int32).toInt = 5) from rfl]; omega
      rcases ha10 with hq | hq | hq | hq | hq
      · refine lv_tableIn (tgt := 64) (off := 36) hx hb dX0_given_28 (by rw [hq]; decide) (by rw [hq]; decide) (by rw [hq]; decide) (by decide) ?_
        refine lv_iload hx hb dX0_given_64 (lv_at hl 0 rfl) ?_
        have hret11 : givF k q t = z7 := by
          have hsw : k.toInt = 1 := by rw [hq]; rfl
          clear hq
          subst e5; subst e1
          unfold givF
          rw [if_pos (by omega)]
          (try unfold treF)
          (try unfold frmF)
          (try unfold walF)
          all_goals ((repeat' split) <;> first | rfl | (exfalso; omega))
        exact e_i X h hr hlk dX0_given_66 ⟨rfl, ⟨hret11, by omega, by omega⟩⟩
      · refine lv_tableIn (tgt := 67) (off := 39) hx hb dX0_given_28 (by rw [hq]; decide) (by rw [hq]; decide) (by rw [hq]; decide) (by decide) ?_
        refine lv_iload hx hb dX0_given_67 (lv_at hl 0 rfl) ?_
        refine lv_iconst (v := 2) hx hb dX0_given_69 (by decide) ?_
        obtain ⟨z14, e12, t13⟩ := x_div (x := z7) (y := (2 : Int32)) (a := (z7).toInt) (b := 2) rfl rfl (by omega) (by omega)
        refine o_idiv (z := z14) hx hb dX0_given_70 (by decide) e12 ?_
        have hret15 : givF k q t = z14 := by
          have hsw : k.toInt = 2 := by rw [hq]; rfl
          clear hq
          subst e12; subst e5; subst e1
          unfold givF
          rw [if_neg (by omega), if_pos (by omega)]
          (try unfold treF)
          (try unfold frmF)
          (try unfold walF)
          all_goals ((repeat' split) <;> first | rfl | (exfalso; omega))
        exact e_i X h hr hlk dX0_given_71 ⟨rfl, ⟨hret15, by omega, by omega⟩⟩
      · refine lv_tableIn (tgt := 72) (off := 44) hx hb dX0_given_28 (by rw [hq]; decide) (by rw [hq]; decide) (by rw [hq]; decide) (by decide) ?_
        refine lv_iload_n hx hb dX0_given_72 rfl (lv_at hl 4 rfl) ?_
        refine lv_iconst (v := 3) hx hb dX0_given_73 (by decide) ?_
        obtain ⟨z18, e16⟩ : ∃ z : Int32, t - t / (3 : Int32) * (3 : Int32) = z := ⟨_, rfl⟩
        refine o_irem (z := z18) hx hb dX0_given_74 (by decide) e16 ?_
        refine lv_if_ne (tgt := 82) hx hb dX0_given_75 (by decide) (fun hc19 => ?_) (fun hc19 => ?_)
        · have hc19 : ¬ (z18).toInt = 0 := i_ne hc19 rfl rfl
          refine lv_iconst (v := 2) hx hb dX0_given_82 (by decide) ?_
          refine lv_iload_n hx hb dX0_given_83 rfl (lv_at hl 1 rfl) ?_
          obtain ⟨z22, e20, t21⟩ := x_mul (x := (2 : Int32)) (y := z7) (a := 2) (b := (z7).toInt) rfl rfl (by omega) (by omega)
          refine o_imul (z := z22) hx hb dX0_given_84 e20 ?_
          have hret23 : givF k q t = z22 := by
            have hsw : k.toInt = 3 := by rw [hq]; rfl
            clear hq
            subst e20; subst e16; subst e5; subst e1
            unfold givF
            rw [if_neg (by omega), if_neg (by omega), if_pos (by omega)]
            (try unfold treF)
            (try unfold frmF)
            (try unfold walF)
            all_goals ((repeat' split) <;> first | rfl | (exfalso; omega))
          exact e_i X h hr hlk dX0_given_85 ⟨rfl, ⟨hret23, by omega, by omega⟩⟩
        · have hc19 : (z18).toInt = 0 := i_eq hc19 rfl rfl
          refine lv_iconst (v := 0) hx hb dX0_given_78 (by decide) ?_
          refine lv_goto (tgt := 85) hx hb dX0_given_79 (by decide) ?_
          have hret24 : givF k q t = (0 : Int32) := by
            have hsw : k.toInt = 3 := by rw [hq]; rfl
            clear hq
            subst e16; subst e5; subst e1
            unfold givF
            rw [if_neg (by omega), if_neg (by omega), if_pos (by omega)]
            (try unfold treF)
            (try unfold frmF)
            (try unfold walF)
            all_goals ((repeat' split) <;> first | rfl | (exfalso; omega))
          exact e_i X h hr hlk dX0_given_85 ⟨rfl, ⟨hret24, by decide, by decide⟩⟩
      · refine lv_tableIn (tgt := 86) (off := 58) hx hb dX0_given_28 (by rw [hq]; decide) (by rw [hq]; decide) (by rw [hq]; decide) (by decide) ?_
        refine lv_iload_n hx hb dX0_given_86 rfl (lv_at hl 1 rfl) ?_
        refine lv_bipush (v := 9) hx hb dX0_given_87 (by decide) ?_
        refine lv_iload_n hx hb dX0_given_89 rfl (lv_at hl 4 rfl) ?_
        refine lv_bipush (v := 12) hx hb dX0_given_90 (by decide) ?_
        obtain ⟨z27, e25, t26⟩ := x_sub (x := t) (y := (12 : Int32)) (a := (t).toInt) (b := 12) rfl rfl (by omega) (by omega)
        refine o_isub (z := z27) hx hb dX0_given_92 e25 ?_
        obtain ⟨z28, e29, t30, t31⟩ := x_abs (x := z27) (by omega)
        have ea33 : (if 0 ≤ t - 12 then t - 12 else 0 - (t - 12)) = z28 := by rw [e25]; exact e29
        refine o_mabs X hl.1 kv_0 kv_1 kv_2 kv_3 ⟨Nat.le_of_ble_eq_true rfl, Nat.le_of_ble_eq_true rfl⟩ (Nat.le_of_ble_eq_true rfl) ⟨Nat.zero_le _, Nat.zero_le _⟩ e29 dX0_given_93 ?_
        have k39 : (9 : Int32).toInt = 9 := rfl
        obtain ⟨z34, e35, t36, t37, t38⟩ := x_min (9 : Int32) z28
        refine o_mmin X hl.1 kv_4 kv_5 kv_2 kv_6 ⟨Nat.le_of_ble_eq_true rfl, Nat.le_of_ble_eq_true rfl⟩ (Nat.le_of_ble_eq_true rfl) ⟨Nat.zero_le _, Nat.zero_le _⟩ e35 dX0_given_96 ?_
        obtain ⟨z42, e40, t41⟩ := x_add (x := z7) (y := z34) (a := (z7).toInt) (b := (z34).toInt) rfl rfl (by omega) (by omega)
        have n43 : z42.toNatClampNeg = z7.toNatClampNeg + z34.toNatClampNeg := cl_addn (x := z7) (y := z34) rfl rfl t41 (by omega) (by omega)
        refine o_iadd (z := z42) hx hb dX0_given_99 e40 ?_
        have hret44 : givF k q t = z42 := by
          have hsw : k.toInt = 4 := by rw [hq]; rfl
          have hm := man_eq (t := t) (by omega) (by omega) ea33 e35
          unfold givF
          rw [if_neg (by omega), if_neg (by omega), if_neg (by omega), if_pos hsw, hm]
          subst e40; subst e29; subst e25; subst e5; subst e1; unfold walF; rfl
        exact e_i X h hr hlk dX0_given_100 ⟨rfl, ⟨hret44, by omega, by omega⟩⟩
      · refine lv_tableIn (tgt := 101) (off := 73) hx hb dX0_given_28 (by rw [hq]; decide) (by rw [hq]; decide) (by rw [hq]; decide) (by decide) ?_
        refine lv_iload hx hb dX0_given_101 (lv_at hl 0 rfl) ?_
        refine lv_iconst (v := 3) hx hb dX0_given_103 (by decide) ?_
        obtain ⟨z47, e45, t46⟩ := x_add (x := z7) (y := (3 : Int32)) (a := (z7).toInt) (b := 3) rfl rfl (by omega) (by omega)
        have n48 : z47.toNatClampNeg = z7.toNatClampNeg + 3 := cl_addn (x := z7) (y := (3 : Int32)) rfl rfl t46 (by omega) (by decide)
        refine o_iadd (z := z47) hx hb dX0_given_104 e45 ?_
        have hret49 : givF k q t = z47 := by
          have hsw : k.toInt = 5 := by rw [hq]; rfl
          clear hq
          subst e45; subst e5; subst e1
          unfold givF
          rw [if_neg (by omega), if_neg (by omega), if_neg (by omega), if_neg (by omega), if_pos (by omega)]
          (try unfold treF)
          (try unfold frmF)
          (try unfold walF)
          all_goals ((repeat' split) <;> first | rfl | (exfalso; omega))
        exact e_i X h hr hlk dX0_given_105 ⟨rfl, ⟨hret49, by omega, by omega⟩⟩
    · refine lv_tableOut (tgt := 106) hx hb dX0_given_28 (by omega) (by decide) ?_
      refine lv_iload_n hx hb dX0_given_106 rfl (lv_at hl 1 rfl) ?_
      have hret50 : givF k q t = z7 := by
        subst e5; subst e1
        unfold givF treF frmF walF
        all_goals ((repeat' split) <;> first | rfl | (exfalso; omega))
      exact e_i X h hr hlk dX0_given_107 ⟨rfl, ⟨hret50, by omega, by omega⟩⟩
  · have hc8 : ¬ (t).toInt < 11 := i_nlt hc8 rfl rfl
    refine lv_iload_n hx hb dX0_given_12 rfl (lv_at hl 3 rfl) ?_
    refine lv_bipush (v := 13) hx hb dX0_given_13 (by decide) ?_
    refine lv_icmp_gt (tgt := 24) hx hb dX0_given_15 (by decide) (fun hc51 => ?_) (fun hc51 => ?_)
    · have hc51 : 13 < (t).toInt := i_lt hc51 rfl rfl
      refine lv_iload_n hx hb dX0_given_24 rfl (lv_at hl 0 rfl) ?_
      refine lv_istore (lv' := [(4, .int z7), (3, .int z7), (0, .int k), (1, .int q), (2, .int t)]) hx hb dX0_given_25 hl (by decide) rfl (fun ls hl => ?_)
      refine lv_iload_n hx hb dX0_given_27 rfl (lv_at hl 2 rfl) ?_
      by_cases hs52 : 1 ≤ (k).toInt ∧ (k).toInt ≤ 5
      · have ha53 : k = 1 ∨ k = 2 ∨ k = 3 ∨ k = 4 ∨ k = 5 := by simp only [fa_eq]; have := hs52; simp only [show ((1 : Int32).toInt = 1) from rfl, show ((2 : Int32).toInt = 2) from rfl, show ((3 : Int32).toInt = 3) from rfl, show ((4 : Int32).toInt = 4) from rfl, show ((5 : Int32).toInt = 5) from rfl]; omega
        rcases ha53 with hq | hq | hq | hq | hq
        · refine lv_tableIn (tgt := 64) (off := 36) hx hb dX0_given_28 (by rw [hq]; decide) (by rw [hq]; decide) (by rw [hq]; decide) (by decide) ?_
          refine lv_iload hx hb dX0_given_64 (lv_at hl 0 rfl) ?_
          have hret54 : givF k q t = z7 := by
            have hsw : k.toInt = 1 := by rw [hq]; rfl
            clear hq
            subst e5; subst e1
            unfold givF
            rw [if_pos (by omega)]
            (try unfold treF)
            (try unfold frmF)
            (try unfold walF)
            all_goals ((repeat' split) <;> first | rfl | (exfalso; omega))
          exact e_i X h hr hlk dX0_given_66 ⟨rfl, ⟨hret54, by omega, by omega⟩⟩
        · refine lv_tableIn (tgt := 67) (off := 39) hx hb dX0_given_28 (by rw [hq]; decide) (by rw [hq]; decide) (by rw [hq]; decide) (by decide) ?_
          refine lv_iload hx hb dX0_given_67 (lv_at hl 0 rfl) ?_
          refine lv_iconst (v := 2) hx hb dX0_given_69 (by decide) ?_
          obtain ⟨z57, e55, t56⟩ := x_div (x := z7) (y := (2 : Int32)) (a := (z7).toInt) (b := 2) rfl rfl (by omega) (by omega)
          refine o_idiv (z := z57) hx hb dX0_given_70 (by decide) e55 ?_
          have hret58 : givF k q t = z57 := by
            have hsw : k.toInt = 2 := by rw [hq]; rfl
            clear hq
            subst e55; subst e5; subst e1
            unfold givF
            rw [if_neg (by omega), if_pos (by omega)]
            (try unfold treF)
            (try unfold frmF)
            (try unfold walF)
            all_goals ((repeat' split) <;> first | rfl | (exfalso; omega))
          exact e_i X h hr hlk dX0_given_71 ⟨rfl, ⟨hret58, by omega, by omega⟩⟩
        · refine lv_tableIn (tgt := 72) (off := 44) hx hb dX0_given_28 (by rw [hq]; decide) (by rw [hq]; decide) (by rw [hq]; decide) (by decide) ?_
          refine lv_iload_n hx hb dX0_given_72 rfl (lv_at hl 4 rfl) ?_
          refine lv_iconst (v := 3) hx hb dX0_given_73 (by decide) ?_
          obtain ⟨z61, e59, t60⟩ := x_rem (x := t) (y := (3 : Int32)) (a := (t).toInt) (b := 3) rfl rfl (by omega) (by omega)
          refine o_irem (z := z61) hx hb dX0_given_74 (by decide) e59 ?_
          refine lv_if_ne (tgt := 82) hx hb dX0_given_75 (by decide) (fun hc62 => ?_) (fun hc62 => ?_)
          · have hc62 : ¬ (z61).toInt = 0 := i_ne hc62 rfl rfl
            refine lv_iconst (v := 2) hx hb dX0_given_82 (by decide) ?_
            refine lv_iload_n hx hb dX0_given_83 rfl (lv_at hl 1 rfl) ?_
            obtain ⟨z65, e63, t64⟩ := x_mul (x := (2 : Int32)) (y := z7) (a := 2) (b := (z7).toInt) rfl rfl (by omega) (by omega)
            refine o_imul (z := z65) hx hb dX0_given_84 e63 ?_
            have hret66 : givF k q t = z65 := by
              have hsw : k.toInt = 3 := by rw [hq]; rfl
              clear hq
              subst e63; subst e59; subst e5; subst e1
              unfold givF
              rw [if_neg (by omega), if_neg (by omega), if_pos (by omega)]
              (try unfold treF)
              (try unfold frmF)
              (try unfold walF)
              all_goals ((repeat' split) <;> first | rfl | (exfalso; omega))
            exact e_i X h hr hlk dX0_given_85 ⟨rfl, ⟨hret66, by omega, by omega⟩⟩
          · have hc62 : (z61).toInt = 0 := i_eq hc62 rfl rfl
            refine lv_iconst (v := 0) hx hb dX0_given_78 (by decide) ?_
            refine lv_goto (tgt := 85) hx hb dX0_given_79 (by decide) ?_
            have hret67 : givF k q t = (0 : Int32) := by
              have hsw : k.toInt = 3 := by rw [hq]; rfl
              clear hq
              subst e59; subst e5; subst e1
              unfold givF
              rw [if_neg (by omega), if_neg (by omega), if_pos (by omega)]
              (try unfold treF)
              (try unfold frmF)
              (try unfold walF)
              all_goals ((repeat' split) <;> first | rfl | (exfalso; omega))
            exact e_i X h hr hlk dX0_given_85 ⟨rfl, ⟨hret67, by decide, by decide⟩⟩
        · refine lv_tableIn (tgt := 86) (off := 58) hx hb dX0_given_28 (by rw [hq]; decide) (by rw [hq]; decide) (by rw [hq]; decide) (by decide) ?_
          refine lv_iload_n hx hb dX0_given_86 rfl (lv_at hl 1 rfl) ?_
          refine lv_bipush (v := 9) hx hb dX0_given_87 (by decide) ?_
          refine lv_iload_n hx hb dX0_given_89 rfl (lv_at hl 4 rfl) ?_
          refine lv_bipush (v := 12) hx hb dX0_given_90 (by decide) ?_
          obtain ⟨z70, e68, t69⟩ := x_sub (x := t) (y := (12 : Int32)) (a := (t).toInt) (b := 12) rfl rfl (by omega) (by omega)
          refine o_isub (z := z70) hx hb dX0_given_92 e68 ?_
          obtain ⟨z71, e72, t73, t74⟩ := x_abs (x := z70) (by omega)
          have ea76 : (if 0 ≤ t - 12 then t - 12 else 0 - (t - 12)) = z71 := by rw [e68]; exact e72
          refine o_mabs X hl.1 kv_0 kv_1 kv_2 kv_3 ⟨Nat.le_of_ble_eq_true rfl, Nat.le_of_ble_eq_true rfl⟩ (Nat.le_of_ble_eq_true rfl) ⟨Nat.zero_le _, Nat.zero_le _⟩ e72 dX0_given_93 ?_
          have k82 : (9 : Int32).toInt = 9 := rfl
          obtain ⟨z77, e78, t79, t80, t81⟩ := x_min (9 : Int32) z71
          refine o_mmin X hl.1 kv_4 kv_5 kv_2 kv_6 ⟨Nat.le_of_ble_eq_true rfl, Nat.le_of_ble_eq_true rfl⟩ (Nat.le_of_ble_eq_true rfl) ⟨Nat.zero_le _, Nat.zero_le _⟩ e78 dX0_given_96 ?_
          obtain ⟨z85, e83, t84⟩ := x_add (x := z7) (y := z77) (a := (z7).toInt) (b := (z77).toInt) rfl rfl (by omega) (by omega)
          have n86 : z85.toNatClampNeg = z7.toNatClampNeg + z77.toNatClampNeg := cl_addn (x := z7) (y := z77) rfl rfl t84 (by omega) (by omega)
          refine o_iadd (z := z85) hx hb dX0_given_99 e83 ?_
          have hret87 : givF k q t = z85 := by
            have hsw : k.toInt = 4 := by rw [hq]; rfl
            have hm := man_eq (t := t) (by omega) (by omega) ea76 e78
            unfold givF
            rw [if_neg (by omega), if_neg (by omega), if_neg (by omega), if_pos hsw, hm]
            subst e83; subst e72; subst e68; subst e5; subst e1; unfold walF; rfl
          exact e_i X h hr hlk dX0_given_100 ⟨rfl, ⟨hret87, by omega, by omega⟩⟩
        · refine lv_tableIn (tgt := 101) (off := 73) hx hb dX0_given_28 (by rw [hq]; decide) (by rw [hq]; decide) (by rw [hq]; decide) (by decide) ?_
          refine lv_iload hx hb dX0_given_101 (lv_at hl 0 rfl) ?_
          refine lv_iconst (v := 3) hx hb dX0_given_103 (by decide) ?_
          obtain ⟨z90, e88, t89⟩ := x_add (x := z7) (y := (3 : Int32)) (a := (z7).toInt) (b := 3) rfl rfl (by omega) (by omega)
          have n91 : z90.toNatClampNeg = z7.toNatClampNeg + 3 := cl_addn (x := z7) (y := (3 : Int32)) rfl rfl t89 (by omega) (by decide)
          refine o_iadd (z := z90) hx hb dX0_given_104 e88 ?_
          have hret92 : givF k q t = z90 := by
            have hsw : k.toInt = 5 := by rw [hq]; rfl
            clear hq
            subst e88; subst e5; subst e1
            unfold givF
            rw [if_neg (by omega), if_neg (by omega), if_neg (by omega), if_neg (by omega), if_pos (by omega)]
            (try unfold treF)
            (try unfold frmF)
            (try unfold walF)
            all_goals ((repeat' split) <;> first | rfl | (exfalso; omega))
          exact e_i X h hr hlk dX0_given_105 ⟨rfl, ⟨hret92, by omega, by omega⟩⟩
      · refine lv_tableOut (tgt := 106) hx hb dX0_given_28 (by omega) (by decide) ?_
        refine lv_iload_n hx hb dX0_given_106 rfl (lv_at hl 1 rfl) ?_
        have hret93 : givF k q t = z7 := by
          subst e5; subst e1
          unfold givF treF frmF walF
          all_goals ((repeat' split) <;> first | rfl | (exfalso; omega))
        exact e_i X h hr hlk dX0_given_107 ⟨rfl, ⟨hret93, by omega, by omega⟩⟩
    · have hc51 : ¬ 13 < (t).toInt := i_nlt hc51 rfl rfl
      refine lv_iload_n hx hb dX0_given_18 rfl (lv_at hl 0 rfl) ?_
      refine lv_iload_n hx hb dX0_given_19 rfl (lv_at hl 2 rfl) ?_
      obtain ⟨z96, e94, t95⟩ := x_add (x := z7) (y := q) (a := (z7).toInt) (b := (q).toInt) rfl rfl (by omega) (by omega)
      have n97 : z96.toNatClampNeg = z7.toNatClampNeg + q.toNatClampNeg := cl_addn (x := z7) (y := q) rfl rfl t95 (by omega) (by omega)
      refine o_iadd (z := z96) hx hb dX0_given_20 e94 ?_
      refine lv_goto (tgt := 25) hx hb dX0_given_21 (by decide) ?_
      refine lv_istore (lv' := [(4, .int z96), (3, .int z7), (0, .int k), (1, .int q), (2, .int t)]) hx hb dX0_given_25 hl (by decide) rfl (fun ls hl => ?_)
      refine lv_iload_n hx hb dX0_given_27 rfl (lv_at hl 2 rfl) ?_
      by_cases hs98 : 1 ≤ (k).toInt ∧ (k).toInt ≤ 5
      · have ha99 : k = 1 ∨ k = 2 ∨ k = 3 ∨ k = 4 ∨ k = 5 := by simp only [fa_eq]; have := hs98; simp only [show ((1 : Int32).toInt = 1) from rfl, show ((2 : Int32).toInt = 2) from rfl, show ((3 : Int32).toInt = 3) from rfl, show ((4 : Int32).toInt = 4) from rfl, show ((5 : Int32).toInt = 5) from rfl]; omega
        rcases ha99 with hq | hq | hq | hq | hq
        · refine lv_tableIn (tgt := 64) (off := 36) hx hb dX0_given_28 (by rw [hq]; decide) (by rw [hq]; decide) (by rw [hq]; decide) (by decide) ?_
          refine lv_iload hx hb dX0_given_64 (lv_at hl 0 rfl) ?_
          have hret100 : givF k q t = z96 := by
            have hsw : k.toInt = 1 := by rw [hq]; rfl
            clear hq
            subst e94; subst e5; subst e1
            unfold givF
            rw [if_pos (by omega)]
            (try unfold treF)
            (try unfold frmF)
            (try unfold walF)
            all_goals ((repeat' split) <;> first | rfl | (exfalso; omega))
          exact e_i X h hr hlk dX0_given_66 ⟨rfl, ⟨hret100, by omega, by omega⟩⟩
        · refine lv_tableIn (tgt := 67) (off := 39) hx hb dX0_given_28 (by rw [hq]; decide) (by rw [hq]; decide) (by rw [hq]; decide) (by decide) ?_
          refine lv_iload hx hb dX0_given_67 (lv_at hl 0 rfl) ?_
          refine lv_iconst (v := 2) hx hb dX0_given_69 (by decide) ?_
          obtain ⟨z103, e101, t102⟩ := x_div (x := z96) (y := (2 : Int32)) (a := (z96).toInt) (b := 2) rfl rfl (by omega) (by omega)
          refine o_idiv (z := z103) hx hb dX0_given_70 (by decide) e101 ?_
          have hret104 : givF k q t = z103 := by
            have hsw : k.toInt = 2 := by rw [hq]; rfl
            clear hq
            subst e101; subst e94; subst e5; subst e1
            unfold givF
            rw [if_neg (by omega), if_pos (by omega)]
            (try unfold treF)
            (try unfold frmF)
            (try unfold walF)
            all_goals ((repeat' split) <;> first | rfl | (exfalso; omega))
          exact e_i X h hr hlk dX0_given_71 ⟨rfl, ⟨hret104, by omega, by omega⟩⟩
        · refine lv_tableIn (tgt := 72) (off := 44) hx hb dX0_given_28 (by rw [hq]; decide) (by rw [hq]; decide) (by rw [hq]; decide) (by decide) ?_
          refine lv_iload_n hx hb dX0_given_72 rfl (lv_at hl 4 rfl) ?_
          refine lv_iconst (v := 3) hx hb dX0_given_73 (by decide) ?_
          obtain ⟨z107, e105, t106⟩ := x_rem (x := t) (y := (3 : Int32)) (a := (t).toInt) (b := 3) rfl rfl (by omega) (by omega)
          refine o_irem (z := z107) hx hb dX0_given_74 (by decide) e105 ?_
          refine lv_if_ne (tgt := 82) hx hb dX0_given_75 (by decide) (fun hc108 => ?_) (fun hc108 => ?_)
          · have hc108 : ¬ (z107).toInt = 0 := i_ne hc108 rfl rfl
            refine lv_iconst (v := 2) hx hb dX0_given_82 (by decide) ?_
            refine lv_iload_n hx hb dX0_given_83 rfl (lv_at hl 1 rfl) ?_
            obtain ⟨z111, e109, t110⟩ := x_mul (x := (2 : Int32)) (y := z7) (a := 2) (b := (z7).toInt) rfl rfl (by omega) (by omega)
            refine o_imul (z := z111) hx hb dX0_given_84 e109 ?_
            have hret112 : givF k q t = z111 := by
              have hsw : k.toInt = 3 := by rw [hq]; rfl
              clear hq
              subst e109; subst e105; subst e94; subst e5; subst e1
              unfold givF
              rw [if_neg (by omega), if_neg (by omega), if_pos (by omega)]
              (try unfold treF)
              (try unfold frmF)
              (try unfold walF)
              all_goals ((repeat' split) <;> first | rfl | (exfalso; omega))
            exact e_i X h hr hlk dX0_given_85 ⟨rfl, ⟨hret112, by omega, by omega⟩⟩
          · have hc108 : (z107).toInt = 0 := i_eq hc108 rfl rfl
            refine lv_iconst (v := 0) hx hb dX0_given_78 (by decide) ?_
            refine lv_goto (tgt := 85) hx hb dX0_given_79 (by decide) ?_
            have hret113 : givF k q t = (0 : Int32) := by
              have hsw : k.toInt = 3 := by rw [hq]; rfl
              clear hq
              subst e105; subst e94; subst e5; subst e1
              unfold givF
              rw [if_neg (by omega), if_neg (by omega), if_pos (by omega)]
              (try unfold treF)
              (try unfold frmF)
              (try unfold walF)
              all_goals ((repeat' split) <;> first | rfl | (exfalso; omega))
            exact e_i X h hr hlk dX0_given_85 ⟨rfl, ⟨hret113, by decide, by decide⟩⟩
        · refine lv_tableIn (tgt := 86) (off := 58) hx hb dX0_given_28 (by rw [hq]; decide) (by rw [hq]; decide) (by rw [hq]; decide) (by decide) ?_
          refine lv_iload_n hx hb dX0_given_86 rfl (lv_at hl 1 rfl) ?_
          refine lv_bipush (v := 9) hx hb dX0_given_87 (by decide) ?_
          refine lv_iload_n hx hb dX0_given_89 rfl (lv_at hl 4 rfl) ?_
          refine lv_bipush (v := 12) hx hb dX0_given_90 (by decide) ?_
          obtain ⟨z116, e114, t115⟩ := x_sub (x := t) (y := (12 : Int32)) (a := (t).toInt) (b := 12) rfl rfl (by omega) (by omega)
          refine o_isub (z := z116) hx hb dX0_given_92 e114 ?_
          obtain ⟨z117, e118, t119, t120⟩ := x_abs (x := z116) (by omega)
          have ea122 : (if 0 ≤ t - 12 then t - 12 else 0 - (t - 12)) = z117 := by rw [e114]; exact e118
          refine o_mabs X hl.1 kv_0 kv_1 kv_2 kv_3 ⟨Nat.le_of_ble_eq_true rfl, Nat.le_of_ble_eq_true rfl⟩ (Nat.le_of_ble_eq_true rfl) ⟨Nat.zero_le _, Nat.zero_le _⟩ e118 dX0_given_93 ?_
          have k128 : (9 : Int32).toInt = 9 := rfl
          obtain ⟨z123, e124, t125, t126, t127⟩ := x_min (9 : Int32) z117
          refine o_mmin X hl.1 kv_4 kv_5 kv_2 kv_6 ⟨Nat.le_of_ble_eq_true rfl, Nat.le_of_ble_eq_true rfl⟩ (Nat.le_of_ble_eq_true rfl) ⟨Nat.zero_le _, Nat.zero_le _⟩ e124 dX0_given_96 ?_
          obtain ⟨z131, e129, t130⟩ := x_add (x := z7) (y := z123) (a := (z7).toInt) (b := (z123).toInt) rfl rfl (by omega) (by omega)
          have n132 : z131.toNatClampNeg = z7.toNatClampNeg + z123.toNatClampNeg := cl_addn (x := z7) (y := z123) rfl rfl t130 (by omega) (by omega)
          refine o_iadd (z := z131) hx hb dX0_given_99 e129 ?_
          have hret133 : givF k q t = z131 := by
            have hsw : k.toInt = 4 := by rw [hq]; rfl
            have hm := man_eq (t := t) (by omega) (by omega) ea122 e124
            unfold givF
            rw [if_neg (by omega), if_neg (by omega), if_neg (by omega), if_pos hsw, hm]
            subst e129; subst e118; subst e114; subst e94; subst e5; subst e1; unfold walF; rfl
          exact e_i X h hr hlk dX0_given_100 ⟨rfl, ⟨hret133, by omega, by omega⟩⟩
        · refine lv_tableIn (tgt := 101) (off := 73) hx hb dX0_given_28 (by rw [hq]; decide) (by rw [hq]; decide) (by rw [hq]; decide) (by decide) ?_
          refine lv_iload hx hb dX0_given_101 (lv_at hl 0 rfl) ?_
          refine lv_iconst (v := 3) hx hb dX0_given_103 (by decide) ?_
          obtain ⟨z136, e134, t135⟩ := x_add (x := z96) (y := (3 : Int32)) (a := (z96).toInt) (b := 3) rfl rfl (by omega) (by omega)
          have n137 : z136.toNatClampNeg = z7.toNatClampNeg + q.toNatClampNeg + 3 := cl_addn (x := z96) (y := (3 : Int32)) n97 rfl t135 (by omega) (by decide)
          refine o_iadd (z := z136) hx hb dX0_given_104 e134 ?_
          have hret138 : givF k q t = z136 := by
            have hsw : k.toInt = 5 := by rw [hq]; rfl
            clear hq
            subst e134; subst e94; subst e5; subst e1
            unfold givF
            rw [if_neg (by omega), if_neg (by omega), if_neg (by omega), if_neg (by omega), if_pos (by omega)]
            (try unfold treF)
            (try unfold frmF)
            (try unfold walF)
            all_goals ((repeat' split) <;> first | rfl | (exfalso; omega))
          exact e_i X h hr hlk dX0_given_105 ⟨rfl, ⟨hret138, by omega, by omega⟩⟩
      · refine lv_tableOut (tgt := 106) hx hb dX0_given_28 (by omega) (by decide) ?_
        refine lv_iload_n hx hb dX0_given_106 rfl (lv_at hl 1 rfl) ?_
        have hret139 : givF k q t = z7 := by
          subst e94; subst e5; subst e1
          unfold givF treF frmF walF
          all_goals ((repeat' split) <;> first | rfl | (exfalso; omega))
        exact e_i X h hr hlk dX0_given_107 ⟨rfl, ⟨hret139, by omega, by omega⟩⟩

set_option maxHeartbeats 4000000 in
set_option maxRecDepth 100000 in
theorem c_F_lost (l : Launch) (G : va_G) (cI cB cZ cO : ClassId) (ad : Nat → Nat) (w : Nat → va_E)   (k : Int32) (q : Int32) (t : Int32) (hl_q : 0 ≤ q.toInt) (hh_q : q.toInt ≤ 60)  : NI l G (tyq cI cB cZ cO) yX3_lost cX3_lost 6 (some .int) 0 0 74 ad w [.int k, .int q, .int t] (fun r w1 => w = w1 ∧ losF k q t = r ∧ 0 ≤ r.toInt ∧ r.toInt ≤ 30) := by
  refine nk_i (own := "NoonShade$JarKinds") rfl (by decide) (Nat.le_of_ble_eq_true rfl) ?_
  intro p e s m below meth c ls X hD hN hr hlk h hl
  have hx := X.1.1
  have hb := X.1.2.1
  have hown := X.1.2.2.2.1
  have hts := X.1.2.2.2.2
  have hl : lv_has ls 6 [(0, .int k), (1, .int q), (2, .int t)] := hl
  refine lv_iconst (v := 1) hx hb dX3_lost_0 (by decide) ?_
  refine lv_istore_n (lv' := [(3, .int 1), (0, .int k), (1, .int q), (2, .int t)]) hx hb dX3_lost_1 rfl hl (by decide) rfl (fun ls hl => ?_)
  refine lv_iload_n hx hb dX3_lost_2 rfl (lv_at hl 0 rfl) ?_
  refine lv_iconst (v := 2) hx hb dX3_lost_3 (by decide) ?_
  refine o_iadd (z := 3) hx hb dX3_lost_4 rfl ?_
  refine lv_istore (lv' := [(4, .int 3), (3, .int 1), (0, .int k), (1, .int q), (2, .int t)]) hx hb dX3_lost_5 hl (by decide) rfl (fun ls hl => ?_)
  refine lv_iload_n hx hb dX3_lost_7 rfl (lv_at hl 4 rfl) ?_
  refine lv_bipush (v := 6) hx hb dX3_lost_8 (by decide) ?_
  refine lv_icmp_ge (tgt := 17) hx hb dX3_lost_10 (by decide) (fun hc1 => ?_) (fun hc1 => ?_)
  · have hc1 : 6 ≤ (t).toInt := i_le hc1 rfl rfl
    refine lv_iload_n hx hb dX3_lost_17 rfl (lv_at hl 1 rfl) ?_
    refine lv_istore (lv' := [(5, .int 1), (4, .int 3), (3, .int 1), (0, .int k), (1, .int q), (2, .int t)]) hx hb dX3_lost_18 hl (by decide) rfl (fun ls hl => ?_)
    refine lv_iload_n hx hb dX3_lost_20 rfl (lv_at hl 3 rfl) ?_
    by_cases hs2 : 1 ≤ (k).toInt ∧ (k).toInt ≤ 5
    · have ha3 : k = 1 ∨ k = 2 ∨ k = 3 ∨ k = 4 ∨ k = 5 := by simp only [fa_eq]; have := hs2; simp only [show ((1 : Int32).toInt = 1) from rfl, show ((2 : Int32).toInt = 2) from rfl, show ((3 : Int32).toInt = 3) from rfl, show ((4 : Int32).toInt = 4) from rfl, show ((5 : Int32).toInt = 5) from rfl]; omega
      rcases ha3 with hq | hq | hq | hq | hq
      · refine lv_tableIn (tgt := 56) (off := 35) hx hb dX3_lost_21 (by rw [hq]; decide) (by rw [hq]; decide) (by rw [hq]; decide) (by decide) ?_
        refine lv_iload hx hb dX3_lost_56 (lv_at hl 1 rfl) ?_
        have hret4 : losF k q t = (3 : Int32) := by
          have hsw : k.toInt = 1 := by rw [hq]; rfl
          clear hq
          unfold losF
          rw [if_pos (by omega)]
          (try unfold stoF)
          all_goals ((repeat' split) <;> first | rfl | (exfalso; omega))
        exact e_i X h hr hlk dX3_lost_58 ⟨rfl, ⟨hret4, by decide, by decide⟩⟩
      · refine lv_tableIn (tgt := 59) (off := 38) hx hb dX3_lost_21 (by rw [hq]; decide) (by rw [hq]; decide) (by rw [hq]; decide) (by decide) ?_
        refine lv_iload hx hb dX3_lost_59 (lv_at hl 0 rfl) ?_
        have hret5 : losF k q t = (1 : Int32) := by
          have hsw : k.toInt = 2 := by rw [hq]; rfl
          clear hq
          unfold losF
          rw [if_neg (by omega), if_pos (by omega)]
          (try unfold stoF)
          all_goals ((repeat' split) <;> first | rfl | (exfalso; omega))
        exact e_i X h hr hlk dX3_lost_61 ⟨rfl, ⟨hret5, by decide, by decide⟩⟩
      · refine lv_tableIn (tgt := 62) (off := 41) hx hb dX3_lost_21 (by rw [hq]; decide) (by rw [hq]; decide) (by rw [hq]; decide) (by decide) ?_
        refine lv_iload hx hb dX3_lost_62 (lv_at hl 1 rfl) ?_
        refine lv_iload_n hx hb dX3_lost_64 rfl (lv_at hl 4 rfl) ?_
        refine lv_bipush (v := 10) hx hb dX3_lost_65 (by decide) ?_
        obtain ⟨z8, e6, t7⟩ := x_div (x := q) (y := (10 : Int32)) (a := (q).toInt) (b := 10) rfl rfl (by omega) (by omega)
        refine o_idiv (z := z8) hx hb dX3_lost_67 (by decide) e6 ?_
        obtain ⟨z11, e9, t10⟩ := x_add (x := (3 : Int32)) (y := z8) (a := 3) (b := (z8).toInt) rfl rfl (by omega) (by omega)
        have n12 : z11.toNatClampNeg = 3 + z8.toNatClampNeg := cl_addn (x := (3 : Int32)) (y := z8) rfl rfl t10 (by decide) (by omega)
        refine o_iadd (z := z11) hx hb dX3_lost_68 e9 ?_
        have hret13 : losF k q t = z11 := by
          have hsw : k.toInt = 3 := by rw [hq]; rfl
          clear hq
          subst e9; subst e6
          unfold losF
          rw [if_neg (by omega), if_neg (by omega), if_pos (by omega)]
          (try unfold stoF)
          all_goals ((repeat' split) <;> first | rfl | (exfalso; omega))
        exact e_i X h hr hlk dX3_lost_69 ⟨rfl, ⟨hret13, by omega, by omega⟩⟩
      · refine lv_tableIn (tgt := 70) (off := 49) hx hb dX3_lost_21 (by rw [hq]; decide) (by rw [hq]; decide) (by rw [hq]; decide) (by decide) ?_
        refine lv_iload_n hx hb dX3_lost_70 rfl (lv_at hl 4 rfl) ?_
        refine lv_iconst (v := 1) hx hb dX3_lost_71 (by decide) ?_
        obtain ⟨z16, e14, t15⟩ := x_add (x := q) (y := (1 : Int32)) (a := (q).toInt) (b := 1) rfl rfl (by omega) (by omega)
        have n17 : z16.toNatClampNeg = q.toNatClampNeg + 1 := cl_addn (x := q) (y := (1 : Int32)) rfl rfl t15 (by omega) (by decide)
        refine o_iadd (z := z16) hx hb dX3_lost_72 e14 ?_
        refine lv_iconst (v := 2) hx hb dX3_lost_73 (by decide) ?_
        obtain ⟨z20, e18, t19⟩ := x_div (x := z16) (y := (2 : Int32)) (a := (z16).toInt) (b := 2) rfl rfl (by omega) (by omega)
        refine o_idiv (z := z20) hx hb dX3_lost_74 (by decide) e18 ?_
        have hret21 : losF k q t = z20 := by
          have hsw : k.toInt = 4 := by rw [hq]; rfl
          clear hq
          subst e18; subst e14
          unfold losF
          rw [if_neg (by omega), if_neg (by omega), if_neg (by omega), if_pos (by omega)]
          (try unfold stoF)
          all_goals ((repeat' split) <;> first | rfl | (exfalso; omega))
        exact e_i X h hr hlk dX3_lost_75 ⟨rfl, ⟨hret21, by omega, by omega⟩⟩
      · refine lv_tableIn (tgt := 76) (off := 55) hx hb dX3_lost_21 (by rw [hq]; decide) (by rw [hq]; decide) (by rw [hq]; decide) (by decide) ?_
        refine lv_iload_n hx hb dX3_lost_76 rfl (lv_at hl 4 rfl) ?_
        refine lv_bipush (v := 20) hx hb dX3_lost_77 (by decide) ?_
        refine lv_icmp_lt (tgt := 86) hx hb dX3_lost_79 (by decide) (fun hc22 => ?_) (fun hc22 => ?_)
        · have hc22 : (q).toInt < 20 := i_lt hc22 rfl rfl
          refine lv_iload hx hb dX3_lost_86 (lv_at hl 0 rfl) ?_
          have hret23 : losF k q t = (1 : Int32) := by
            have hsw : k.toInt = 5 := by rw [hq]; rfl
            clear hq
            unfold losF
            rw [if_neg (by omega), if_neg (by omega), if_neg (by omega), if_neg (by omega), if_pos (by omega)]
            (try unfold stoF)
            all_goals ((repeat' split) <;> first | rfl | (exfalso; omega))
          exact e_i X h hr hlk dX3_lost_88 ⟨rfl, ⟨hret23, by decide, by decide⟩⟩
        · have hc22 : ¬ (q).toInt < 20 := i_nlt hc22 rfl rfl
          refine lv_iconst (v := 0) hx hb dX3_lost_82 (by decide) ?_
          refine lv_goto (tgt := 88) hx hb dX3_lost_83 (by decide) ?_
          have hret24 : losF k q t = (0 : Int32) := by
            have hsw : k.toInt = 5 := by rw [hq]; rfl
            clear hq
            unfold losF
            rw [if_neg (by omega), if_neg (by omega), if_neg (by omega), if_neg (by omega), if_pos (by omega)]
            (try unfold stoF)
            all_goals ((repeat' split) <;> first | rfl | (exfalso; omega))
          exact e_i X h hr hlk dX3_lost_88 ⟨rfl, ⟨hret24, by decide, by decide⟩⟩
    · refine lv_tableOut (tgt := 89) hx hb dX3_lost_21 (by omega) (by decide) ?_
      refine lv_iload_n hx hb dX3_lost_89 rfl (lv_at hl 2 rfl) ?_
      have hret25 : losF k q t = (1 : Int32) := by
        unfold losF stoF
        all_goals ((repeat' split) <;> first | rfl | (exfalso; omega))
      exact e_i X h hr hlk dX3_lost_90 ⟨rfl, ⟨hret25, by decide, by decide⟩⟩
  · have hc1 : ¬ 6 ≤ (t).toInt := i_nle hc1 rfl rfl
    refine lv_iconst (v := 0) hx hb dX3_lost_13 (by decide) ?_
    refine lv_goto (tgt := 18) hx hb dX3_lost_14 (by decide) ?_
    refine lv_istore (lv' := [(5, .int 0), (4, .int 3), (3, .int 1), (0, .int k), (1, .int q), (2, .int t)]) hx hb dX3_lost_18 hl (by decide) rfl (fun ls hl => ?_)
    refine lv_iload_n hx hb dX3_lost_20 rfl (lv_at hl 3 rfl) ?_
    by_cases hs26 : 1 ≤ (k).toInt ∧ (k).toInt ≤ 5
    · have ha27 : k = 1 ∨ k = 2 ∨ k = 3 ∨ k = 4 ∨ k = 5 := by simp only [fa_eq]; have := hs26; simp only [show ((1 : Int32).toInt = 1) from rfl, show ((2 : Int32).toInt = 2) from rfl, show ((3 : Int32).toInt = 3) from rfl, show ((4 : Int32).toInt = 4) from rfl, show ((5 : Int32).toInt = 5) from rfl]; omega
      rcases ha27 with hq | hq | hq | hq | hq
      · refine lv_tableIn (tgt := 56) (off := 35) hx hb dX3_lost_21 (by rw [hq]; decide) (by rw [hq]; decide) (by rw [hq]; decide) (by decide) ?_
        refine lv_iload hx hb dX3_lost_56 (lv_at hl 1 rfl) ?_
        have hret28 : losF k q t = (3 : Int32) := by
          have hsw : k.toInt = 1 := by rw [hq]; rfl
          clear hq
          unfold losF
          rw [if_pos (by omega)]
          (try unfold stoF)
          all_goals ((repeat' split) <;> first | rfl | (exfalso; omega))
        exact e_i X h hr hlk dX3_lost_58 ⟨rfl, ⟨hret28, by decide, by decide⟩⟩
      · refine lv_tableIn (tgt := 59) (off := 38) hx hb dX3_lost_21 (by rw [hq]; decide) (by rw [hq]; decide) (by rw [hq]; decide) (by decide) ?_
        refine lv_iload hx hb dX3_lost_59 (lv_at hl 0 rfl) ?_
        have hret29 : losF k q t = (0 : Int32) := by
          have hsw : k.toInt = 2 := by rw [hq]; rfl
          clear hq
          unfold losF
          rw [if_neg (by omega), if_pos (by omega)]
          (try unfold stoF)
          all_goals ((repeat' split) <;> first | rfl | (exfalso; omega))
        exact e_i X h hr hlk dX3_lost_61 ⟨rfl, ⟨hret29, by decide, by decide⟩⟩
      · refine lv_tableIn (tgt := 62) (off := 41) hx hb dX3_lost_21 (by rw [hq]; decide) (by rw [hq]; decide) (by rw [hq]; decide) (by decide) ?_
        refine lv_iload hx hb dX3_lost_62 (lv_at hl 1 rfl) ?_
        refine lv_iload_n hx hb dX3_lost_64 rfl (lv_at hl 4 rfl) ?_
        refine lv_bipush (v := 10) hx hb dX3_lost_65 (by decide) ?_
        obtain ⟨z32, e30, t31⟩ := x_div (x := q) (y := (10 : Int32)) (a := (q).toInt) (b := 10) rfl rfl (by omega) (by omega)
        refine o_idiv (z := z32) hx hb dX3_lost_67 (by decide) e30 ?_
        obtain ⟨z35, e33, t34⟩ := x_add (x := (3 : Int32)) (y := z32) (a := 3) (b := (z32).toInt) rfl rfl (by omega) (by omega)
        have n36 : z35.toNatClampNeg = 3 + z32.toNatClampNeg := cl_addn (x := (3 : Int32)) (y := z32) rfl rfl t34 (by decide) (by omega)
        refine o_iadd (z := z35) hx hb dX3_lost_68 e33 ?_
        have hret37 : losF k q t = z35 := by
          have hsw : k.toInt = 3 := by rw [hq]; rfl
          clear hq
          subst e33; subst e30
          unfold losF
          rw [if_neg (by omega), if_neg (by omega), if_pos (by omega)]
          (try unfold stoF)
          all_goals ((repeat' split) <;> first | rfl | (exfalso; omega))
        exact e_i X h hr hlk dX3_lost_69 ⟨rfl, ⟨hret37, by omega, by omega⟩⟩
      · refine lv_tableIn (tgt := 70) (off := 49) hx hb dX3_lost_21 (by rw [hq]; decide) (by rw [hq]; decide) (by rw [hq]; decide) (by decide) ?_
        refine lv_iload_n hx hb dX3_lost_70 rfl (lv_at hl 4 rfl) ?_
        refine lv_iconst (v := 1) hx hb dX3_lost_71 (by decide) ?_
        obtain ⟨z40, e38, t39⟩ := x_add (x := q) (y := (1 : Int32)) (a := (q).toInt) (b := 1) rfl rfl (by omega) (by omega)
        have n41 : z40.toNatClampNeg = q.toNatClampNeg + 1 := cl_addn (x := q) (y := (1 : Int32)) rfl rfl t39 (by omega) (by decide)
        refine o_iadd (z := z40) hx hb dX3_lost_72 e38 ?_
        refine lv_iconst (v := 2) hx hb dX3_lost_73 (by decide) ?_
        obtain ⟨z44, e42, t43⟩ := x_div (x := z40) (y := (2 : Int32)) (a := (z40).toInt) (b := 2) rfl rfl (by omega) (by omega)
        refine o_idiv (z := z44) hx hb dX3_lost_74 (by decide) e42 ?_
        have hret45 : losF k q t = z44 := by
          have hsw : k.toInt = 4 := by rw [hq]; rfl
          clear hq
          subst e42; subst e38
          unfold losF
          rw [if_neg (by omega), if_neg (by omega), if_neg (by omega), if_pos (by omega)]
          (try unfold stoF)
          all_goals ((repeat' split) <;> first | rfl | (exfalso; omega))
        exact e_i X h hr hlk dX3_lost_75 ⟨rfl, ⟨hret45, by omega, by omega⟩⟩
      · refine lv_tableIn (tgt := 76) (off := 55) hx hb dX3_lost_21 (by rw [hq]; decide) (by rw [hq]; decide) (by rw [hq]; decide) (by decide) ?_
        refine lv_iload_n hx hb dX3_lost_76 rfl (lv_at hl 4 rfl) ?_
        refine lv_bipush (v := 20) hx hb dX3_lost_77 (by decide) ?_
        refine lv_icmp_lt (tgt := 86) hx hb dX3_lost_79 (by decide) (fun hc46 => ?_) (fun hc46 => ?_)
        · have hc46 : (q).toInt < 20 := i_lt hc46 rfl rfl
          refine lv_iload hx hb dX3_lost_86 (lv_at hl 0 rfl) ?_
          have hret47 : losF k q t = (0 : Int32) := by
            have hsw : k.toInt = 5 := by rw [hq]; rfl
            clear hq
            unfold losF
            rw [if_neg (by omega), if_neg (by omega), if_neg (by omega), if_neg (by omega), if_pos (by omega)]
            (try unfold stoF)
            all_goals ((repeat' split) <;> first | rfl | (exfalso; omega))
          exact e_i X h hr hlk dX3_lost_88 ⟨rfl, ⟨hret47, by decide, by decide⟩⟩
        · have hc46 : ¬ (q).toInt < 20 := i_nlt hc46 rfl rfl
          refine lv_iconst (v := 0) hx hb dX3_lost_82 (by decide) ?_
          refine lv_goto (tgt := 88) hx hb dX3_lost_83 (by decide) ?_
          have hret48 : losF k q t = (0 : Int32) := by
            have hsw : k.toInt = 5 := by rw [hq]; rfl
            clear hq
            unfold losF
            rw [if_neg (by omega), if_neg (by omega), if_neg (by omega), if_neg (by omega), if_pos (by omega)]
            (try unfold stoF)
            all_goals ((repeat' split) <;> first | rfl | (exfalso; omega))
          exact e_i X h hr hlk dX3_lost_88 ⟨rfl, ⟨hret48, by decide, by decide⟩⟩
    · refine lv_tableOut (tgt := 89) hx hb dX3_lost_21 (by omega) (by decide) ?_
      refine lv_iload_n hx hb dX3_lost_89 rfl (lv_at hl 2 rfl) ?_
      have hret49 : losF k q t = (1 : Int32) := by
        unfold losF stoF
        all_goals ((repeat' split) <;> first | rfl | (exfalso; omega))
      exact e_i X h hr hlk dX3_lost_90 ⟨rfl, ⟨hret49, by decide, by decide⟩⟩

set_option maxHeartbeats 4000000 in
set_option maxRecDepth 100000 in
theorem c_F_kept (l : Launch) (G : va_G) (cI cB cZ cO : ClassId) (ad : Nat → Nat) (w : Nat → va_E)   (k : Int32) (q : Int32) (t : Int32) (hl_q : 0 ≤ q.toInt) (hh_q : q.toInt ≤ 60)  : NI l G (tyq cI cB cZ cO) yX3_kept cX3_kept 3 (some .int) 1 25 74 ad w [.int k, .int q, .int t] (fun r w1 => w = w1 ∧ q - (if (losF k q (rem24 t)).toInt < q.toInt then losF k q (rem24 t) else q) = r ∧ 0 ≤ r.toInt ∧ r.toInt ≤ q.toInt) := by
  refine nk_i (own := "NoonShade$JarKinds") rfl (by decide) (Nat.le_of_ble_eq_true rfl) ?_
  intro p e s m below meth c ls X hD hN hr hlk h hl
  have hx := X.1.1
  have hb := X.1.2.1
  have hown := X.1.2.2.2.1
  have hts := X.1.2.2.2.2
  have hl : lv_has ls 3 [(0, .int k), (1, .int q), (2, .int t)] := hl
  refine lv_iconst (v := 0) hx hb dX3_kept_0 (by decide) ?_
  refine lv_iload_n hx hb dX3_kept_1 rfl (lv_at hl 1 rfl) ?_
  refine lv_iload_n hx hb dX3_kept_2 rfl (lv_at hl 0 rfl) ?_
  refine lv_iload_n hx hb dX3_kept_3 rfl (lv_at hl 1 rfl) ?_
  refine lv_iload_n hx hb dX3_kept_4 rfl (lv_at hl 2 rfl) ?_
  refine lv_bipush (v := 24) hx hb dX3_kept_5 (by decide) ?_
  obtain ⟨z3, e1, t2, t2b⟩ := x_rem24 t
  refine o_irem (z := z3) hx hb dX3_kept_7 (by decide) e1 ?_
  refine n_Si (na := 3) (As := [.int k, .int q, .int z3]) (rest := [.int q, .int 0]) X hD hN h (c_F_lost l G cI cB cZ cO ad w   k q z3 (by omega) (by omega) ) ⟨kv_7, kv_8, kv_9, kv_10⟩ ⟨by decide, by decide, by decide⟩ ⟨Nat.le_of_ble_eq_true rfl, Nat.le_of_ble_eq_true rfl⟩ ⟨Nat.zero_le _, Nat.zero_le _⟩ rfl hl.1 rfl (Nat.le_of_ble_eq_true rfl) dX3_kept_8 (fun r4 w5 H locs hp6 h => ?_)
  obtain ⟨rfl, hr7⟩ := hp6
  obtain ⟨hr8, h9, h10⟩ := hr7
  obtain ⟨z13, e11, t12⟩ := x_sub (x := q) (y := r4) (a := (q).toInt) (b := (r4).toInt) rfl rfl (by omega) (by omega)
  refine o_isub (z := z13) hx hb dX3_kept_11 e11 ?_
  have k19 : (0 : Int32).toInt = 0 := rfl
  obtain ⟨z14, e15, t16, t17, t18⟩ := x_max (0 : Int32) z13
  refine o_mmax X hl.1 kv_11 kv_12 kv_2 kv_13 ⟨Nat.le_of_ble_eq_true rfl, Nat.le_of_ble_eq_true rfl⟩ (Nat.le_of_ble_eq_true rfl) ⟨Nat.zero_le _, Nat.zero_le _⟩ e15 dX3_kept_12 ?_
  have hret20 : q - (if (losF k q (rem24 t)).toInt < q.toInt then losF k q (rem24 t) else q) = z14 := by
    have e1 : losF k q (rem24 t) = r4 := by
      rw [← hr8]; unfold rem24; rw [e1]
    rw [e1]
    apply (fa_eq _ _).mpr
    split
    · rw [fb_subI (by omega) (by omega)]; omega
    · rw [fb_subI (by omega) (by omega)]; omega
  exact e_i X h hr hlk dX3_kept_15 ⟨rfl, ⟨hret20, by omega, by omega⟩⟩

set_option maxHeartbeats 4000000 in
set_option maxRecDepth 100000 in
theorem c_F_hasCaster (l : Launch) (G : va_G) (cI cB cZ cO : ClassId) (ad : Nat → Nat) (w : Nat → va_E) (ho so mi ca ja : Int32)  (i : Int32)  (p14 : w 14 = .inr (1, [.int ho, .int so, .int mi, .int ca, .int ja, .ref (ad 15), .ref (ad 16), .ref (ad 17), .ref (ad 18), .ref (ad 19), .ref (ad 20), .ref (ad 21), .ref (ad 23), .ref (ad 25)])) : NI l G (tyq cI cB cZ cO) yX2_hasCaster cX2_hasCaster 2 (some .boolean) 0 0 74 ad w [.ref (ad 14), .int i] (fun r w1 => w = w1 ∧ ((0 ≤ i.toInt ∧ i.toInt < ca.toInt ∧ r = 1) ∨ (¬ (0 ≤ i.toInt ∧ i.toInt < ca.toInt) ∧ r = 0))) := by
  refine nk_i (own := "NoonShade$Isle") rfl (by decide) (Nat.le_of_ble_eq_true rfl) ?_
  intro p e s m below meth c ls X hD hN hr hlk h hl
  have hx := X.1.1
  have hb := X.1.2.1
  have hown := X.1.2.2.2.1
  have hts := X.1.2.2.2.2
  have hl : lv_has ls 2 [(0, .ref (ad 14)), (1, .int i)] := hl
  refine lv_iload_n hx hb dX2_hasCaster_0 rfl (lv_at hl 1 rfl) ?_
  refine lv_if_lt (tgt := 16) hx hb dX2_hasCaster_1 (by decide) (fun hc1 => ?_) (fun hc1 => ?_)
  · have hc1 : (i).toInt < 0 := i_lt hc1 rfl rfl
    refine lv_iconst (v := 0) hx hb dX2_hasCaster_16 (by decide) ?_
    exact e_n X h hr hlk rfl dX2_hasCaster_17 ⟨rfl, Or.inr ⟨by omega, rfl⟩⟩
  · have hc1 : ¬ (i).toInt < 0 := i_nlt hc1 rfl rfl
    refine lv_iload_n hx hb dX2_hasCaster_4 rfl (lv_at hl 1 rfl) ?_
    refine lv_aload_n hx hb dX2_hasCaster_5 rfl (lv_at hl 0 rfl) ?_
    refine r_get kc2 X h 14 3 (by decide) rfl p14 (by decide) kv_17 rfl dX2_hasCaster_6 ?_
    refine lv_icmp_ge (tgt := 16) hx hb dX2_hasCaster_9 (by decide) (fun hc2 => ?_) (fun hc2 => ?_)
    · have hc2 : (ca).toInt ≤ (i).toInt := i_le hc2 rfl rfl
      refine lv_iconst (v := 0) hx hb dX2_hasCaster_16 (by decide) ?_
      exact e_n X h hr hlk rfl dX2_hasCaster_17 ⟨rfl, Or.inr ⟨by omega, rfl⟩⟩
    · have hc2 : ¬ (ca).toInt ≤ (i).toInt := i_nle hc2 rfl rfl
      refine lv_iconst (v := 1) hx hb dX2_hasCaster_12 (by decide) ?_
      refine lv_goto (tgt := 17) hx hb dX2_hasCaster_13 (by decide) ?_
      exact e_n X h hr hlk rfl dX2_hasCaster_17 ⟨rfl, Or.inl ⟨by omega, by omega, rfl⟩⟩

set_option maxHeartbeats 4000000 in
set_option maxRecDepth 100000 in
theorem c_F_hasJar (l : Launch) (G : va_G) (cI cB cZ cO : ClassId) (ad : Nat → Nat) (w : Nat → va_E) (ho so mi ca ja : Int32)  (i : Int32)  (p14 : w 14 = .inr (1, [.int ho, .int so, .int mi, .int ca, .int ja, .ref (ad 15), .ref (ad 16), .ref (ad 17), .ref (ad 18), .ref (ad 19), .ref (ad 20), .ref (ad 21), .ref (ad 23), .ref (ad 25)])) : NI l G (tyq cI cB cZ cO) yX2_hasJar cX2_hasJar 2 (some .boolean) 0 0 74 ad w [.ref (ad 14), .int i] (fun r w1 => w = w1 ∧ ((0 ≤ i.toInt ∧ i.toInt < ja.toInt ∧ r = 1) ∨ (¬ (0 ≤ i.toInt ∧ i.toInt < ja.toInt) ∧ r = 0))) := by
  refine nk_i (own := "NoonShade$Isle") rfl (by decide) (Nat.le_of_ble_eq_true rfl) ?_
  intro p e s m below meth c ls X hD hN hr hlk h hl
  have hx := X.1.1
  have hb := X.1.2.1
  have hown := X.1.2.2.2.1
  have hts := X.1.2.2.2.2
  have hl : lv_has ls 2 [(0, .ref (ad 14)), (1, .int i)] := hl
  refine lv_iload_n hx hb dX2_hasJar_0 rfl (lv_at hl 1 rfl) ?_
  refine lv_if_lt (tgt := 16) hx hb dX2_hasJar_1 (by decide) (fun hc1 => ?_) (fun hc1 => ?_)
  · have hc1 : (i).toInt < 0 := i_lt hc1 rfl rfl
    refine lv_iconst (v := 0) hx hb dX2_hasJar_16 (by decide) ?_
    exact e_n X h hr hlk rfl dX2_hasJar_17 ⟨rfl, Or.inr ⟨by omega, rfl⟩⟩
  · have hc1 : ¬ (i).toInt < 0 := i_nlt hc1 rfl rfl
    refine lv_iload_n hx hb dX2_hasJar_4 rfl (lv_at hl 1 rfl) ?_
    refine lv_aload_n hx hb dX2_hasJar_5 rfl (lv_at hl 0 rfl) ?_
    refine r_get kc2 X h 14 4 (by decide) rfl p14 (by decide) kv_18 rfl dX2_hasJar_6 ?_
    refine lv_icmp_ge (tgt := 16) hx hb dX2_hasJar_9 (by decide) (fun hc2 => ?_) (fun hc2 => ?_)
    · have hc2 : (ja).toInt ≤ (i).toInt := i_le hc2 rfl rfl
      refine lv_iconst (v := 0) hx hb dX2_hasJar_16 (by decide) ?_
      exact e_n X h hr hlk rfl dX2_hasJar_17 ⟨rfl, Or.inr ⟨by omega, rfl⟩⟩
    · have hc2 : ¬ (ja).toInt ≤ (i).toInt := i_nle hc2 rfl rfl
      refine lv_iconst (v := 1) hx hb dX2_hasJar_12 (by decide) ?_
      refine lv_goto (tgt := 17) hx hb dX2_hasJar_13 (by decide) ?_
      exact e_n X h hr hlk rfl dX2_hasJar_17 ⟨rfl, Or.inl ⟨by omega, by omega, rfl⟩⟩

set_option maxHeartbeats 4000000 in
set_option maxRecDepth 100000 in
theorem c_F_isMilked (l : Launch) (G : va_G) (cI cB cZ cO : ClassId) (ad : Nat → Nat) (w : Nat → va_E) (ho so mi ca ja : Int32)  (i : Int32)  (p14 : w 14 = .inr (1, [.int ho, .int so, .int mi, .int ca, .int ja, .ref (ad 15), .ref (ad 16), .ref (ad 17), .ref (ad 18), .ref (ad 19), .ref (ad 20), .ref (ad 21), .ref (ad 23), .ref (ad 25)])) : NI l G (tyq cI cB cZ cO) yX2_isMilked cX2_isMilked 2 (some .boolean) 0 0 74 ad w [.ref (ad 14), .int i] (fun r w1 => w = w1 ∧ ((¬ bitF mi i = 0 ∧ r = 1) ∨ (bitF mi i = 0 ∧ r = 0))) := by
  refine nk_i (own := "NoonShade$Isle") rfl (by decide) (Nat.le_of_ble_eq_true rfl) ?_
  intro p e s m below meth c ls X hD hN hr hlk h hl
  have hx := X.1.1
  have hb := X.1.2.1
  have hown := X.1.2.2.2.1
  have hts := X.1.2.2.2.2
  have hl : lv_has ls 2 [(0, .ref (ad 14)), (1, .int i)] := hl
  refine lv_aload_n hx hb dX2_isMilked_0 rfl (lv_at hl 0 rfl) ?_
  refine r_get kc2 X h 14 2 (by decide) rfl p14 (by decide) kv_19 rfl dX2_isMilked_1 ?_
  refine lv_iload_n hx hb dX2_isMilked_4 rfl (lv_at hl 1 rfl) ?_
  obtain ⟨z3, e1⟩ : ∃ z : Int32, mi >>> (i &&& 31) = z := ⟨_, rfl⟩
  refine o_ishr (z := z3) hx hb dX2_isMilked_5 e1 ?_
  refine lv_iconst (v := 1) hx hb dX2_isMilked_6 (by decide) ?_
  obtain ⟨z6, e4⟩ : ∃ z : Int32, z3 &&& (1 : Int32) = z := ⟨_, rfl⟩
  refine o_iand (z := z6) hx hb dX2_isMilked_7 e4 ?_
  refine lv_if_eq (tgt := 15) hx hb dX2_isMilked_8 (by decide) (fun hc7 => ?_) (fun hc7 => ?_)
  · have hc7 : (z6).toInt = 0 := i_eq hc7 rfl rfl
    refine lv_iconst (v := 0) hx hb dX2_isMilked_15 (by decide) ?_
    exact e_n X h hr hlk rfl dX2_isMilked_16 ⟨rfl, Or.inr ⟨by unfold bitF; rw [e1, e4]; omega, rfl⟩⟩
  · have hc7 : ¬ (z6).toInt = 0 := i_ne hc7 rfl rfl
    refine lv_iconst (v := 1) hx hb dX2_isMilked_11 (by decide) ?_
    refine lv_goto (tgt := 16) hx hb dX2_isMilked_12 (by decide) ?_
    exact e_n X h hr hlk rfl dX2_isMilked_16 ⟨rfl, Or.inl ⟨by unfold bitF; rw [e1, e4]; omega, rfl⟩⟩

set_option maxHeartbeats 4000000 in
set_option maxRecDepth 100000 in
theorem c_F_givenBehind (l : Launch) (G : va_G) (cI cB cZ cO : ClassId) (ad : Nat → Nat) (w : Nat → va_E) (ho so mi ca ja : Int32) (ck hh : Nat → Int32)  (i : Int32) (n : Int32) (hl_i : 0 ≤ i.toInt) (hh_i : i.toInt ≤ 6) (p14 : w 14 = .inr (1, [.int ho, .int so, .int mi, .int ca, .int ja, .ref (ad 15), .ref (ad 16), .ref (ad 17), .ref (ad 18), .ref (ad 19), .ref (ad 20), .ref (ad 21), .ref (ad 23), .ref (ad 25)])) (p15 : w 15 = .inl (cI, 7, .inl ck)) (p16 : w 16 = .inl (cI, 7, .inl hh)) (ph : rgA 0 9 hh) : NI l G (tyq cI cB cZ cO) yX2_givenBehind cX2_givenBehind 3 (some .int) 2 45 74 ad w [.ref (ad 14), .int i, .int n] (fun r w1 => w = w1 ∧ givF (ck i.toNatClampNeg) (hh i.toNatClampNeg) (rem24 (ho + n)) = r ∧ 0 ≤ r.toInt ∧ r.toInt ≤ 30) := by
  refine nk_i (own := "NoonShade$Isle") rfl (by decide) (Nat.le_of_ble_eq_true rfl) ?_
  intro p e s m below meth c ls X hD hN hr hlk h hl
  have hx := X.1.1
  have hb := X.1.2.1
  have hown := X.1.2.2.2.1
  have hts := X.1.2.2.2.2
  have hl : lv_has ls 3 [(0, .ref (ad 14)), (1, .int i), (2, .int n)] := hl
  refine lv_aload_n hx hb dX2_givenBehind_0 rfl (lv_at hl 0 rfl) ?_
  refine r_get kc2 X h 14 5 (by decide) rfl p14 (by decide) kv_20 rfl dX2_givenBehind_1 ?_
  refine lv_iload_n hx hb dX2_givenBehind_4 rfl (lv_at hl 1 rfl) ?_
  obtain ⟨v1, e2⟩ : ∃ z : Int32, ck i.toNatClampNeg = z := ⟨_, rfl⟩
  refine o_iald (v := v1) X h 15 0 (by decide) rfl p15 rfl (in_of (by omega) (by omega)) e2 dX2_givenBehind_5 ?_
  refine lv_aload_n hx hb dX2_givenBehind_6 rfl (lv_at hl 0 rfl) ?_
  refine r_get kc2 X h 14 6 (by decide) rfl p14 (by decide) kv_21 rfl dX2_givenBehind_7 ?_
  refine lv_iload_n hx hb dX2_givenBehind_10 rfl (lv_at hl 1 rfl) ?_
  obtain ⟨v4, e5⟩ : ∃ z : Int32, hh i.toNatClampNeg = z := ⟨_, rfl⟩
  have h6 := rgA_rd ph e5
  refine o_iald (v := v4) X h 16 0 (by decide) rfl p16 rfl (in_of (by omega) (by omega)) e5 dX2_givenBehind_11 ?_
  refine lv_aload_n hx hb dX2_givenBehind_12 rfl (lv_at hl 0 rfl) ?_
  refine r_get kc2 X h 14 0 (by decide) rfl p14 (by decide) kv_26 rfl dX2_givenBehind_13 ?_
  refine lv_iload_n hx hb dX2_givenBehind_16 rfl (lv_at hl 2 rfl) ?_
  obtain ⟨z9, e7⟩ : ∃ z : Int32, ho + n = z := ⟨_, rfl⟩
  refine o_iadd (z := z9) hx hb dX2_givenBehind_17 e7 ?_
  refine lv_bipush (v := 24) hx hb dX2_givenBehind_18 (by decide) ?_
  obtain ⟨z12, e10, t11, t11b⟩ := x_rem24 z9
  refine o_irem (z := z12) hx hb dX2_givenBehind_20 (by decide) e10 ?_
  refine n_Si (na := 3) (As := [.int v1, .int v4, .int z12]) (rest := []) X hD hN h (c_F_given l G cI cB cZ cO ad w   v1 v4 z12 (by omega) (by omega) (by omega) (by omega) ) ⟨kv_27, kv_28, kv_29, kv_30⟩ ⟨by decide, by decide, by decide⟩ ⟨Nat.le_of_ble_eq_true rfl, Nat.le_of_ble_eq_true rfl⟩ ⟨Nat.zero_le _, Nat.zero_le _⟩ rfl hl.1 rfl (Nat.le_of_ble_eq_true rfl) dX2_givenBehind_21 (fun r13 w14 H locs hp15 h => ?_)
  obtain ⟨rfl, hr16⟩ := hp15
  obtain ⟨hr17, h18, h19⟩ := hr16
  have hret20 : givF (ck i.toNatClampNeg) (hh i.toNatClampNeg) (rem24 (ho + n)) = r13 := by
    subst hr17; subst e10; subst e7; subst e5; subst e2
    (try unfold rem24)
    (repeat' split) <;> first | rfl | (exfalso; omega)
  exact e_i X h hr hlk dX2_givenBehind_24 ⟨rfl, ⟨hret20, by omega, by omega⟩⟩

set_option maxHeartbeats 4000000 in
set_option maxRecDepth 100000 in
theorem c_F_fill (l : Launch) (G : va_G) (cI cB cZ cO : ClassId) (ad : Nat → Nat) (w : Nat → va_E) (co t0 : Nat → Int32) (ok : OK cI cB cZ cO ad w) (j : Int32) (x : Int32) (t : Int32) (hl_j : 0 ≤ j.toInt) (hh_j : j.toInt ≤ 3) (hl_x : 0 ≤ x.toInt) (hh_x : x.toInt ≤ 60) (p19 : w 19 = .inl (cI, 4, .inl co)) (p20 : w 20 = .inl (cI, 4, .inl t0)) (pc : rgA 0 60 co) : NI l G (tyq cI cB cZ cO) yX2_fill cX2_fill 5 (some .int) 1 21 74 ad w [.ref (ad 14), .int j, .int x, .int t] (fun r w1 => OK cI cB cZ cO ad w1 ∧ KB 14 w w1 ∧ camF (co j.toNatClampNeg) x = r ∧ 0 ≤ r.toInt ∧ r.toInt ≤ x.toInt ∧ w1 19 = .inl (cI, 4, .inl (filF co j.toNatClampNeg x)) ∧ ∀ k, k ≠ 19 → k ≠ 20 → w1 k = w k) := by
  refine nk_i (own := "NoonShade$Isle") rfl (by decide) (Nat.le_of_ble_eq_true rfl) ?_
  intro p e s m below meth c ls X hD hN hr hlk h hl
  have hx := X.1.1
  have hb := X.1.2.1
  have hown := X.1.2.2.2.1
  have hts := X.1.2.2.2.2
  have hl : lv_has ls 5 [(0, .ref (ad 14)), (1, .int j), (2, .int x), (3, .int t)] := hl
  refine lv_iload_n hx hb dX2_fill_0 rfl (lv_at hl 2 rfl) ?_
  refine lv_bipush (v := 60) hx hb dX2_fill_1 (by decide) ?_
  refine lv_aload_n hx hb dX2_fill_3 rfl (lv_at hl 0 rfl) ?_
  obtain ⟨q2, q3, q4, q5, q6, f1, h7, h8, h9, h10⟩ := (show sI ad 14 (w 14) from ok 14 (by decide))
  have f11 : w 14 = .inr (1, [.int q2, .int q3, .int q4, .int q5, .int q6, .ref (ad 15), .ref (ad 16), .ref (ad 17), .ref (ad 18), .ref (ad 19), .ref (ad 20), .ref (ad 21), .ref (ad 23), .ref (ad 25)]) := f1
  refine r_get kc2 X h 14 9 (by decide) rfl f11 (by decide) kv_24 rfl dX2_fill_4 ?_
  refine lv_iload_n hx hb dX2_fill_7 rfl (lv_at hl 1 rfl) ?_
  obtain ⟨v12, e13⟩ : ∃ z : Int32, co j.toNatClampNeg = z := ⟨_, rfl⟩
  have h14 := rgA_rd pc e13
  refine o_iald (v := v12) X h 19 0 (by decide) rfl p19 rfl (in_of (by omega) (by omega)) e13 dX2_fill_8 ?_
  obtain ⟨z17, e15, t16⟩ := x_sub (x := (60 : Int32)) (y := v12) (a := 60) (b := (v12).toInt) rfl rfl (by omega) (by omega)
  refine o_isub (z := z17) hx hb dX2_fill_9 e15 ?_
  obtain ⟨z18, e19, t20, t21, t22⟩ := x_min x z17
  refine o_mmin X hl.1 kv_43 kv_5 kv_2 kv_6 ⟨Nat.le_of_ble_eq_true rfl, Nat.le_of_ble_eq_true rfl⟩ (Nat.le_of_ble_eq_true rfl) ⟨Nat.zero_le _, Nat.zero_le _⟩ e19 dX2_fill_10 ?_
  refine lv_istore (lv' := [(4, .int z18), (0, .ref (ad 14)), (1, .int j), (2, .int x), (3, .int t)]) hx hb dX2_fill_13 hl (by decide) rfl (fun ls hl => ?_)
  refine lv_iload hx hb dX2_fill_15 (lv_at hl 0 rfl) ?_
  refine lv_if_le (tgt := 61) hx hb dX2_fill_17 (by decide) (fun hc23 => ?_) (fun hc23 => ?_)
  · have hc23 : (z18).toInt ≤ 0 := i_le hc23 rfl rfl
    refine lv_iload hx hb dX2_fill_61 (lv_at hl 0 rfl) ?_
    have hret24 : camF (co j.toNatClampNeg) x = z18 := min_cam (by rw [e13, e15]; exact e19)
    have hret25 : w 19 = .inl (cI, 4, .inl (filF co j.toNatClampNeg x)) := by
      rw [p19]
      unfold filF; rw [hret24, if_neg (by omega)]
    exact e_i X h hr hlk dX2_fill_63 ⟨ok, KB.rf, ⟨hret24, by omega, by omega, hret25, (fun k h1 h2 => rfl)⟩⟩
  · have hc23 : ¬ (z18).toInt ≤ 0 := i_nle hc23 rfl rfl
    refine lv_aload_n hx hb dX2_fill_20 rfl (lv_at hl 1 rfl) ?_
    refine r_get kc2 X h 14 10 (by decide) rfl f11 (by decide) kv_25 rfl dX2_fill_21 ?_
    refine lv_iload_n hx hb dX2_fill_24 rfl (lv_at hl 2 rfl) ?_
    refine lv_aload_n hx hb dX2_fill_25 rfl (lv_at hl 1 rfl) ?_
    refine r_get kc2 X h 14 9 (by decide) rfl f11 (by decide) kv_24 rfl dX2_fill_26 ?_
    refine lv_iload_n hx hb dX2_fill_29 rfl (lv_at hl 2 rfl) ?_
    refine o_iald (v := v12) X h 19 0 (by decide) rfl p19 rfl (in_of (by omega) (by omega)) e13 dX2_fill_30 ?_
    refine lv_if_eq (tgt := 44) hx hb dX2_fill_31 (by decide) (fun hc26 => ?_) (fun hc26 => ?_)
    · have hc26 : (v12).toInt = 0 := i_eq hc26 rfl rfl
      refine lv_iload_n hx hb dX2_fill_44 rfl (lv_at hl 4 rfl) ?_
      refine lv_goto (tgt := 49) hx hb dX2_fill_45 (by decide) ?_
      obtain ⟨g27, e28⟩ : ∃ z : Nat → Int32, upd t0 j.toNatClampNeg t = z := ⟨_, rfl⟩
      have p30 : anyA g27 := trivial
      refine o_iast (f1 := g27) X hD h 20 0 (by decide) rfl p20 rfl (in_of (by omega) (by omega)) e28 dX2_fill_49 (fun H locs w31 e32 h => ?_)
      have f33 : w31 20 = .inl (cI, 4, .inl g27) := (congrFun e32 _).trans (va_up_self _ _ _)
      have ok34 : OK cI cB cZ cO ad w31 := OK.up ok e32 (sA_mk p30)
      have kx35 : KB 14 w w31 := KB.up KB.rf e32 p20 rfl (by omega)
      refine lv_aload_n hx hb dX2_fill_50 rfl (lv_at hl 1 rfl) ?_
      have f36 : w31 14 = .inr (1, [.int q2, .int q3, .int q4, .int q5, .int q6, .ref (ad 15), .ref (ad 16), .ref (ad 17), .ref (ad 18), .ref (ad 19), .ref (ad 20), .ref (ad 21), .ref (ad 23), .ref (ad 25)]) := by rw [e32, va_up_ne _ _ (by decide)]; exact f11
      refine r_get kc2 X h 14 9 (by decide) rfl f36 (by decide) kv_24 rfl dX2_fill_51 ?_
      refine lv_iload_n hx hb dX2_fill_54 rfl (lv_at hl 2 rfl) ?_
      refine lv_dup2_11 hx hb dX2_fill_55 rfl rfl ?_
      have f37 : w31 19 = .inl (cI, 4, .inl co) := by rw [e32, va_up_ne _ _ (by decide)]; exact p19
      refine o_iald (v := v12) X h 19 0 (by decide) rfl f37 rfl (in_of (by omega) (by omega)) e13 dX2_fill_56 ?_
      refine lv_iload hx hb dX2_fill_57 (lv_at hl 0 rfl) ?_
      obtain ⟨z40, e38, t39⟩ := x_add (x := v12) (y := z18) (a := (v12).toInt) (b := (z18).toInt) rfl rfl (by omega) (by omega)
      have n41 : z40.toNatClampNeg = v12.toNatClampNeg + z18.toNatClampNeg := cl_addn (x := v12) (y := z18) rfl rfl t39 (by omega) (by omega)
      refine o_iadd (z := z40) hx hb dX2_fill_59 e38 ?_
      obtain ⟨g42, e43⟩ : ∃ z : Nat → Int32, upd co j.toNatClampNeg z40 = z := ⟨_, rfl⟩
      have p45 : rgA 0 60 g42 := rgA_upd pc e43 (by omega) (by omega)
      refine o_iast (f1 := g42) X hD h 19 0 (by decide) rfl f37 rfl (in_of (by omega) (by omega)) e43 dX2_fill_60 (fun H locs w46 e47 h => ?_)
      have f48 : w46 19 = .inl (cI, 4, .inl g42) := (congrFun e47 _).trans (va_up_self _ _ _)
      have ok49 : OK cI cB cZ cO ad w46 := OK.up ok34 e47 (sA_mk p45)
      have kx50 : KB 14 w w46 := KB.up kx35 e47 f37 rfl (by omega)
      refine lv_iload hx hb dX2_fill_61 (lv_at hl 0 rfl) ?_
      have hret51 : camF (co j.toNatClampNeg) x = z18 := min_cam (by rw [e13, e15]; exact e19)
      have hret52 : w46 19 = .inl (cI, 4, .inl (filF co j.toNatClampNeg x)) := by
        rw [f48]
        unfold filF; rw [hret51, if_pos (by omega)]
        rw [← e43, ← e38, e13]
      exact e_i X h hr hlk dX2_fill_63 ⟨ok49, kx50, ⟨hret51, by omega, by omega, hret52, (fun k h1 h2 => ((congrFun e47 k).trans (va_up_ne _ _ (by omega))).trans ((congrFun e32 k).trans (va_up_ne _ _ (by omega))))⟩⟩
    · have hc26 : ¬ (v12).toInt = 0 := i_ne hc26 rfl rfl
      refine lv_aload_n hx hb dX2_fill_34 rfl (lv_at hl 1 rfl) ?_
      refine r_get kc2 X h 14 10 (by decide) rfl f11 (by decide) kv_25 rfl dX2_fill_35 ?_
      refine lv_iload_n hx hb dX2_fill_38 rfl (lv_at hl 2 rfl) ?_
      obtain ⟨v53, e54⟩ : ∃ z : Int32, t0 j.toNatClampNeg = z := ⟨_, rfl⟩
      refine o_iald (v := v53) X h 20 0 (by decide) rfl p20 rfl (in_of (by omega) (by omega)) e54 dX2_fill_39 ?_
      refine lv_iload_n hx hb dX2_fill_40 rfl (lv_at hl 4 rfl) ?_
      refine lv_icmp_ne (tgt := 48) hx hb dX2_fill_41 (by decide) (fun hc56 => ?_) (fun hc56 => ?_)
      · have hc56 : ¬ (v53).toInt = (t).toInt := i_ne hc56 rfl rfl
        refine lv_iconst (v := 4) hx hb dX2_fill_48 (by decide) ?_
        obtain ⟨g57, e58⟩ : ∃ z : Nat → Int32, upd t0 j.toNatClampNeg (4 : Int32) = z := ⟨_, rfl⟩
        have p60 : anyA g57 := trivial
        refine o_iast (f1 := g57) X hD h 20 0 (by decide) rfl p20 rfl (in_of (by omega) (by omega)) e58 dX2_fill_49 (fun H locs w61 e62 h => ?_)
        have f63 : w61 20 = .inl (cI, 4, .inl g57) := (congrFun e62 _).trans (va_up_self _ _ _)
        have ok64 : OK cI cB cZ cO ad w61 := OK.up ok e62 (sA_mk p60)
        have kx65 : KB 14 w w61 := KB.up KB.rf e62 p20 rfl (by omega)
        refine lv_aload_n hx hb dX2_fill_50 rfl (lv_at hl 1 rfl) ?_
        have f66 : w61 14 = .inr (1, [.int q2, .int q3, .int q4, .int q5, .int q6, .ref (ad 15), .ref (ad 16), .ref (ad 17), .ref (ad 18), .ref (ad 19), .ref (ad 20), .ref (ad 21), .ref (ad 23), .ref (ad 25)]) := by rw [e62, va_up_ne _ _ (by decide)]; exact f11
        refine r_get kc2 X h 14 9 (by decide) rfl f66 (by decide) kv_24 rfl dX2_fill_51 ?_
        refine lv_iload_n hx hb dX2_fill_54 rfl (lv_at hl 2 rfl) ?_
        refine lv_dup2_11 hx hb dX2_fill_55 rfl rfl ?_
        have f67 : w61 19 = .inl (cI, 4, .inl co) := by rw [e62, va_up_ne _ _ (by decide)]; exact p19
        refine o_iald (v := v12) X h 19 0 (by decide) rfl f67 rfl (in_of (by omega) (by omega)) e13 dX2_fill_56 ?_
        refine lv_iload hx hb dX2_fill_57 (lv_at hl 0 rfl) ?_
        obtain ⟨z70, e68, t69⟩ := x_add (x := v12) (y := z18) (a := (v12).toInt) (b := (z18).toInt) rfl rfl (by omega) (by omega)
        have n71 : z70.toNatClampNeg = v12.toNatClampNeg + z18.toNatClampNeg := cl_addn (x := v12) (y := z18) rfl rfl t69 (by omega) (by omega)
        refine o_iadd (z := z70) hx hb dX2_fill_59 e68 ?_
        obtain ⟨g72, e73⟩ : ∃ z : Nat → Int32, upd co j.toNatClampNeg z70 = z := ⟨_, rfl⟩
        have p75 : rgA 0 60 g72 := rgA_upd pc e73 (by omega) (by omega)
        refine o_iast (f1 := g72) X hD h 19 0 (by decide) rfl f67 rfl (in_of (by omega) (by omega)) e73 dX2_fill_60 (fun H locs w76 e77 h => ?_)
        have f78 : w76 19 = .inl (cI, 4, .inl g72) := (congrFun e77 _).trans (va_up_self _ _ _)
        have ok79 : OK cI cB cZ cO ad w76 := OK.up ok64 e77 (sA_mk p75)
        have kx80 : KB 14 w w76 := KB.up kx65 e77 f67 rfl (by omega)
        refine lv_iload hx hb dX2_fill_61 (lv_at hl 0 rfl) ?_
        have hret81 : camF (co j.toNatClampNeg) x = z18 := min_cam (by rw [e13, e15]; exact e19)
        have hret82 : w76 19 = .inl (cI, 4, .inl (filF co j.toNatClampNeg x)) := by
          rw [f78]
          unfold filF; rw [hret81, if_pos (by omega)]
          rw [← e73, ← e68, e13]
        exact e_i X h hr hlk dX2_fill_63 ⟨ok79, kx80, ⟨hret81, by omega, by omega, hret82, (fun k h1 h2 => ((congrFun e77 k).trans (va_up_ne _ _ (by omega))).trans ((congrFun e62 k).trans (va_up_ne _ _ (by omega))))⟩⟩
      · have hc56 : (v53).toInt = (t).toInt := i_eq hc56 rfl rfl
        refine lv_iload_n hx hb dX2_fill_44 rfl (lv_at hl 4 rfl) ?_
        refine lv_goto (tgt := 49) hx hb dX2_fill_45 (by decide) ?_
        obtain ⟨g83, e84⟩ : ∃ z : Nat → Int32, upd t0 j.toNatClampNeg t = z := ⟨_, rfl⟩
        have p86 : anyA g83 := trivial
        refine o_iast (f1 := g83) X hD h 20 0 (by decide) rfl p20 rfl (in_of (by omega) (by omega)) e84 dX2_fill_49 (fun H locs w87 e88 h => ?_)
        have f89 : w87 20 = .inl (cI, 4, .inl g83) := (congrFun e88 _).trans (va_up_self _ _ _)
        have ok90 : OK cI cB cZ cO ad w87 := OK.up ok e88 (sA_mk p86)
        have kx91 : KB 14 w w87 := KB.up KB.rf e88 p20 rfl (by omega)
        refine lv_aload_n hx hb dX2_fill_50 rfl (lv_at hl 1 rfl) ?_
        have f92 : w87 14 = .inr (1, [.int q2, .int q3, .int q4, .int q5, .int q6, .ref (ad 15), .ref (ad 16), .ref (ad 17), .ref (ad 18), .ref (ad 19), .ref (ad 20), .ref (ad 21), .ref (ad 23), .ref (ad 25)]) := by rw [e88, va_up_ne _ _ (by decide)]; exact f11
        refine r_get kc2 X h 14 9 (by decide) rfl f92 (by decide) kv_24 rfl dX2_fill_51 ?_
        refine lv_iload_n hx hb dX2_fill_54 rfl (lv_at hl 2 rfl) ?_
        refine lv_dup2_11 hx hb dX2_fill_55 rfl rfl ?_
        have f93 : w87 19 = .inl (cI, 4, .inl co) := by rw [e88, va_up_ne _ _ (by decide)]; exact p19
        refine o_iald (v := v12) X h 19 0 (by decide) rfl f93 rfl (in_of (by omega) (by omega)) e13 dX2_fill_56 ?_
        refine lv_iload hx hb dX2_fill_57 (lv_at hl 0 rfl) ?_
        obtain ⟨z96, e94, t95⟩ := x_add (x := v12) (y := z18) (a := (v12).toInt) (b := (z18).toInt) rfl rfl (by omega) (by omega)
        have n97 : z96.toNatClampNeg = v12.toNatClampNeg + z18.toNatClampNeg := cl_addn (x := v12) (y := z18) rfl rfl t95 (by omega) (by omega)
        refine o_iadd (z := z96) hx hb dX2_fill_59 e94 ?_
        obtain ⟨g98, e99⟩ : ∃ z : Nat → Int32, upd co j.toNatClampNeg z96 = z := ⟨_, rfl⟩
        have p101 : rgA 0 60 g98 := rgA_upd pc e99 (by omega) (by omega)
        refine o_iast (f1 := g98) X hD h 19 0 (by decide) rfl f93 rfl (in_of (by omega) (by omega)) e99 dX2_fill_60 (fun H locs w102 e103 h => ?_)
        have f104 : w102 19 = .inl (cI, 4, .inl g98) := (congrFun e103 _).trans (va_up_self _ _ _)
        have ok105 : OK cI cB cZ cO ad w102 := OK.up ok90 e103 (sA_mk p101)
        have kx106 : KB 14 w w102 := KB.up kx91 e103 f93 rfl (by omega)
        refine lv_iload hx hb dX2_fill_61 (lv_at hl 0 rfl) ?_
        have hret107 : camF (co j.toNatClampNeg) x = z18 := min_cam (by rw [e13, e15]; exact e19)
        have hret108 : w102 19 = .inl (cI, 4, .inl (filF co j.toNatClampNeg x)) := by
          rw [f104]
          unfold filF; rw [hret107, if_pos (by omega)]
          rw [← e99, ← e94, e13]
        exact e_i X h hr hlk dX2_fill_63 ⟨ok105, kx106, ⟨hret107, by omega, by omega, hret108, (fun k h1 h2 => ((congrFun e103 k).trans (va_up_ne _ _ (by omega))).trans ((congrFun e88 k).trans (va_up_ne _ _ (by omega))))⟩⟩

set_option maxHeartbeats 4000000 in
set_option maxRecDepth 100000 in
theorem c_F_drain (l : Launch) (G : va_G) (cI cB cZ cO : ClassId) (ad : Nat → Nat) (w : Nat → va_E) (co : Nat → Int32) (ok : OK cI cB cZ cO ad w) (j : Int32) (x : Int32) (hl_j : 0 ≤ j.toInt) (hh_j : j.toInt ≤ 3) (hl_x : (-60) ≤ x.toInt) (hh_x : x.toInt ≤ 60) (p19 : w 19 = .inl (cI, 4, .inl co)) (pc : rgA 0 60 co) (hdr : 0 ≤ (co j.toNatClampNeg).toInt - x.toInt ∧ (co j.toNatClampNeg).toInt - x.toInt ≤ 60) : NV l G (tyq cI cB cZ cO) yX2_drain cX2_drain 3 0 0 74 ad w [.ref (ad 14), .int j, .int x] (fun w1 => OK cI cB cZ cO ad w1 ∧ KB 14 w w1 ∧ w1 19 = .inl (cI, 4, .inl (upd co j.toNatClampNeg (co j.toNatClampNeg - x))) ∧ ∀ k, k ≠ 19 → k ≠ 20 → w1 k = w k) := by
  refine nk_v (own := "NoonShade$Isle") rfl (by decide) (Nat.le_of_ble_eq_true rfl) ?_
  intro p e s m below meth c ls X hD hN hr hlk h hl
  have hx := X.1.1
  have hb := X.1.2.1
  have hown := X.1.2.2.2.1
  have hts := X.1.2.2.2.2
  have hl : lv_has ls 3 [(0, .ref (ad 14)), (1, .int j), (2, .int x)] := hl
  obtain ⟨v0, ev0⟩ : ∃ z : Int32, co (j.toNatClampNeg) = z := ⟨_, rfl⟩
  rw [ev0] at hdr
  have hr0 := rgA_rd pc ev0
  refine lv_aload_n hx hb dX2_drain_0 rfl (lv_at hl 0 rfl) ?_
  obtain ⟨q2, q3, q4, q5, q6, f1, h7, h8, h9, h10⟩ := (show sI ad 14 (w 14) from ok 14 (by decide))
  have f11 : w 14 = .inr (1, [.int q2, .int q3, .int q4, .int q5, .int q6, .ref (ad 15), .ref (ad 16), .ref (ad 17), .ref (ad 18), .ref (ad 19), .ref (ad 20), .ref (ad 21), .ref (ad 23), .ref (ad 25)]) := f1
  refine r_get kc2 X h 14 9 (by decide) rfl f11 (by decide) kv_24 rfl dX2_drain_1 ?_
  refine lv_iload_n hx hb dX2_drain_4 rfl (lv_at hl 1 rfl) ?_
  refine lv_dup2_11 hx hb dX2_drain_5 rfl rfl ?_
  refine o_iald (v := v0) X h 19 0 (by decide) rfl p19 rfl (in_of (by omega) (by omega)) ev0 dX2_drain_6 ?_
  refine lv_iload_n hx hb dX2_drain_7 rfl (lv_at hl 2 rfl) ?_
  obtain ⟨z14, e12, t13⟩ := x_sub (x := v0) (y := x) (a := (v0).toInt) (b := (x).toInt) rfl rfl (by omega) (by omega)
  refine o_isub (z := z14) hx hb dX2_drain_8 e12 ?_
  obtain ⟨g15, e16⟩ : ∃ z : Nat → Int32, upd co j.toNatClampNeg z14 = z := ⟨_, rfl⟩
  have p18 : rgA 0 60 g15 := rgA_upd pc e16 (by omega) (by omega)
  refine o_iast (f1 := g15) X hD h 19 0 (by decide) rfl p19 rfl (in_of (by omega) (by omega)) e16 dX2_drain_9 (fun H locs w19 e20 h => ?_)
  have f21 : w19 19 = .inl (cI, 4, .inl g15) := (congrFun e20 _).trans (va_up_self _ _ _)
  have ok22 : OK cI cB cZ cO ad w19 := OK.up ok e20 (sA_mk p18)
  have kx23 : KB 14 w w19 := KB.up KB.rf e20 p19 rfl (by omega)
  refine lv_aload_n hx hb dX2_drain_10 rfl (lv_at hl 0 rfl) ?_
  have f24 : w19 14 = .inr (1, [.int q2, .int q3, .int q4, .int q5, .int q6, .ref (ad 15), .ref (ad 16), .ref (ad 17), .ref (ad 18), .ref (ad 19), .ref (ad 20), .ref (ad 21), .ref (ad 23), .ref (ad 25)]) := by rw [e20, va_up_ne _ _ (by decide)]; exact f11
  refine r_get kc2 X h 14 9 (by decide) rfl f24 (by decide) kv_24 rfl dX2_drain_11 ?_
  refine lv_iload_n hx hb dX2_drain_14 rfl (lv_at hl 1 rfl) ?_
  obtain ⟨v25, e26⟩ : ∃ z : Int32, g15 j.toNatClampNeg = z := ⟨_, rfl⟩
  have h27 := rgA_rd p18 e26
  refine o_iald (v := v25) X h 19 0 (by decide) rfl f21 rfl (in_of (by omega) (by omega)) e26 dX2_drain_15 ?_
  refine lv_if_ne (tgt := 26) hx hb dX2_drain_16 (by decide) (fun hc28 => ?_) (fun hc28 => ?_)
  · have hc28 : ¬ (v25).toInt = 0 := i_ne hc28 rfl rfl
    have hret29 : w19 19 = .inl (cI, 4, .inl (upd co j.toNatClampNeg (co j.toNatClampNeg - x))) := by
      rw [f21]
      subst e26; subst e16; subst e12; subst ev0; rfl
    exact e_v X h hr hlk dX2_drain_26 ⟨ok22, kx23, ⟨hret29, (fun k h1 h2 => (congrFun e20 k).trans (va_up_ne _ _ (by omega)))⟩⟩
  · have hc28 : (v25).toInt = 0 := i_eq hc28 rfl rfl
    refine lv_aload_n hx hb dX2_drain_19 rfl (lv_at hl 0 rfl) ?_
    refine r_get kc2 X h 14 10 (by decide) rfl f24 (by decide) kv_25 rfl dX2_drain_20 ?_
    refine lv_iload_n hx hb dX2_drain_23 rfl (lv_at hl 1 rfl) ?_
    refine lv_iconst (v := (-1)) hx hb dX2_drain_24 (by decide) ?_
    obtain ⟨g31, f30, p32⟩ := (show sA cI 4 (anyA) (w19 20) from ok22 20 (by decide))
    have f33 : w19 20 = .inl (cI, 4, .inl g31) := f30
    obtain ⟨g34, e35⟩ : ∃ z : Nat → Int32, upd g31 j.toNatClampNeg ((-1) : Int32) = z := ⟨_, rfl⟩
    have p37 : anyA g34 := trivial
    refine o_iast (f1 := g34) X hD h 20 0 (by decide) rfl f33 rfl (in_of (by omega) (by omega)) e35 dX2_drain_25 (fun H locs w38 e39 h => ?_)
    have f40 : w38 20 = .inl (cI, 4, .inl g34) := (congrFun e39 _).trans (va_up_self _ _ _)
    have ok41 : OK cI cB cZ cO ad w38 := OK.up ok22 e39 (sA_mk p37)
    have kx42 : KB 14 w w38 := KB.up kx23 e39 f33 rfl (by omega)
    have f43 : w38 19 = .inl (cI, 4, .inl g15) := by rw [e39, va_up_ne _ _ (by decide)]; exact f21
    have hret44 : w38 19 = .inl (cI, 4, .inl (upd co j.toNatClampNeg (co j.toNatClampNeg - x))) := by
      rw [f43]
      subst e35; subst e26; subst e16; subst e12; subst ev0; rfl
    exact e_v X h hr hlk dX2_drain_26 ⟨ok41, kx42, ⟨hret44, (fun k h1 h2 => ((congrFun e39 k).trans (va_up_ne _ _ (by omega))).trans ((congrFun e20 k).trans (va_up_ne _ _ (by omega))))⟩⟩

set_option maxHeartbeats 4000000 in
set_option maxRecDepth 100000 in
theorem c_F_draw (l : Launch) (G : va_G) (cI cB cZ cO : ClassId) (ad : Nat → Nat) (w : Nat → va_E) (Gh : Nat → Int32) (ok : OK cI cB cZ cO ad w) (i : Int32) (j : Int32) (hl_i : 0 ≤ i.toInt) (hh_i : i.toInt ≤ 6) (hl_j : 0 ≤ j.toInt) (hh_j : j.toInt ≤ 3) (hR : RG cI ad w Gh) (hi : i.toInt < (Gh 0).toInt) (hj : j.toInt < (Gh 1).toInt) : NI l G (tyq cI cB cZ cO) yX2_draw cX2_draw 3 (some .int) 3 67 74 ad w [.ref (ad 14), .int i, .int j] (fun r w1 => OK cI cB cZ cO ad w1 ∧ KB 14 w w1 ∧ RG cI ad w1 (goLaF Gh i j.toNatClampNeg)) := by
  refine nk_i (own := "NoonShade$Isle") rfl (by decide) (Nat.le_of_ble_eq_true rfl) ?_
  intro p e s m below meth c ls X hD hN hr hlk h hl
  have hx := X.1.1
  have hb := X.1.2.1
  have hown := X.1.2.2.2.1
  have hts := X.1.2.2.2.2
  have hl : lv_has ls 3 [(0, .ref (ad 14)), (1, .int i), (2, .int j)] := hl
  obtain ⟨so1, ho2, mi3, ca4, ja5, ck6, hh7, jk8, co9, p10, p11, p12, p13, p14, p15, p16, hG17⟩ := id hR
  have p10 : w 14 = .inr (1, [.int ho2, .int so1, .int mi3, .int ca4, .int ja5, .ref (ad 15), .ref (ad 16), .ref (ad 17), .ref (ad 18), .ref (ad 19), .ref (ad 20), .ref (ad 21), .ref (ad 23), .ref (ad 25)]) := p10
  obtain ⟨hG18, hG19, hG20, hG21, hG22, hG23, hG24, hG25, hG26, hG27, hG28⟩ := id hG17
  have p29 : rgA 0 9 hh7 := sA_pred (show sA cI 7 (rgA 0 9) (w 16) from ok 16 (by decide)) p12
  have p30 : rgA 0 60 co9 := sA_pred (show sA cI 4 (rgA 0 60) (w 19) from ok 19 (by decide)) p14
  rw [hG20] at hi
  rw [hG21] at hj
  refine lv_aload_n hx hb dX2_draw_0 rfl (lv_at hl 0 rfl) ?_
  refine lv_dup hx hb dX2_draw_1 rfl ?_
  refine r_get kc2 X h 14 2 (by decide) rfl p10 (by decide) kv_19 rfl dX2_draw_2 ?_
  refine lv_iconst (v := 1) hx hb dX2_draw_5 (by decide) ?_
  refine lv_iload_n hx hb dX2_draw_6 rfl (lv_at hl 1 rfl) ?_
  obtain ⟨z33, e31, t32, t32b⟩ := x_shl7 (i := i) (by omega) (by omega)
  refine o_ishl (z := z33) hx hb dX2_draw_7 e31 ?_
  obtain ⟨z36, e34⟩ : ∃ z : Int32, mi3 ||| z33 = z := ⟨_, rfl⟩
  refine o_ior (z := z36) hx hb dX2_draw_8 e34 ?_
  refine r_put kc2 X hD h 14 2 (by decide) rfl p10 (by decide) kv_19 rfl rfl rfl (Nat.le_of_ble_eq_true rfl) dX2_draw_9 (fun H locs w37 e38 h => ?_)
  have f39 : w37 14 = .inr (1, [.int ho2, .int so1, .int z36, .int ca4, .int ja5, .ref (ad 15), .ref (ad 16), .ref (ad 17), .ref (ad 18), .ref (ad 19), .ref (ad 20), .ref (ad 21), .ref (ad 23), .ref (ad 25)]) := (congrFun e38 _).trans (va_up_self _ _ _)
  have ok40 : OK cI cB cZ cO ad w37 := OK.up ok e38 (sI_mk (by omega) (by omega) (by omega) (by omega))
  have kx41 : KB 14 w w37 := KB.up KB.rf e38 p10 rfl (by omega)
  refine lv_aload_n hx hb dX2_draw_12 rfl (lv_at hl 0 rfl) ?_
  refine lv_iload_n hx hb dX2_draw_13 rfl (lv_at hl 2 rfl) ?_
  refine lv_aload_n hx hb dX2_draw_14 rfl (lv_at hl 0 rfl) ?_
  refine lv_iload_n hx hb dX2_draw_15 rfl (lv_at hl 1 rfl) ?_
  refine lv_iconst (v := 0) hx hb dX2_draw_16 (by decide) ?_
  have f42 : w37 15 = .inl (cI, 7, .inl ck6) := by rw [e38, va_up_ne _ _ (by decide)]; exact p11
  have f43 : w37 16 = .inl (cI, 7, .inl hh7) := by rw [e38, va_up_ne _ _ (by decide)]; exact p12
  refine n_Vi (na := 2) (As := [.int i, .int 0]) (rest := [.int j, .ref (ad 14)]) X hD hN h rfl (c_F_givenBehind l G cI cB cZ cO ad w37 ho2 so1 z36 ca4 ja5 ck6 hh7  i (0 : Int32) (by omega) (by omega) f39 f42 f43 p29) ⟨kv_39, kv_40, kv_41, kv_37, kv_42⟩ rfl ⟨by decide, by decide, by decide⟩ ⟨Nat.le_of_ble_eq_true rfl, Nat.le_of_ble_eq_true rfl⟩ ⟨Nat.zero_le _, Nat.zero_le _⟩ (by decide) f39 rfl rfl hl.1 rfl (Nat.le_of_ble_eq_true rfl) dX2_draw_17 (fun r44 w45 H locs hp46 h => ?_)
  obtain ⟨rfl, hr47⟩ := hp46
  obtain ⟨hr48, h49, h50⟩ := hr47
  refine lv_aload_n hx hb dX2_draw_20 rfl (lv_at hl 0 rfl) ?_
  refine r_get kc2 X h 14 7 (by decide) rfl f39 (by decide) kv_22 rfl dX2_draw_21 ?_
  refine lv_iload_n hx hb dX2_draw_24 rfl (lv_at hl 1 rfl) ?_
  obtain ⟨g52, f51, p53⟩ := (show sA cI 7 (anyA) (w37 17) from ok40 17 (by decide))
  have f54 : w37 17 = .inl (cI, 7, .inl g52) := f51
  obtain ⟨v55, e56⟩ : ∃ z : Int32, g52 i.toNatClampNeg = z := ⟨_, rfl⟩
  refine o_iald (v := v55) X h 17 0 (by decide) rfl f54 rfl (in_of (by omega) (by omega)) e56 dX2_draw_25 ?_
  have f58 : w37 19 = .inl (cI, 4, .inl co9) := by rw [e38, va_up_ne _ _ (by decide)]; exact p14
  obtain ⟨g60, f59, p61⟩ := (show sA cI 4 (anyA) (w37 20) from ok40 20 (by decide))
  have f62 : w37 20 = .inl (cI, 4, .inl g60) := f59
  refine n_Vi (na := 3) (As := [.int j, .int r44, .int v55]) (rest := []) X hD hN h rfl (c_F_fill l G cI cB cZ cO ad w37 co9 g60 ok40 j r44 v55 (by omega) (by omega) (by omega) (by omega) f58 f62 p30) ⟨kv_44, kv_45, kv_46, kv_37, kv_47⟩ rfl ⟨by decide, by decide, by decide⟩ ⟨Nat.le_of_ble_eq_true rfl, Nat.le_of_ble_eq_true rfl⟩ ⟨Nat.zero_le _, Nat.zero_le _⟩ (by decide) f39 rfl rfl hl.1 rfl (Nat.le_of_ble_eq_true rfl) dX2_draw_26 (fun r63 w64 H locs hp65 h => ?_)
  obtain ⟨ok66, kk67, hr68⟩ := hp65
  have kx69 : KB 14 w w64 := KB.tr kx41 kk67
  obtain ⟨hr70, h71, h72, f73, hf74⟩ := hr68
  obtain ⟨g75, e76⟩ : ∃ z : Nat → Int32, filF co9 j.toNatClampNeg r44 = z := ⟨_, rfl⟩
  rw [e76] at f73
  have q78 := filF_rg (n := j.toNatClampNeg) (x := r44) p30 (by omega)
  rw [e76] at q78
  have p77 : rgA 0 60 g75 := q78.1
  have f79 : w64 14 = .inr (1, [.int ho2, .int so1, .int z36, .int ca4, .int ja5, .ref (ad 15), .ref (ad 16), .ref (ad 17), .ref (ad 18), .ref (ad 19), .ref (ad 20), .ref (ad 21), .ref (ad 23), .ref (ad 25)]) := (hf74 14 (by decide) (by decide)).trans f39
  have f80 : w64 15 = .inl (cI, 7, .inl ck6) := (hf74 15 (by decide) (by decide)).trans f42
  have f81 : w64 16 = .inl (cI, 7, .inl hh7) := (hf74 16 (by decide) (by decide)).trans f43
  have f82 : w37 18 = .inl (cI, 4, .inl jk8) := by rw [e38, va_up_ne _ _ (by decide)]; exact p13
  have f83 : w64 18 = .inl (cI, 4, .inl jk8) := (hf74 18 (by decide) (by decide)).trans f82
  have f84 : w37 21 = .inr (4, [.ref (ad 22), .int 0]) := by rw [e38, va_up_ne _ _ (by decide)]; exact p15
  have f85 : w64 21 = .inr (4, [.ref (ad 22), .int 0]) := (hf74 21 (by decide) (by decide)).trans f84
  have f86 : w37 23 = .inr (4, [.ref (ad 24), .int 0]) := by rw [e38, va_up_ne _ _ (by decide)]; exact p16
  have f87 : w64 23 = .inr (4, [.ref (ad 24), .int 0]) := (hf74 23 (by decide) (by decide)).trans f86
  have hfin88 : RGd (goLaF Gh i j.toNatClampNeg) ho2 z36 ca4 ja5 ck6 hh7 jk8 g75 := by
    subst e76
    subst e56
    subst hr48
    subst e34
    subst e31
    exact ladle_eq hG17 (by have := cl_of (x := i) (by omega); omega) (by have := cl_of (x := j) (by omega); omega)
  exact e_i X h hr hlk dX2_draw_29 ⟨ok66, kx69, ⟨_, _, _, _, _, _, _, _, _, f79, f80, f81, f83, f73, f85, f87, hfin88⟩⟩

set_option maxHeartbeats 4000000 in
set_option maxRecDepth 100000 in
theorem c_F_pour (l : Launch) (G : va_G) (cI cB cZ cO : ClassId) (ad : Nat → Nat) (w : Nat → va_E) (Gh : Nat → Int32) (ok : OK cI cB cZ cO ad w) (j : Int32) (k : Int32) (hl_j : 0 ≤ j.toInt) (hh_j : j.toInt ≤ 3) (hl_k : 0 ≤ k.toInt) (hh_k : k.toInt ≤ 3) (hR : RG cI ad w Gh) (hj : j.toInt < (Gh 1).toInt) (hk : k.toInt < (Gh 1).toInt) : NI l G (tyq cI cB cZ cO) yX2_pour cX2_pour 4 (some .int) 2 45 74 ad w [.ref (ad 14), .int j, .int k] (fun r w1 => OK cI cB cZ cO ad w1 ∧ KB 14 w w1 ∧ RG cI ad w1 (goPoF Gh j.toNatClampNeg k.toNatClampNeg)) := by
  refine nk_i (own := "NoonShade$Isle") rfl (by decide) (Nat.le_of_ble_eq_true rfl) ?_
  intro p e s m below meth c ls X hD hN hr hlk h hl
  have hx := X.1.1
  have hb := X.1.2.1
  have hown := X.1.2.2.2.1
  have hts := X.1.2.2.2.2
  have hl : lv_has ls 4 [(0, .ref (ad 14)), (1, .int j), (2, .int k)] := hl
  obtain ⟨so1, ho2, mi3, ca4, ja5, ck6, hh7, jk8, co9, p10, p11, p12, p13, p14, p15, p16, hG17⟩ := id hR
  have p10 : w 14 = .inr (1, [.int ho2, .int so1, .int mi3, .int ca4, .int ja5, .ref (ad 15), .ref (ad 16), .ref (ad 17), .ref (ad 18), .ref (ad 19), .ref (ad 20), .ref (ad 21), .ref (ad 23), .ref (ad 25)]) := p10
  obtain ⟨hG18, hG19, hG20, hG21, hG22, hG23, hG24, hG25, hG26, hG27, hG28⟩ := id hG17
  have p29 : rgA 0 9 hh7 := sA_pred (show sA cI 7 (rgA 0 9) (w 16) from ok 16 (by decide)) p12
  have p30 : rgA 0 60 co9 := sA_pred (show sA cI 4 (rgA 0 60) (w 19) from ok 19 (by decide)) p14
  rw [hG21] at hj
  rw [hG21] at hk
  refine lv_aload_n hx hb dX2_pour_0 rfl (lv_at hl 0 rfl) ?_
  refine lv_iload_n hx hb dX2_pour_1 rfl (lv_at hl 2 rfl) ?_
  refine lv_aload_n hx hb dX2_pour_2 rfl (lv_at hl 0 rfl) ?_
  refine r_get kc2 X h 14 9 (by decide) rfl p10 (by decide) kv_24 rfl dX2_pour_3 ?_
  refine lv_iload_n hx hb dX2_pour_6 rfl (lv_at hl 1 rfl) ?_
  obtain ⟨v31, e32⟩ : ∃ z : Int32, co9 j.toNatClampNeg = z := ⟨_, rfl⟩
  have h33 := rgA_rd p30 e32
  refine o_iald (v := v31) X h 19 0 (by decide) rfl p14 rfl (in_of (by omega) (by omega)) e32 dX2_pour_7 ?_
  refine lv_aload_n hx hb dX2_pour_8 rfl (lv_at hl 0 rfl) ?_
  refine r_get kc2 X h 14 10 (by decide) rfl p10 (by decide) kv_25 rfl dX2_pour_9 ?_
  refine lv_iload_n hx hb dX2_pour_12 rfl (lv_at hl 1 rfl) ?_
  obtain ⟨g35, f34, p36⟩ := (show sA cI 4 (anyA) (w 20) from ok 20 (by decide))
  have f37 : w 20 = .inl (cI, 4, .inl g35) := f34
  obtain ⟨v38, e39⟩ : ∃ z : Int32, g35 j.toNatClampNeg = z := ⟨_, rfl⟩
  refine o_iald (v := v38) X h 20 0 (by decide) rfl f37 rfl (in_of (by omega) (by omega)) e39 dX2_pour_13 ?_
  refine n_Vi (na := 3) (As := [.int k, .int v31, .int v38]) (rest := []) X hD hN h rfl (c_F_fill l G cI cB cZ cO ad w co9 g35 ok k v31 v38 (by omega) (by omega) (by omega) (by omega) p14 f37 p30) ⟨kv_44, kv_45, kv_46, kv_37, kv_47⟩ rfl ⟨by decide, by decide, by decide⟩ ⟨Nat.le_of_ble_eq_true rfl, Nat.le_of_ble_eq_true rfl⟩ ⟨Nat.zero_le _, Nat.zero_le _⟩ (by decide) p10 rfl rfl hl.1 rfl (Nat.le_of_ble_eq_true rfl) dX2_pour_14 (fun r41 w42 H locs hp43 h => ?_)
  obtain ⟨ok44, kk45, hr46⟩ := hp43
  have kx47 : KB 14 w w42 := kk45
  obtain ⟨hr48, h49, h50, f51, hf52⟩ := hr46
  obtain ⟨g53, e54⟩ : ∃ z : Nat → Int32, filF co9 k.toNatClampNeg v31 = z := ⟨_, rfl⟩
  rw [e54] at f51
  have q56 := filF_rg (n := k.toNatClampNeg) (x := v31) p30 (by omega)
  rw [e54] at q56
  have p55 : rgA 0 60 g53 := q56.1
  refine lv_istore_n (lv' := [(3, .int r41), (0, .ref (ad 14)), (1, .int j), (2, .int k)]) hx hb dX2_pour_17 rfl hl (by decide) rfl (fun ls hl => ?_)
  refine lv_aload_n hx hb dX2_pour_18 rfl (lv_at hl 1 rfl) ?_
  refine lv_iload_n hx hb dX2_pour_19 rfl (lv_at hl 2 rfl) ?_
  refine lv_iload_n hx hb dX2_pour_20 rfl (lv_at hl 0 rfl) ?_
  have q57 := q56.2 j.toNatClampNeg
  rw [e32] at q57
  have q58 := p55 j.toNatClampNeg
  have f62 : w42 14 = .inr (1, [.int ho2, .int so1, .int mi3, .int ca4, .int ja5, .ref (ad 15), .ref (ad 16), .ref (ad 17), .ref (ad 18), .ref (ad 19), .ref (ad 20), .ref (ad 21), .ref (ad 23), .ref (ad 25)]) := (hf52 14 (by decide) (by decide)).trans p10
  refine n_Vv (na := 2) (As := [.int j, .int r41]) (rest := []) X hD hN h rfl (c_F_drain l G cI cB cZ cO ad w42 g53 ok44 j r41 (by omega) (by omega) (by omega) (by omega) f51 p55 (by omega)) ⟨kv_48, kv_49, kv_50, kv_37, kv_51⟩ rfl ⟨by decide, by decide, by decide⟩ ⟨Nat.le_of_ble_eq_true rfl, Nat.le_of_ble_eq_true rfl⟩ ⟨Nat.zero_le _, Nat.zero_le _⟩ (by decide) f62 rfl rfl hl.1 rfl (Nat.le_of_ble_eq_true rfl) dX2_pour_21 (fun w60 H locs hp61 h => ?_)
  obtain ⟨ok63, kk64, hr65⟩ := hp61
  have kx66 : KB 14 w w60 := KB.tr kx47 kk64
  obtain ⟨f67, hf68⟩ := hr65
  obtain ⟨g69, e70⟩ : ∃ z : Nat → Int32, upd g53 j.toNatClampNeg (g53 j.toNatClampNeg - r41) = z := ⟨_, rfl⟩
  rw [e70] at f67
  have p71 : rgA 0 60 g69 := sA_pred (show sA cI 4 (rgA 0 60) (w60 19) from ok63 19 (by decide)) f67
  refine lv_iload_n hx hb dX2_pour_24 rfl (lv_at hl 0 rfl) ?_
  have f72 : w60 14 = .inr (1, [.int ho2, .int so1, .int mi3, .int ca4, .int ja5, .ref (ad 15), .ref (ad 16), .ref (ad 17), .ref (ad 18), .ref (ad 19), .ref (ad 20), .ref (ad 21), .ref (ad 23), .ref (ad 25)]) := (hf68 14 (by decide) (by decide)).trans f62
  have f73 : w42 15 = .inl (cI, 7, .inl ck6) := (hf52 15 (by decide) (by decide)).trans p11
  have f74 : w60 15 = .inl (cI, 7, .inl ck6) := (hf68 15 (by decide) (by decide)).trans f73
  have f75 : w42 16 = .inl (cI, 7, .inl hh7) := (hf52 16 (by decide) (by decide)).trans p12
  have f76 : w60 16 = .inl (cI, 7, .inl hh7) := (hf68 16 (by decide) (by decide)).trans f75
  have f77 : w42 18 = .inl (cI, 4, .inl jk8) := (hf52 18 (by decide) (by decide)).trans p13
  have f78 : w60 18 = .inl (cI, 4, .inl jk8) := (hf68 18 (by decide) (by decide)).trans f77
  have f79 : w42 21 = .inr (4, [.ref (ad 22), .int 0]) := (hf52 21 (by decide) (by decide)).trans p15
  have f80 : w60 21 = .inr (4, [.ref (ad 22), .int 0]) := (hf68 21 (by decide) (by decide)).trans f79
  have f81 : w42 23 = .inr (4, [.ref (ad 24), .int 0]) := (hf52 23 (by decide) (by decide)).trans p16
  have f82 : w60 23 = .inr (4, [.ref (ad 24), .int 0]) := (hf68 23 (by decide) (by decide)).trans f81
  have hfin83 : RGd (goPoF Gh j.toNatClampNeg k.toNatClampNeg) ho2 mi3 ca4 ja5 ck6 hh7 jk8 g69 := by
    subst e70
    subst hr48
    subst e54
    subst e39
    subst e32
    exact pour_eq hG17 (by have := cl_of (x := j) (by omega); omega) (by have := cl_of (x := k) (by omega); omega)
  exact e_i X h hr hlk dX2_pour_25 ⟨ok63, kx66, ⟨_, _, _, _, _, _, _, _, _, f72, f74, f76, f78, f67, f80, f82, hfin83⟩⟩

set_option maxHeartbeats 4000000 in
set_option maxRecDepth 100000 in
theorem c_F_passHour (l : Launch) (G : va_G) (cI cB cZ cO : ClassId) (ad : Nat → Nat) (w : Nat → va_E) (Gh : Nat → Int32) (ok : OK cI cB cZ cO ad w)   (hR : RG cI ad w Gh) : NV l G (tyq cI cB cZ cO) yX2_passHour cX2_passHour 2 2 47 74 ad w [.ref (ad 14)] (fun w1 => OK cI cB cZ cO ad w1 ∧ KB 14 w w1 ∧ RG cI ad w1 (goHoF Gh)) := by
  refine nk_v (own := "NoonShade$Isle") rfl (by decide) (Nat.le_of_ble_eq_true rfl) ?_
  intro p e s m below meth c ls X hD hN hr hlk h hl
  have hx := X.1.1
  have hb := X.1.2.1
  have hown := X.1.2.2.2.1
  have hts := X.1.2.2.2.2
  have hl : lv_has ls 2 [(0, .ref (ad 14))] := hl
  have hja := hR
  obtain ⟨v1, ev1⟩ : ∃ z : Int32, Gh 1 = z := ⟨_, rfl⟩
  have hv1 : 0 ≤ v1.toInt ∧ v1.toInt ≤ 4 := by obtain ⟨_, _, _, _, _, _, _, _, _, _, _, _, _, _, _, _, q⟩ := hR; have q1 := q.2.2.2.1; have q2 := q.2.2.2.2.2.2.2.2.2; rw [ev1] at q1; rw [q1]; exact q2
  refine lv_iconst (v := 0) hx hb dX2_passHour_0 (by decide) ?_
  refine lv_istore_n (lv' := [(1, .int 0), (0, .ref (ad 14))]) hx hb dX2_passHour_1 rfl hl (by decide) rfl (fun ls hl => ?_)
  have hloop3 : ∀ (d4 : Nat) (L1 : Int32) (wL2 : Nat → va_E) (H : Heap) (locs : List Loc) (ls : Array Slot), 0 ≤ L1.toInt → L1.toInt ≤ 4 → L1.toInt ≤ v1.toInt → (RG cI ad wL2 (losN L1.toNatClampNeg Gh)) → OK cI cB cZ cO ad wL2 → KB 14 w wL2 → 4 - L1.toInt < (d4 : Int) → St G 74 ad (wA 74 ad s.heap.size) s.heap wL2 H locs → lv_has ls 2 [(1, .int L1), (0, .ref (ad 14))] → W p l e { frames := 2, cells := 0, slots := 0, locals := 47 } s m [.ref (ad 14)].toArray below meth c H locs 0 0 (MQ below (va_Qv (fun w1 => OK cI cB cZ cO ad w1 ∧ KB 14 w w1 ∧ RG cI ad w1 (goHoF Gh)) (Aft G 74 ad) (wA 74 ad s.heap.size)) [.ref (ad 14)].toArray s 0 0 (wA 74 ad s.heap.size)) (F0 m 2 ls []) := by
    intro d4
    induction d4 with
    | zero => intro L1 wL2 H locs ls hi7 hi8 hi9 hi10 ok11 kx12 hm6 h hl; exfalso; omega
    | succ d4 ih5 =>
      intro L1 wL2 H locs ls hi7 hi8 hi9 hi10 ok11 kx12 hm6 h hl
      obtain ⟨so13, ho14, mi15, ca16, ja17, ck18, hh19, jk20, co21, p22, p23, p24, p25, p26, p27, p28, hG29⟩ := id hi10
      have p22 : wL2 14 = .inr (1, [.int ho14, .int so13, .int mi15, .int ca16, .int ja17, .ref (ad 15), .ref (ad 16), .ref (ad 17), .ref (ad 18), .ref (ad 19), .ref (ad 20), .ref (ad 21), .ref (ad 23), .ref (ad 25)]) := p22
      obtain ⟨hG30, hG31, hG32, hG33, hG34, hG35, hG36, hG37, hG38, hG39, hG40⟩ := id hG29
      have p41 : rgA 0 9 hh19 := sA_pred (show sA cI 7 (rgA 0 9) (wL2 16) from ok11 16 (by decide)) p24
      have p42 : rgA 0 60 co21 := sA_pred (show sA cI 4 (rgA 0 60) (wL2 19) from ok11 19 (by decide)) p26
      have q43 : ja17 = v1 := hG33.symm.trans ((losN_1 _ _).trans ev1)
      have q43n := congrArg Int32.toInt q43
      refine lv_iload_n hx hb dX2_passHour_2 rfl (lv_at hl 0 rfl) ?_
      refine lv_aload_n hx hb dX2_passHour_3 rfl (lv_at hl 1 rfl) ?_
      refine r_get kc2 X h 14 4 (by decide) rfl p22 (by decide) kv_18 rfl dX2_passHour_4 ?_
      refine lv_icmp_ge (tgt := 47) hx hb dX2_passHour_7 (by decide) (fun hc44 => ?_) (fun hc44 => ?_)
      · have hc44 : (ja17).toInt ≤ (L1).toInt := i_le hc44 rfl rfl
        refine lv_aload_n hx hb dX2_passHour_47 rfl (lv_at hl 1 rfl) ?_
        refine lv_dup hx hb dX2_passHour_48 rfl ?_
        refine r_get kc2 X h 14 0 (by decide) rfl p22 (by decide) kv_26 rfl dX2_passHour_49 ?_
        refine lv_iconst (v := 1) hx hb dX2_passHour_52 (by decide) ?_
        obtain ⟨z47, e45⟩ : ∃ z : Int32, ho14 + (1 : Int32) = z := ⟨_, rfl⟩
        refine o_iadd (z := z47) hx hb dX2_passHour_53 e45 ?_
        refine r_put kc2 X hD h 14 0 (by decide) rfl p22 (by decide) kv_26 rfl rfl rfl (Nat.le_of_ble_eq_true rfl) dX2_passHour_54 (fun H locs w48 e49 h => ?_)
        have f50 : w48 14 = .inr (1, [.int z47, .int so13, .int mi15, .int ca16, .int ja17, .ref (ad 15), .ref (ad 16), .ref (ad 17), .ref (ad 18), .ref (ad 19), .ref (ad 20), .ref (ad 21), .ref (ad 23), .ref (ad 25)]) := (congrFun e49 _).trans (va_up_self _ _ _)
        have ok51 : OK cI cB cZ cO ad w48 := OK.up ok11 e49 (sI_mk (by omega) (by omega) (by omega) (by omega))
        have kx52 : KB 14 w w48 := KB.up kx12 e49 p22 rfl (by omega)
        refine lv_aload_n hx hb dX2_passHour_57 rfl (lv_at hl 1 rfl) ?_
        refine lv_iconst (v := 0) hx hb dX2_passHour_58 (by decide) ?_
        refine r_put kc2 X hD h 14 2 (by decide) rfl f50 (by decide) kv_19 rfl rfl rfl (Nat.le_of_ble_eq_true rfl) dX2_passHour_59 (fun H locs w53 e54 h => ?_)
        have f55 : w53 14 = .inr (1, [.int z47, .int so13, .int 0, .int ca16, .int ja17, .ref (ad 15), .ref (ad 16), .ref (ad 17), .ref (ad 18), .ref (ad 19), .ref (ad 20), .ref (ad 21), .ref (ad 23), .ref (ad 25)]) := (congrFun e54 _).trans (va_up_self _ _ _)
        have ok56 : OK cI cB cZ cO ad w53 := OK.up ok51 e54 (sI_mk (by omega) (by omega) (by omega) (by omega))
        have kx57 : KB 14 w w53 := KB.up kx52 e54 f50 rfl (by omega)
        have f58 : w48 15 = .inl (cI, 7, .inl ck18) := by rw [e49, va_up_ne _ _ (by decide)]; exact p23
        have f59 : w53 15 = .inl (cI, 7, .inl ck18) := by rw [e54, va_up_ne _ _ (by decide)]; exact f58
        have f60 : w48 16 = .inl (cI, 7, .inl hh19) := by rw [e49, va_up_ne _ _ (by decide)]; exact p24
        have f61 : w53 16 = .inl (cI, 7, .inl hh19) := by rw [e54, va_up_ne _ _ (by decide)]; exact f60
        have f62 : w48 18 = .inl (cI, 4, .inl jk20) := by rw [e49, va_up_ne _ _ (by decide)]; exact p25
        have f63 : w53 18 = .inl (cI, 4, .inl jk20) := by rw [e54, va_up_ne _ _ (by decide)]; exact f62
        have f64 : w48 19 = .inl (cI, 4, .inl co21) := by rw [e49, va_up_ne _ _ (by decide)]; exact p26
        have f65 : w53 19 = .inl (cI, 4, .inl co21) := by rw [e54, va_up_ne _ _ (by decide)]; exact f64
        have f66 : w48 21 = .inr (4, [.ref (ad 22), .int 0]) := by rw [e49, va_up_ne _ _ (by decide)]; exact p27
        have f67 : w53 21 = .inr (4, [.ref (ad 22), .int 0]) := by rw [e54, va_up_ne _ _ (by decide)]; exact f66
        have f68 : w48 23 = .inr (4, [.ref (ad 24), .int 0]) := by rw [e49, va_up_ne _ _ (by decide)]; exact p28
        have f69 : w53 23 = .inr (4, [.ref (ad 24), .int 0]) := by rw [e54, va_up_ne _ _ (by decide)]; exact f68
        have hj : L1 = v1 := (fa_eq _ _).mpr (by have q9 := congrArg Int32.toInt q43; omega)
        have hfin70 : RGd (goHoF Gh) z47 0 ca16 ja17 ck18 hh19 jk20 co21 := by
          subst e45
          unfold goHoF
          rw [ev1, ← hj]
          exact d_hour hG29
        exact e_v X h hr hlk dX2_passHour_62 ⟨ok56, kx57, ⟨_, _, _, _, _, _, _, _, _, f55, f59, f61, f63, f65, f67, f69, hfin70⟩⟩
      · have hc44 : ¬ (ja17).toInt ≤ (L1).toInt := i_nle hc44 rfl rfl
        refine lv_aload_n hx hb dX2_passHour_10 rfl (lv_at hl 1 rfl) ?_
        refine lv_iload_n hx hb dX2_passHour_11 rfl (lv_at hl 0 rfl) ?_
        refine lv_aload_n hx hb dX2_passHour_12 rfl (lv_at hl 1 rfl) ?_
        refine r_get kc2 X h 14 9 (by decide) rfl p22 (by decide) kv_24 rfl dX2_passHour_13 ?_
        refine lv_iload_n hx hb dX2_passHour_16 rfl (lv_at hl 0 rfl) ?_
        obtain ⟨v71, e72⟩ : ∃ z : Int32, co21 L1.toNatClampNeg = z := ⟨_, rfl⟩
        have h73 := rgA_rd p42 e72
        refine o_iald (v := v71) X h 19 0 (by decide) rfl p26 rfl (in_of (by omega) (by omega)) e72 dX2_passHour_17 ?_
        refine lv_aload_n hx hb dX2_passHour_18 rfl (lv_at hl 1 rfl) ?_
        refine r_get kc2 X h 14 8 (by decide) rfl p22 (by decide) kv_23 rfl dX2_passHour_19 ?_
        refine lv_iload_n hx hb dX2_passHour_22 rfl (lv_at hl 0 rfl) ?_
        obtain ⟨v74, e75⟩ : ∃ z : Int32, jk20 L1.toNatClampNeg = z := ⟨_, rfl⟩
        refine o_iald (v := v74) X h 18 0 (by decide) rfl p25 rfl (in_of (by omega) (by omega)) e75 dX2_passHour_23 ?_
        refine lv_aload_n hx hb dX2_passHour_24 rfl (lv_at hl 1 rfl) ?_
        refine r_get kc2 X h 14 9 (by decide) rfl p22 (by decide) kv_24 rfl dX2_passHour_25 ?_
        refine lv_iload_n hx hb dX2_passHour_28 rfl (lv_at hl 0 rfl) ?_
        refine o_iald (v := v71) X h 19 0 (by decide) rfl p26 rfl (in_of (by omega) (by omega)) e72 dX2_passHour_29 ?_
        refine lv_aload_n hx hb dX2_passHour_30 rfl (lv_at hl 1 rfl) ?_
        refine r_get kc2 X h 14 0 (by decide) rfl p22 (by decide) kv_26 rfl dX2_passHour_31 ?_
        refine n_Si (na := 3) (As := [.int v74, .int v71, .int ho14]) (rest := [.int v71, .int L1, .ref (ad 14)]) X hD hN h (c_F_kept l G cI cB cZ cO ad wL2   v74 v71 ho14 (by omega) (by omega) ) ⟨kv_53, kv_15, kv_9, kv_16⟩ ⟨by decide, by decide, by decide⟩ ⟨Nat.le_of_ble_eq_true rfl, Nat.le_of_ble_eq_true rfl⟩ ⟨Nat.zero_le _, Nat.zero_le _⟩ rfl hl.1 rfl (Nat.le_of_ble_eq_true rfl) dX2_passHour_34 (fun r77 w78 H locs hp79 h => ?_)
        obtain ⟨rfl, hr80⟩ := hp79
        obtain ⟨hr81, h82, h83⟩ := hr80
        obtain ⟨z86, e84, t85⟩ := x_sub (x := v71) (y := r77) (a := (v71).toInt) (b := (r77).toInt) rfl rfl (by omega) (by omega)
        refine o_isub (z := z86) hx hb dX2_passHour_37 e84 ?_
        refine n_Vv (na := 2) (As := [.int L1, .int z86]) (rest := []) X hD hN h rfl (c_F_drain l G cI cB cZ cO ad wL2 co21 ok11 L1 z86 (by omega) (by omega) (by omega) (by omega) p26 p42 (by rw [e72]; omega)) ⟨kv_48, kv_49, kv_50, kv_37, kv_51⟩ rfl ⟨by decide, by decide, by decide⟩ ⟨Nat.le_of_ble_eq_true rfl, Nat.le_of_ble_eq_true rfl⟩ ⟨Nat.zero_le _, Nat.zero_le _⟩ (by decide) p22 rfl rfl hl.1 rfl (Nat.le_of_ble_eq_true rfl) dX2_passHour_38 (fun w88 H locs hp89 h => ?_)
        obtain ⟨ok90, kk91, hr92⟩ := hp89
        have kx93 : KB 14 w w88 := KB.tr kx12 kk91
        obtain ⟨f94, hf95⟩ := hr92
        obtain ⟨g96, e97⟩ : ∃ z : Nat → Int32, upd co21 L1.toNatClampNeg (co21 L1.toNatClampNeg - z86) = z := ⟨_, rfl⟩
        rw [e97] at f94
        have p98 : rgA 0 60 g96 := sA_pred (show sA cI 4 (rgA 0 60) (w88 19) from ok90 19 (by decide)) f94
        obtain ⟨z99, e100, t101⟩ := x_add (x := L1) (y := 1) (a := L1.toInt) (b := 1) rfl rfl (by omega) (by omega)
        have n102 : z99.toNatClampNeg = L1.toNatClampNeg + 1 := cl_addn (x := L1) (y := 1) rfl rfl t101 (by omega) (by decide)
        refine lv_iinc (v := z99) (lv' := [(1, .int z99), (0, .ref (ad 14))]) hx hb dX2_passHour_41 hl (k := 0) rfl e100 (by decide) rfl (fun ls hl => ?_)
        refine lv_goto (tgt := 2) hx hb dX2_passHour_44 (by decide) ?_
        have f104 : w88 14 = .inr (1, [.int ho14, .int so13, .int mi15, .int ca16, .int ja17, .ref (ad 15), .ref (ad 16), .ref (ad 17), .ref (ad 18), .ref (ad 19), .ref (ad 20), .ref (ad 21), .ref (ad 23), .ref (ad 25)]) := (hf95 14 (by decide) (by decide)).trans p22
        have f105 : w88 15 = .inl (cI, 7, .inl ck18) := (hf95 15 (by decide) (by decide)).trans p23
        have f106 : w88 16 = .inl (cI, 7, .inl hh19) := (hf95 16 (by decide) (by decide)).trans p24
        have f107 : w88 18 = .inl (cI, 4, .inl jk20) := (hf95 18 (by decide) (by decide)).trans p25
        have f108 : w88 21 = .inr (4, [.ref (ad 22), .int 0]) := (hf95 21 (by decide) (by decide)).trans p27
        have f109 : w88 23 = .inr (4, [.ref (ad 24), .int 0]) := (hf95 23 (by decide) (by decide)).trans p28
        have hjnhb103 : ((L1.toNatClampNeg : Nat) : Int) < ja17.toInt := by have := cl_of (x := L1) (by omega); omega
        have hfinhb103 : RGd (losN (L1.toNatClampNeg + 1) Gh) ho14 mi15 ca16 ja17 ck18 hh19 jk20 g96 := by
          subst e100
          subst e97
          subst e84
          subst hr81
          subst e75
          subst e72
          show RGd (upd (losN L1.toNatClampNeg Gh) (8 + L1.toNatClampNeg) (losN L1.toNatClampNeg Gh (8 + L1.toNatClampNeg) - golF (losN L1.toNatClampNeg Gh) L1.toNatClampNeg)) _ _ _ _ _ _ _ _
          unfold golF
          rw [← (hG35 _ hjnhb103).1, ← (hG35 _ hjnhb103).2, hG30, sub_sub32]
          exact d_cool hG29 hjnhb103 _
        have hb103 : RG cI ad w88 (losN z99.toNatClampNeg Gh) := by rw [n102]; exact ⟨_, _, _, _, _, _, _, _, _, f104, f105, f106, f107, f94, f108, f109, hfinhb103⟩
        exact ih5  z99 w88 _ _ _ (by omega) (by omega) (by omega) hb103 ok90 kx93 (by omega) h (lv_sub hl [0, 1] rfl)
  exact hloop3 5 (0 : Int32) w _ _ _ (by have q0 : (0 : Int32).toInt = 0 := rfl; omega) (by have q0 : (0 : Int32).toInt = 0 := rfl; omega) (by have q0 : (0 : Int32).toInt = 0 := rfl; omega) hR ok KB.rf (by have q0 : (0 : Int32).toInt = 0 := rfl; omega) h (lv_sub hl [0, 1] rfl)

set_option maxHeartbeats 4000000 in
set_option maxRecDepth 100000 in
theorem c_F_passHours (l : Launch) (G : va_G) (cI cB cZ cO : ClassId) (ad : Nat → Nat) (w : Nat → va_E) (Gh : Nat → Int32) (ok : OK cI cB cZ cO ad w) (n : Int32) (hl_n : 0 ≤ n.toInt) (hh_n : n.toInt ≤ 99) (hR : RG cI ad w Gh) : NV l G (tyq cI cB cZ cO) yX2_passHours cX2_passHours 3 3 68 74 ad w [.ref (ad 14), .int n] (fun w1 => OK cI cB cZ cO ad w1 ∧ KB 14 w w1 ∧ RG cI ad w1 (goHsF n.toNatClampNeg Gh)) := by
  refine nk_v (own := "NoonShade$Isle") rfl (by decide) (Nat.le_of_ble_eq_true rfl) ?_
  intro p e s m below meth c ls X hD hN hr hlk h hl
  have hx := X.1.1
  have hb := X.1.2.1
  have hown := X.1.2.2.2.1
  have hts := X.1.2.2.2.2
  have hl : lv_has ls 3 [(0, .ref (ad 14)), (1, .int n)] := hl
  refine lv_iconst (v := 0) hx hb dX2_passHours_0 (by decide) ?_
  refine lv_istore_n (lv' := [(2, .int 0), (0, .ref (ad 14)), (1, .int n)]) hx hb dX2_passHours_1 rfl hl (by decide) rfl (fun ls hl => ?_)
  have hloop4 : ∀ (d5 : Nat) (L1 : Int32) (C2 : Nat → Int32) (wL3 : Nat → va_E) (H : Heap) (locs : List Loc) (ls : Array Slot), 0 ≤ L1.toInt → L1.toInt ≤ 99 → (RG cI ad wL3 C2) → (goHsF (n.toNatClampNeg - L1.toNatClampNeg) C2 = goHsF n.toNatClampNeg Gh) → OK cI cB cZ cO ad wL3 → KB 14 w wL3 → 99 - L1.toInt < (d5 : Int) → St G 74 ad (wA 74 ad s.heap.size) s.heap wL3 H locs → lv_has ls 3 [(2, .int L1), (0, .ref (ad 14)), (1, .int n)] → W p l e { frames := 3, cells := 0, slots := 0, locals := 68 } s m [.ref (ad 14), .int n].toArray below meth c H locs 0 0 (MQ below (va_Qv (fun w1 => OK cI cB cZ cO ad w1 ∧ KB 14 w w1 ∧ RG cI ad w1 (goHsF n.toNatClampNeg Gh)) (Aft G 74 ad) (wA 74 ad s.heap.size)) [.ref (ad 14), .int n].toArray s 0 0 (wA 74 ad s.heap.size)) (F0 m 2 ls []) := by
    intro d5
    induction d5 with
    | zero => intro L1 C2 wL3 H locs ls hi8 hi9 hi10 hi11 ok12 kx13 hm7 h hl; exfalso; omega
    | succ d5 ih6 =>
      intro L1 C2 wL3 H locs ls hi8 hi9 hi10 hi11 ok12 kx13 hm7 h hl
      obtain ⟨so14, ho15, mi16, ca17, ja18, ck19, hh20, jk21, co22, p23, p24, p25, p26, p27, p28, p29, hG30⟩ := id hi10
      have p23 : wL3 14 = .inr (1, [.int ho15, .int so14, .int mi16, .int ca17, .int ja18, .ref (ad 15), .ref (ad 16), .ref (ad 17), .ref (ad 18), .ref (ad 19), .ref (ad 20), .ref (ad 21), .ref (ad 23), .ref (ad 25)]) := p23
      obtain ⟨hG31, hG32, hG33, hG34, hG35, hG36, hG37, hG38, hG39, hG40, hG41⟩ := id hG30
      have p42 : rgA 0 9 hh20 := sA_pred (show sA cI 7 (rgA 0 9) (wL3 16) from ok12 16 (by decide)) p25
      have p43 : rgA 0 60 co22 := sA_pred (show sA cI 4 (rgA 0 60) (wL3 19) from ok12 19 (by decide)) p27
      refine lv_iload_n hx hb dX2_passHours_2 rfl (lv_at hl 0 rfl) ?_
      refine lv_iload_n hx hb dX2_passHours_3 rfl (lv_at hl 2 rfl) ?_
      refine lv_icmp_ge (tgt := 27) hx hb dX2_passHours_4 (by decide) (fun hc44 => ?_) (fun hc44 => ?_)
      · have hc44 : (n).toInt ≤ (L1).toInt := i_le hc44 rfl rfl
        have hfin45 : RG cI ad wL3 (goHsF n.toNatClampNeg Gh) := by
          rw [← hi11]
          have c1 := cl_of (x := L1) (by omega)
          by_cases q9 : (C2 5).toInt < 9999
          · have c2 : n.toNatClampNeg - L1.toNatClampNeg = 0 := by rw [hG31] at q9; have := cl_le n; omega
            rw [c2]; exact hi10
          · rw [goHsF_stop q9]; exact hi10
        exact e_v X h hr hlk dX2_passHours_27 ⟨ok12, kx13, hfin45⟩
      · have hc44 : ¬ (n).toInt ≤ (L1).toInt := i_nle hc44 rfl rfl
        refine lv_aload_n hx hb dX2_passHours_7 rfl (lv_at hl 1 rfl) ?_
        refine r_get kc2 X h 14 0 (by decide) rfl p23 (by decide) kv_26 rfl dX2_passHours_8 ?_
        refine lv_sipush (v := 9999) hx hb dX2_passHours_11 (by decide) ?_
        refine lv_icmp_ge (tgt := 27) hx hb dX2_passHours_14 (by decide) (fun hc46 => ?_) (fun hc46 => ?_)
        · have hc46 : 9999 ≤ (ho15).toInt := i_le hc46 rfl rfl
          have hfin47 : RG cI ad wL3 (goHsF n.toNatClampNeg Gh) := by
            rw [← hi11]
            have c1 := cl_of (x := L1) (by omega)
            by_cases q9 : (C2 5).toInt < 9999
            · have c2 : n.toNatClampNeg - L1.toNatClampNeg = 0 := by rw [hG31] at q9; have := cl_le n; omega
              rw [c2]; exact hi10
            · rw [goHsF_stop q9]; exact hi10
          exact e_v X h hr hlk dX2_passHours_27 ⟨ok12, kx13, hfin47⟩
        · have hc46 : ¬ 9999 ≤ (ho15).toInt := i_nle hc46 rfl rfl
          refine lv_aload_n hx hb dX2_passHours_17 rfl (lv_at hl 1 rfl) ?_
          refine n_Vv (na := 0) (As := []) (rest := []) X hD hN h rfl (c_F_passHour l G cI cB cZ cO ad wL3 C2 ok12   hi10 ) ⟨kv_54, kv_55, kv_56, kv_37, kv_57⟩ rfl ⟨by decide, by decide, by decide⟩ ⟨Nat.le_of_ble_eq_true rfl, Nat.le_of_ble_eq_true rfl⟩ ⟨Nat.zero_le _, Nat.zero_le _⟩ (by decide) p23 rfl rfl hl.1 rfl (Nat.le_of_ble_eq_true rfl) dX2_passHours_18 (fun w49 H locs hp50 h => ?_)
          obtain ⟨ok51, kk52, hr53⟩ := hp50
          have kx54 : KB 14 w w49 := KB.tr kx13 kk52
          obtain ⟨Gh55, eG56⟩ : ∃ zG : Nat → Int32, goHoF C2 = zG := ⟨_, rfl⟩
          rw [eG56] at hr53
          obtain ⟨z57, e58, t59⟩ := x_add (x := L1) (y := 1) (a := L1.toInt) (b := 1) rfl rfl (by omega) (by omega)
          have n60 : z57.toNatClampNeg = L1.toNatClampNeg + 1 := cl_addn (x := L1) (y := 1) rfl rfl t59 (by omega) (by decide)
          refine lv_iinc (v := z57) (lv' := [(2, .int z57), (0, .ref (ad 14)), (1, .int n)]) hx hb dX2_passHours_21 hl (k := 0) rfl e58 (by decide) rfl (fun ls hl => ?_)
          refine lv_goto (tgt := 2) hx hb dX2_passHours_24 (by decide) ?_
          have hb61 : goHsF (n.toNatClampNeg - z57.toNatClampNeg) Gh55 = goHsF n.toNatClampNeg Gh := by
            have c1 := cl_of (x := n) (by omega)
            have c2 := cl_of (x := L1) (by omega)
            rw [← hi11, n60]
            have c3 : n.toNatClampNeg - L1.toNatClampNeg = (n.toNatClampNeg - (L1.toNatClampNeg + 1)) + 1 := by omega
            rw [c3]
            show _ = (if (C2 5).toInt < 9999 then _ else _)
            rw [if_pos (by rw [hG31]; omega), eG56]
          exact ih6  z57 Gh55 w49 _ _ _ (by omega) (by omega) hr53 hb61 ok51 kx54 (by omega) h (lv_sub hl [0, 1, 2] rfl)
  exact hloop4 100 (0 : Int32) Gh w _ _ _ (by have q0 : (0 : Int32).toInt = 0 := rfl; omega) (by have q0 : (0 : Int32).toInt = 0 := rfl; omega) hR rfl ok KB.rf (by have q0 : (0 : Int32).toInt = 0 := rfl; omega) h (lv_sub hl [0, 1, 2] rfl)

set_option maxHeartbeats 4000000 in
set_option maxRecDepth 100000 in
theorem c_F_addCaster (l : Launch) (G : va_G) (cI cB cZ cO : ClassId) (ad : Nat → Nat) (w : Nat → va_E) (Gh : Nat → Int32) (ok : OK cI cB cZ cO ad w) (k : Int32) (q : Int32) (t : Int32) (hl_q : 0 ≤ q.toInt) (hh_q : q.toInt ≤ 9) (hR : RG cI ad w Gh) (hlt : (Gh 0).toInt < 7) : NI l G (tyq cI cB cZ cO) yX2_addCaster cX2_addCaster 4 (some .int) 0 0 74 ad w [.ref (ad 14), .int k, .int q, .int t] (fun r w1 => OK cI cB cZ cO ad w1 ∧ KB 14 w w1 ∧ RG cI ad w1 (layCF Gh k q t)) := by
  refine nk_i (own := "NoonShade$Isle") rfl (by decide) (Nat.le_of_ble_eq_true rfl) ?_
  intro p e s m below meth c ls X hD hN hr hlk h hl
  have hx := X.1.1
  have hb := X.1.2.1
  have hown := X.1.2.2.2.1
  have hts := X.1.2.2.2.2
  have hl : lv_has ls 4 [(0, .ref (ad 14)), (1, .int k), (2, .int q), (3, .int t)] := hl
  obtain ⟨so1, ho2, mi3, ca4, ja5, ck6, hh7, jk8, co9, p10, p11, p12, p13, p14, p15, p16, hG17⟩ := id hR
  have p10 : w 14 = .inr (1, [.int ho2, .int so1, .int mi3, .int ca4, .int ja5, .ref (ad 15), .ref (ad 16), .ref (ad 17), .ref (ad 18), .ref (ad 19), .ref (ad 20), .ref (ad 21), .ref (ad 23), .ref (ad 25)]) := p10
  obtain ⟨hG18, hG19, hG20, hG21, hG22, hG23, hG24, hG25, hG26, hG27, hG28⟩ := id hG17
  have p29 : rgA 0 9 hh7 := sA_pred (show sA cI 7 (rgA 0 9) (w 16) from ok 16 (by decide)) p12
  have p30 : rgA 0 60 co9 := sA_pred (show sA cI 4 (rgA 0 60) (w 19) from ok 19 (by decide)) p14
  rw [hG20] at hlt
  refine lv_aload_n hx hb dX2_addCaster_0 rfl (lv_at hl 0 rfl) ?_
  refine r_get kc2 X h 14 3 (by decide) rfl p10 (by decide) kv_17 rfl dX2_addCaster_1 ?_
  refine lv_bipush (v := 7) hx hb dX2_addCaster_4 (by decide) ?_
  refine lv_icmp_lt (tgt := 12) hx hb dX2_addCaster_6 (by decide) (fun hc31 => ?_) (fun hc31 => ?_)
  · have hc31 : (ca4).toInt < 7 := i_lt hc31 rfl rfl
    refine lv_aload_n hx hb dX2_addCaster_12 rfl (lv_at hl 0 rfl) ?_
    refine r_get kc2 X h 14 5 (by decide) rfl p10 (by decide) kv_20 rfl dX2_addCaster_13 ?_
    refine lv_aload_n hx hb dX2_addCaster_16 rfl (lv_at hl 0 rfl) ?_
    refine r_get kc2 X h 14 3 (by decide) rfl p10 (by decide) kv_17 rfl dX2_addCaster_17 ?_
    refine lv_iload_n hx hb dX2_addCaster_20 rfl (lv_at hl 1 rfl) ?_
    obtain ⟨g32, e33⟩ : ∃ z : Nat → Int32, upd ck6 ca4.toNatClampNeg k = z := ⟨_, rfl⟩
    have p35 : anyA g32 := trivial
    refine o_iast (f1 := g32) X hD h 15 0 (by decide) rfl p11 rfl (in_of (by omega) (by omega)) e33 dX2_addCaster_21 (fun H locs w36 e37 h => ?_)
    have f38 : w36 15 = .inl (cI, 7, .inl g32) := (congrFun e37 _).trans (va_up_self _ _ _)
    have ok39 : OK cI cB cZ cO ad w36 := OK.up ok e37 (sA_mk p35)
    have kx40 : KB 14 w w36 := KB.up KB.rf e37 p11 rfl (by omega)
    refine lv_aload_n hx hb dX2_addCaster_22 rfl (lv_at hl 0 rfl) ?_
    have f41 : w36 14 = .inr (1, [.int ho2, .int so1, .int mi3, .int ca4, .int ja5, .ref (ad 15), .ref (ad 16), .ref (ad 17), .ref (ad 18), .ref (ad 19), .ref (ad 20), .ref (ad 21), .ref (ad 23), .ref (ad 25)]) := by rw [e37, va_up_ne _ _ (by decide)]; exact p10
    refine r_get kc2 X h 14 6 (by decide) rfl f41 (by decide) kv_21 rfl dX2_addCaster_23 ?_
    refine lv_aload_n hx hb dX2_addCaster_26 rfl (lv_at hl 0 rfl) ?_
    refine r_get kc2 X h 14 3 (by decide) rfl f41 (by decide) kv_17 rfl dX2_addCaster_27 ?_
    refine lv_iload_n hx hb dX2_addCaster_30 rfl (lv_at hl 2 rfl) ?_
    have f42 : w36 16 = .inl (cI, 7, .inl hh7) := by rw [e37, va_up_ne _ _ (by decide)]; exact p12
    obtain ⟨g43, e44⟩ : ∃ z : Nat → Int32, upd hh7 ca4.toNatClampNeg q = z := ⟨_, rfl⟩
    have p46 : rgA 0 9 g43 := rgA_upd p29 e44 (by omega) (by omega)
    refine o_iast (f1 := g43) X hD h 16 0 (by decide) rfl f42 rfl (in_of (by omega) (by omega)) e44 dX2_addCaster_31 (fun H locs w47 e48 h => ?_)
    have f49 : w47 16 = .inl (cI, 7, .inl g43) := (congrFun e48 _).trans (va_up_self _ _ _)
    have ok50 : OK cI cB cZ cO ad w47 := OK.up ok39 e48 (sA_mk p46)
    have kx51 : KB 14 w w47 := KB.up kx40 e48 f42 rfl (by omega)
    refine lv_aload_n hx hb dX2_addCaster_32 rfl (lv_at hl 0 rfl) ?_
    have f52 : w47 14 = .inr (1, [.int ho2, .int so1, .int mi3, .int ca4, .int ja5, .ref (ad 15), .ref (ad 16), .ref (ad 17), .ref (ad 18), .ref (ad 19), .ref (ad 20), .ref (ad 21), .ref (ad 23), .ref (ad 25)]) := by rw [e48, va_up_ne _ _ (by decide)]; exact f41
    refine r_get kc2 X h 14 7 (by decide) rfl f52 (by decide) kv_22 rfl dX2_addCaster_33 ?_
    refine lv_aload_n hx hb dX2_addCaster_36 rfl (lv_at hl 0 rfl) ?_
    refine r_get kc2 X h 14 3 (by decide) rfl f52 (by decide) kv_17 rfl dX2_addCaster_37 ?_
    refine lv_iload_n hx hb dX2_addCaster_40 rfl (lv_at hl 3 rfl) ?_
    obtain ⟨g54, f53, p55⟩ := (show sA cI 7 (anyA) (w47 17) from ok50 17 (by decide))
    have f56 : w47 17 = .inl (cI, 7, .inl g54) := f53
    obtain ⟨g57, e58⟩ : ∃ z : Nat → Int32, upd g54 ca4.toNatClampNeg t = z := ⟨_, rfl⟩
    have p60 : anyA g57 := trivial
    refine o_iast (f1 := g57) X hD h 17 0 (by decide) rfl f56 rfl (in_of (by omega) (by omega)) e58 dX2_addCaster_41 (fun H locs w61 e62 h => ?_)
    have f63 : w61 17 = .inl (cI, 7, .inl g57) := (congrFun e62 _).trans (va_up_self _ _ _)
    have ok64 : OK cI cB cZ cO ad w61 := OK.up ok50 e62 (sA_mk p60)
    have kx65 : KB 14 w w61 := KB.up kx51 e62 f56 rfl (by omega)
    refine lv_aload_n hx hb dX2_addCaster_42 rfl (lv_at hl 0 rfl) ?_
    refine lv_dup hx hb dX2_addCaster_43 rfl ?_
    have f66 : w61 14 = .inr (1, [.int ho2, .int so1, .int mi3, .int ca4, .int ja5, .ref (ad 15), .ref (ad 16), .ref (ad 17), .ref (ad 18), .ref (ad 19), .ref (ad 20), .ref (ad 21), .ref (ad 23), .ref (ad 25)]) := by rw [e62, va_up_ne _ _ (by decide)]; exact f52
    refine r_get kc2 X h 14 3 (by decide) rfl f66 (by decide) kv_17 rfl dX2_addCaster_44 ?_
    refine lv_iconst (v := 1) hx hb dX2_addCaster_47 (by decide) ?_
    obtain ⟨z69, e67, t68⟩ := x_add (x := ca4) (y := (1 : Int32)) (a := (ca4).toInt) (b := 1) rfl rfl (by omega) (by omega)
    have n70 : z69.toNatClampNeg = ca4.toNatClampNeg + 1 := cl_addn (x := ca4) (y := (1 : Int32)) rfl rfl t68 (by omega) (by decide)
    refine o_iadd (z := z69) hx hb dX2_addCaster_48 e67 ?_
    refine r_put kc2 X hD h 14 3 (by decide) rfl f66 (by decide) kv_17 rfl rfl rfl (Nat.le_of_ble_eq_true rfl) dX2_addCaster_49 (fun H locs w71 e72 h => ?_)
    have f73 : w71 14 = .inr (1, [.int ho2, .int so1, .int mi3, .int z69, .int ja5, .ref (ad 15), .ref (ad 16), .ref (ad 17), .ref (ad 18), .ref (ad 19), .ref (ad 20), .ref (ad 21), .ref (ad 23), .ref (ad 25)]) := (congrFun e72 _).trans (va_up_self _ _ _)
    have ok74 : OK cI cB cZ cO ad w71 := OK.up ok64 e72 (sI_mk (by omega) (by omega) (by omega) (by omega))
    have kx75 : KB 14 w w71 := KB.up kx65 e72 f66 rfl (by omega)
    refine lv_aload_n hx hb dX2_addCaster_52 rfl (lv_at hl 0 rfl) ?_
    refine r_get kc2 X h 14 3 (by decide) rfl f73 (by decide) kv_17 rfl dX2_addCaster_53 ?_
    refine lv_iconst (v := 1) hx hb dX2_addCaster_56 (by decide) ?_
    obtain ⟨z78, e76, t77⟩ := x_sub (x := z69) (y := (1 : Int32)) (a := (z69).toInt) (b := 1) rfl rfl (by omega) (by omega)
    refine o_isub (z := z78) hx hb dX2_addCaster_57 e76 ?_
    have f79 : w47 15 = .inl (cI, 7, .inl g32) := by rw [e48, va_up_ne _ _ (by decide)]; exact f38
    have f80 : w61 15 = .inl (cI, 7, .inl g32) := by rw [e62, va_up_ne _ _ (by decide)]; exact f79
    have f81 : w71 15 = .inl (cI, 7, .inl g32) := by rw [e72, va_up_ne _ _ (by decide)]; exact f80
    have f82 : w61 16 = .inl (cI, 7, .inl g43) := by rw [e62, va_up_ne _ _ (by decide)]; exact f49
    have f83 : w71 16 = .inl (cI, 7, .inl g43) := by rw [e72, va_up_ne _ _ (by decide)]; exact f82
    have f84 : w36 18 = .inl (cI, 4, .inl jk8) := by rw [e37, va_up_ne _ _ (by decide)]; exact p13
    have f85 : w47 18 = .inl (cI, 4, .inl jk8) := by rw [e48, va_up_ne _ _ (by decide)]; exact f84
    have f86 : w61 18 = .inl (cI, 4, .inl jk8) := by rw [e62, va_up_ne _ _ (by decide)]; exact f85
    have f87 : w71 18 = .inl (cI, 4, .inl jk8) := by rw [e72, va_up_ne _ _ (by decide)]; exact f86
    have f88 : w36 19 = .inl (cI, 4, .inl co9) := by rw [e37, va_up_ne _ _ (by decide)]; exact p14
    have f89 : w47 19 = .inl (cI, 4, .inl co9) := by rw [e48, va_up_ne _ _ (by decide)]; exact f88
    have f90 : w61 19 = .inl (cI, 4, .inl co9) := by rw [e62, va_up_ne _ _ (by decide)]; exact f89
    have f91 : w71 19 = .inl (cI, 4, .inl co9) := by rw [e72, va_up_ne _ _ (by decide)]; exact f90
    have f92 : w36 21 = .inr (4, [.ref (ad 22), .int 0]) := by rw [e37, va_up_ne _ _ (by decide)]; exact p15
    have f93 : w47 21 = .inr (4, [.ref (ad 22), .int 0]) := by rw [e48, va_up_ne _ _ (by decide)]; exact f92
    have f94 : w61 21 = .inr (4, [.ref (ad 22), .int 0]) := by rw [e62, va_up_ne _ _ (by decide)]; exact f93
    have f95 : w71 21 = .inr (4, [.ref (ad 22), .int 0]) := by rw [e72, va_up_ne _ _ (by decide)]; exact f94
    have f96 : w36 23 = .inr (4, [.ref (ad 24), .int 0]) := by rw [e37, va_up_ne _ _ (by decide)]; exact p16
    have f97 : w47 23 = .inr (4, [.ref (ad 24), .int 0]) := by rw [e48, va_up_ne _ _ (by decide)]; exact f96
    have f98 : w61 23 = .inr (4, [.ref (ad 24), .int 0]) := by rw [e62, va_up_ne _ _ (by decide)]; exact f97
    have f99 : w71 23 = .inr (4, [.ref (ad 24), .int 0]) := by rw [e72, va_up_ne _ _ (by decide)]; exact f98
    have hfin100 : RGd (layCF Gh k q t) ho2 mi3 z69 ja5 g32 g43 jk8 co9 := by
      subst e76
      subst e67
      subst e58
      subst e44
      subst e33
      exact d_cast hG17 (by omega) k q t
    exact e_i X h hr hlk dX2_addCaster_58 ⟨ok74, kx75, ⟨_, _, _, _, _, _, _, _, _, f73, f81, f83, f87, f91, f95, f99, hfin100⟩⟩
  · have hc31 : ¬ (ca4).toInt < 7 := i_nlt hc31 rfl rfl
    exfalso; omega

set_option maxHeartbeats 4000000 in
set_option maxRecDepth 100000 in
theorem c_F_addJar (l : Launch) (G : va_G) (cI cB cZ cO : ClassId) (ad : Nat → Nat) (w : Nat → va_E) (Gh : Nat → Int32) (ok : OK cI cB cZ cO ad w) (k : Int32)  (hR : RG cI ad w Gh) (hlt : (Gh 1).toInt < 4) : NI l G (tyq cI cB cZ cO) yX2_addJar cX2_addJar 2 (some .int) 0 0 74 ad w [.ref (ad 14), .int k] (fun r w1 => OK cI cB cZ cO ad w1 ∧ KB 14 w w1 ∧ RG cI ad w1 (layJF Gh k)) := by
  refine nk_i (own := "NoonShade$Isle") rfl (by decide) (Nat.le_of_ble_eq_true rfl) ?_
  intro p e s m below meth c ls X hD hN hr hlk h hl
  have hx := X.1.1
  have hb := X.1.2.1
  have hown := X.1.2.2.2.1
  have hts := X.1.2.2.2.2
  have hl : lv_has ls 2 [(0, .ref (ad 14)), (1, .int k)] := hl
  obtain ⟨so1, ho2, mi3, ca4, ja5, ck6, hh7, jk8, co9, p10, p11, p12, p13, p14, p15, p16, hG17⟩ := id hR
  have p10 : w 14 = .inr (1, [.int ho2, .int so1, .int mi3, .int ca4, .int ja5, .ref (ad 15), .ref (ad 16), .ref (ad 17), .ref (ad 18), .ref (ad 19), .ref (ad 20), .ref (ad 21), .ref (ad 23), .ref (ad 25)]) := p10
  obtain ⟨hG18, hG19, hG20, hG21, hG22, hG23, hG24, hG25, hG26, hG27, hG28⟩ := id hG17
  have p29 : rgA 0 9 hh7 := sA_pred (show sA cI 7 (rgA 0 9) (w 16) from ok 16 (by decide)) p12
  have p30 : rgA 0 60 co9 := sA_pred (show sA cI 4 (rgA 0 60) (w 19) from ok 19 (by decide)) p14
  rw [hG21] at hlt
  refine lv_aload_n hx hb dX2_addJar_0 rfl (lv_at hl 0 rfl) ?_
  refine r_get kc2 X h 14 4 (by decide) rfl p10 (by decide) kv_18 rfl dX2_addJar_1 ?_
  refine lv_iconst (v := 4) hx hb dX2_addJar_4 (by decide) ?_
  refine lv_icmp_lt (tgt := 11) hx hb dX2_addJar_5 (by decide) (fun hc31 => ?_) (fun hc31 => ?_)
  · have hc31 : (ja5).toInt < 4 := i_lt hc31 rfl rfl
    refine lv_aload_n hx hb dX2_addJar_11 rfl (lv_at hl 0 rfl) ?_
    refine r_get kc2 X h 14 8 (by decide) rfl p10 (by decide) kv_23 rfl dX2_addJar_12 ?_
    refine lv_aload_n hx hb dX2_addJar_15 rfl (lv_at hl 0 rfl) ?_
    refine r_get kc2 X h 14 4 (by decide) rfl p10 (by decide) kv_18 rfl dX2_addJar_16 ?_
    refine lv_iload_n hx hb dX2_addJar_19 rfl (lv_at hl 1 rfl) ?_
    obtain ⟨g32, e33⟩ : ∃ z : Nat → Int32, upd jk8 ja5.toNatClampNeg k = z := ⟨_, rfl⟩
    have p35 : anyA g32 := trivial
    refine o_iast (f1 := g32) X hD h 18 0 (by decide) rfl p13 rfl (in_of (by omega) (by omega)) e33 dX2_addJar_20 (fun H locs w36 e37 h => ?_)
    have f38 : w36 18 = .inl (cI, 4, .inl g32) := (congrFun e37 _).trans (va_up_self _ _ _)
    have ok39 : OK cI cB cZ cO ad w36 := OK.up ok e37 (sA_mk p35)
    have kx40 : KB 14 w w36 := KB.up KB.rf e37 p13 rfl (by omega)
    refine lv_aload_n hx hb dX2_addJar_21 rfl (lv_at hl 0 rfl) ?_
    have f41 : w36 14 = .inr (1, [.int ho2, .int so1, .int mi3, .int ca4, .int ja5, .ref (ad 15), .ref (ad 16), .ref (ad 17), .ref (ad 18), .ref (ad 19), .ref (ad 20), .ref (ad 21), .ref (ad 23), .ref (ad 25)]) := by rw [e37, va_up_ne _ _ (by decide)]; exact p10
    refine r_get kc2 X h 14 9 (by decide) rfl f41 (by decide) kv_24 rfl dX2_addJar_22 ?_
    refine lv_aload_n hx hb dX2_addJar_25 rfl (lv_at hl 0 rfl) ?_
    refine r_get kc2 X h 14 4 (by decide) rfl f41 (by decide) kv_18 rfl dX2_addJar_26 ?_
    refine lv_iconst (v := 0) hx hb dX2_addJar_29 (by decide) ?_
    have f42 : w36 19 = .inl (cI, 4, .inl co9) := by rw [e37, va_up_ne _ _ (by decide)]; exact p14
    obtain ⟨g43, e44⟩ : ∃ z : Nat → Int32, upd co9 ja5.toNatClampNeg (0 : Int32) = z := ⟨_, rfl⟩
    have p46 : rgA 0 60 g43 := rgA_upd p30 e44 (by decide) (by decide)
    refine o_iast (f1 := g43) X hD h 19 0 (by decide) rfl f42 rfl (in_of (by omega) (by omega)) e44 dX2_addJar_30 (fun H locs w47 e48 h => ?_)
    have f49 : w47 19 = .inl (cI, 4, .inl g43) := (congrFun e48 _).trans (va_up_self _ _ _)
    have ok50 : OK cI cB cZ cO ad w47 := OK.up ok39 e48 (sA_mk p46)
    have kx51 : KB 14 w w47 := KB.up kx40 e48 f42 rfl (by omega)
    refine lv_aload_n hx hb dX2_addJar_31 rfl (lv_at hl 0 rfl) ?_
    have f52 : w47 14 = .inr (1, [.int ho2, .int so1, .int mi3, .int ca4, .int ja5, .ref (ad 15), .ref (ad 16), .ref (ad 17), .ref (ad 18), .ref (ad 19), .ref (ad 20), .ref (ad 21), .ref (ad 23), .ref (ad 25)]) := by rw [e48, va_up_ne _ _ (by decide)]; exact f41
    refine r_get kc2 X h 14 10 (by decide) rfl f52 (by decide) kv_25 rfl dX2_addJar_32 ?_
    refine lv_aload_n hx hb dX2_addJar_35 rfl (lv_at hl 0 rfl) ?_
    refine r_get kc2 X h 14 4 (by decide) rfl f52 (by decide) kv_18 rfl dX2_addJar_36 ?_
    refine lv_iconst (v := (-1)) hx hb dX2_addJar_39 (by decide) ?_
    obtain ⟨g54, f53, p55⟩ := (show sA cI 4 (anyA) (w47 20) from ok50 20 (by decide))
    have f56 : w47 20 = .inl (cI, 4, .inl g54) := f53
    obtain ⟨g57, e58⟩ : ∃ z : Nat → Int32, upd g54 ja5.toNatClampNeg ((-1) : Int32) = z := ⟨_, rfl⟩
    have p60 : anyA g57 := trivial
    refine o_iast (f1 := g57) X hD h 20 0 (by decide) rfl f56 rfl (in_of (by omega) (by omega)) e58 dX2_addJar_40 (fun H locs w61 e62 h => ?_)
    have f63 : w61 20 = .inl (cI, 4, .inl g57) := (congrFun e62 _).trans (va_up_self _ _ _)
    have ok64 : OK cI cB cZ cO ad w61 := OK.up ok50 e62 (sA_mk p60)
    have kx65 : KB 14 w w61 := KB.up kx51 e62 f56 rfl (by omega)
    refine lv_aload_n hx hb dX2_addJar_41 rfl (lv_at hl 0 rfl) ?_
    refine lv_dup hx hb dX2_addJar_42 rfl ?_
    have f66 : w61 14 = .inr (1, [.int ho2, .int so1, .int mi3, .int ca4, .int ja5, .ref (ad 15), .ref (ad 16), .ref (ad 17), .ref (ad 18), .ref (ad 19), .ref (ad 20), .ref (ad 21), .ref (ad 23), .ref (ad 25)]) := by rw [e62, va_up_ne _ _ (by decide)]; exact f52
    refine r_get kc2 X h 14 4 (by decide) rfl f66 (by decide) kv_18 rfl dX2_addJar_43 ?_
    refine lv_iconst (v := 1) hx hb dX2_addJar_46 (by decide) ?_
    obtain ⟨z69, e67, t68⟩ := x_add (x := ja5) (y := (1 : Int32)) (a := (ja5).toInt) (b := 1) rfl rfl (by omega) (by omega)
    have n70 : z69.toNatClampNeg = ja5.toNatClampNeg + 1 := cl_addn (x := ja5) (y := (1 : Int32)) rfl rfl t68 (by omega) (by decide)
    refine o_iadd (z := z69) hx hb dX2_addJar_47 e67 ?_
    refine r_put kc2 X hD h 14 4 (by decide) rfl f66 (by decide) kv_18 rfl rfl rfl (Nat.le_of_ble_eq_true rfl) dX2_addJar_48 (fun H locs w71 e72 h => ?_)
    have f73 : w71 14 = .inr (1, [.int ho2, .int so1, .int mi3, .int ca4, .int z69, .ref (ad 15), .ref (ad 16), .ref (ad 17), .ref (ad 18), .ref (ad 19), .ref (ad 20), .ref (ad 21), .ref (ad 23), .ref (ad 25)]) := (congrFun e72 _).trans (va_up_self _ _ _)
    have ok74 : OK cI cB cZ cO ad w71 := OK.up ok64 e72 (sI_mk (by omega) (by omega) (by omega) (by omega))
    have kx75 : KB 14 w w71 := KB.up kx65 e72 f66 rfl (by omega)
    refine lv_aload_n hx hb dX2_addJar_51 rfl (lv_at hl 0 rfl) ?_
    refine r_get kc2 X h 14 4 (by decide) rfl f73 (by decide) kv_18 rfl dX2_addJar_52 ?_
    refine lv_iconst (v := 1) hx hb dX2_addJar_55 (by decide) ?_
    obtain ⟨z78, e76, t77⟩ := x_sub (x := z69) (y := (1 : Int32)) (a := (z69).toInt) (b := 1) rfl rfl (by omega) (by omega)
    refine o_isub (z := z78) hx hb dX2_addJar_56 e76 ?_
    have f79 : w36 15 = .inl (cI, 7, .inl ck6) := by rw [e37, va_up_ne _ _ (by decide)]; exact p11
    have f80 : w47 15 = .inl (cI, 7, .inl ck6) := by rw [e48, va_up_ne _ _ (by decide)]; exact f79
    have f81 : w61 15 = .inl (cI, 7, .inl ck6) := by rw [e62, va_up_ne _ _ (by decide)]; exact f80
    have f82 : w71 15 = .inl (cI, 7, .inl ck6) := by rw [e72, va_up_ne _ _ (by decide)]; exact f81
    have f83 : w36 16 = .inl (cI, 7, .inl hh7) := by rw [e37, va_up_ne _ _ (by decide)]; exact p12
    have f84 : w47 16 = .inl (cI, 7, .inl hh7) := by rw [e48, va_up_ne _ _ (by decide)]; exact f83
    have f85 : w61 16 = .inl (cI, 7, .inl hh7) := by rw [e62, va_up_ne _ _ (by decide)]; exact f84
    have f86 : w71 16 = .inl (cI, 7, .inl hh7) := by rw [e72, va_up_ne _ _ (by decide)]; exact f85
    have f87 : w47 18 = .inl (cI, 4, .inl g32) := by rw [e48, va_up_ne _ _ (by decide)]; exact f38
    have f88 : w61 18 = .inl (cI, 4, .inl g32) := by rw [e62, va_up_ne _ _ (by decide)]; exact f87
    have f89 : w71 18 = .inl (cI, 4, .inl g32) := by rw [e72, va_up_ne _ _ (by decide)]; exact f88
    have f90 : w61 19 = .inl (cI, 4, .inl g43) := by rw [e62, va_up_ne _ _ (by decide)]; exact f49
    have f91 : w71 19 = .inl (cI, 4, .inl g43) := by rw [e72, va_up_ne _ _ (by decide)]; exact f90
    have f92 : w36 21 = .inr (4, [.ref (ad 22), .int 0]) := by rw [e37, va_up_ne _ _ (by decide)]; exact p15
    have f93 : w47 21 = .inr (4, [.ref (ad 22), .int 0]) := by rw [e48, va_up_ne _ _ (by decide)]; exact f92
    have f94 : w61 21 = .inr (4, [.ref (ad 22), .int 0]) := by rw [e62, va_up_ne _ _ (by decide)]; exact f93
    have f95 : w71 21 = .inr (4, [.ref (ad 22), .int 0]) := by rw [e72, va_up_ne _ _ (by decide)]; exact f94
    have f96 : w36 23 = .inr (4, [.ref (ad 24), .int 0]) := by rw [e37, va_up_ne _ _ (by decide)]; exact p16
    have f97 : w47 23 = .inr (4, [.ref (ad 24), .int 0]) := by rw [e48, va_up_ne _ _ (by decide)]; exact f96
    have f98 : w61 23 = .inr (4, [.ref (ad 24), .int 0]) := by rw [e62, va_up_ne _ _ (by decide)]; exact f97
    have f99 : w71 23 = .inr (4, [.ref (ad 24), .int 0]) := by rw [e72, va_up_ne _ _ (by decide)]; exact f98
    have hfin100 : RGd (layJF Gh k) ho2 mi3 ca4 z69 ck6 hh7 g32 g43 := by
      subst e76
      subst e67
      subst e58
      subst e44
      subst e33
      exact d_jar hG17 (by omega) k
    exact e_i X h hr hlk dX2_addJar_57 ⟨ok74, kx75, ⟨_, _, _, _, _, _, _, _, _, f73, f82, f86, f89, f91, f95, f99, hfin100⟩⟩
  · have hc31 : ¬ (ja5).toInt < 4 := i_nlt hc31 rfl rfl
    exfalso; omega

set_option maxHeartbeats 4000000 in
set_option maxRecDepth 100000 in
theorem c_F_begin (l : Launch) (G : va_G) (cI cB cZ cO : ClassId) (ad : Nat → Nat) (w : Nat → va_E)  (ok : OK cI cB cZ cO ad w) (t : Int32)   : NV l G (tyq cI cB cZ cO) yX2_begin cX2_begin 2 1 21 74 ad w [.ref (ad 14), .int t] (fun w1 => OK cI cB cZ cO ad w1 ∧ KB 14 w w1 ∧ RG cI ad w1 (begF t)) := by
  refine nk_v (own := "NoonShade$Isle") rfl (by decide) (Nat.le_of_ble_eq_true rfl) ?_
  intro p e s m below meth c ls X hD hN hr hlk h hl
  have hx := X.1.1
  have hb := X.1.2.1
  have hown := X.1.2.2.2.1
  have hts := X.1.2.2.2.2
  have hl : lv_has ls 2 [(0, .ref (ad 14)), (1, .int t)] := hl
  obtain ⟨q2, q3, q4, q5, q6, f1, h7, h8, h9, h10⟩ := (show sI ad 14 (w 14) from ok 14 (by decide))
  have f11 : w 14 = .inr (1, [.int q2, .int q3, .int q4, .int q5, .int q6, .ref (ad 15), .ref (ad 16), .ref (ad 17), .ref (ad 18), .ref (ad 19), .ref (ad 20), .ref (ad 21), .ref (ad 23), .ref (ad 25)]) := f1
  obtain ⟨g13, f12, p14⟩ := (show sA cI 7 (anyA) (w 15) from ok 15 (by decide))
  have f15 : w 15 = .inl (cI, 7, .inl g13) := f12
  obtain ⟨g17, f16, p18⟩ := (show sA cI 7 (rgA 0 9) (w 16) from ok 16 (by decide))
  have f19 : w 16 = .inl (cI, 7, .inl g17) := f16
  obtain ⟨g21, f20, p22⟩ := (show sA cI 4 (anyA) (w 18) from ok 18 (by decide))
  have f23 : w 18 = .inl (cI, 4, .inl g21) := f20
  obtain ⟨g25, f24, p26⟩ := (show sA cI 4 (rgA 0 60) (w 19) from ok 19 (by decide))
  have f27 : w 19 = .inl (cI, 4, .inl g25) := f24
  obtain ⟨z29, f28, h30, h31⟩ := (show sR ad 4 22 6 (w 21) from ok 21 (by decide))
  have f32 : w 21 = .inr (4, [.ref (ad 22), .int z29]) := f28
  obtain ⟨z34, f33, h35, h36⟩ := (show sR ad 4 24 6 (w 23) from ok 23 (by decide))
  have f37 : w 23 = .inr (4, [.ref (ad 24), .int z34]) := f33
  refine lv_aload_n hx hb dX2_begin_0 rfl (lv_at hl 0 rfl) ?_
  refine lv_iload_n hx hb dX2_begin_1 rfl (lv_at hl 1 rfl) ?_
  refine r_put kc2 X hD h 14 0 (by decide) rfl f11 (by decide) kv_26 rfl rfl rfl (Nat.le_of_ble_eq_true rfl) dX2_begin_2 (fun H locs w38 e39 h => ?_)
  have f40 : w38 14 = .inr (1, [.int t, .int q3, .int q4, .int q5, .int q6, .ref (ad 15), .ref (ad 16), .ref (ad 17), .ref (ad 18), .ref (ad 19), .ref (ad 20), .ref (ad 21), .ref (ad 23), .ref (ad 25)]) := (congrFun e39 _).trans (va_up_self _ _ _)
  have ok41 : OK cI cB cZ cO ad w38 := OK.up ok e39 (sI_mk (by omega) (by omega) (by omega) (by omega))
  have kx42 : KB 14 w w38 := KB.up KB.rf e39 f11 rfl (by omega)
  refine lv_aload_n hx hb dX2_begin_5 rfl (lv_at hl 0 rfl) ?_
  refine lv_iconst (v := 0) hx hb dX2_begin_6 (by decide) ?_
  refine r_put kc2 X hD h 14 1 (by decide) rfl f40 (by decide) kv_52 rfl rfl rfl (Nat.le_of_ble_eq_true rfl) dX2_begin_7 (fun H locs w43 e44 h => ?_)
  have f45 : w43 14 = .inr (1, [.int t, .int 0, .int q4, .int q5, .int q6, .ref (ad 15), .ref (ad 16), .ref (ad 17), .ref (ad 18), .ref (ad 19), .ref (ad 20), .ref (ad 21), .ref (ad 23), .ref (ad 25)]) := (congrFun e44 _).trans (va_up_self _ _ _)
  have ok46 : OK cI cB cZ cO ad w43 := OK.up ok41 e44 (sI_mk (by omega) (by omega) (by omega) (by omega))
  have kx47 : KB 14 w w43 := KB.up kx42 e44 f40 rfl (by omega)
  refine lv_aload_n hx hb dX2_begin_10 rfl (lv_at hl 0 rfl) ?_
  refine lv_iconst (v := 0) hx hb dX2_begin_11 (by decide) ?_
  refine r_put kc2 X hD h 14 2 (by decide) rfl f45 (by decide) kv_19 rfl rfl rfl (Nat.le_of_ble_eq_true rfl) dX2_begin_12 (fun H locs w48 e49 h => ?_)
  have f50 : w48 14 = .inr (1, [.int t, .int 0, .int 0, .int q5, .int q6, .ref (ad 15), .ref (ad 16), .ref (ad 17), .ref (ad 18), .ref (ad 19), .ref (ad 20), .ref (ad 21), .ref (ad 23), .ref (ad 25)]) := (congrFun e49 _).trans (va_up_self _ _ _)
  have ok51 : OK cI cB cZ cO ad w48 := OK.up ok46 e49 (sI_mk (by omega) (by omega) (by omega) (by omega))
  have kx52 : KB 14 w w48 := KB.up kx47 e49 f45 rfl (by omega)
  refine lv_aload_n hx hb dX2_begin_15 rfl (lv_at hl 0 rfl) ?_
  refine lv_iconst (v := 0) hx hb dX2_begin_16 (by decide) ?_
  refine r_put kc2 X hD h 14 3 (by decide) rfl f50 (by decide) kv_17 rfl rfl rfl (Nat.le_of_ble_eq_true rfl) dX2_begin_17 (fun H locs w53 e54 h => ?_)
  have f55 : w53 14 = .inr (1, [.int t, .int 0, .int 0, .int 0, .int q6, .ref (ad 15), .ref (ad 16), .ref (ad 17), .ref (ad 18), .ref (ad 19), .ref (ad 20), .ref (ad 21), .ref (ad 23), .ref (ad 25)]) := (congrFun e54 _).trans (va_up_self _ _ _)
  have ok56 : OK cI cB cZ cO ad w53 := OK.up ok51 e54 (sI_mk (by decide) (by decide) (by omega) (by omega))
  have kx57 : KB 14 w w53 := KB.up kx52 e54 f50 rfl (by omega)
  refine lv_aload_n hx hb dX2_begin_20 rfl (lv_at hl 0 rfl) ?_
  refine lv_iconst (v := 0) hx hb dX2_begin_21 (by decide) ?_
  refine r_put kc2 X hD h 14 4 (by decide) rfl f55 (by decide) kv_18 rfl rfl rfl (Nat.le_of_ble_eq_true rfl) dX2_begin_22 (fun H locs w58 e59 h => ?_)
  have f60 : w58 14 = .inr (1, [.int t, .int 0, .int 0, .int 0, .int 0, .ref (ad 15), .ref (ad 16), .ref (ad 17), .ref (ad 18), .ref (ad 19), .ref (ad 20), .ref (ad 21), .ref (ad 23), .ref (ad 25)]) := (congrFun e59 _).trans (va_up_self _ _ _)
  have ok61 : OK cI cB cZ cO ad w58 := OK.up ok56 e59 (sI_mk (by decide) (by decide) (by decide) (by decide))
  have kx62 : KB 14 w w58 := KB.up kx57 e59 f55 rfl (by omega)
  refine lv_aload_n hx hb dX2_begin_25 rfl (lv_at hl 0 rfl) ?_
  refine r_get kc2 X h 14 11 (by decide) rfl f60 (by decide) kv_60 rfl dX2_begin_26 ?_
  have f63 : w38 21 = .inr (4, [.ref (ad 22), .int z29]) := by rw [e39, va_up_ne _ _ (by decide)]; exact f32
  have f64 : w43 21 = .inr (4, [.ref (ad 22), .int z29]) := by rw [e44, va_up_ne _ _ (by decide)]; exact f63
  have f65 : w48 21 = .inr (4, [.ref (ad 22), .int z29]) := by rw [e49, va_up_ne _ _ (by decide)]; exact f64
  have f66 : w53 21 = .inr (4, [.ref (ad 22), .int z29]) := by rw [e54, va_up_ne _ _ (by decide)]; exact f65
  have f67 : w58 21 = .inr (4, [.ref (ad 22), .int z29]) := by rw [e59, va_up_ne _ _ (by decide)]; exact f66
  refine n_Vi (na := 0) (As := []) (rest := []) X hD hN h rfl (c_R_empty l G cI cB cZ cO ad w58 21 _ _ (by decide) f67) ⟨kv_61, kv_62, kv_63, kv_64, kv_65⟩ rfl ⟨by decide, by decide, by decide⟩ ⟨Nat.le_of_ble_eq_true rfl, Nat.le_of_ble_eq_true rfl⟩ ⟨Nat.zero_le _, Nat.zero_le _⟩ (by decide) f67 rfl rfl hl.1 rfl (Nat.le_of_ble_eq_true rfl) dX2_begin_29 (fun r68 w69 H locs hp70 h => ?_)
  obtain ⟨e71r, e71⟩ := hp70
  subst e71r
  have f72 : w69 21 = .inr (4, [.ref (ad 22), .int 0]) := (congrFun e71 _).trans (va_up_self _ _ _)
  have ok73 : OK cI cB cZ cO ad w69 := OK.up ok61 e71 (sR_mk (by decide) (by decide))
  have kx74 : KB 14 w w69 := KB.up kx62 e71 f67 rfl (by omega)
  refine lv_pop hx hb dX2_begin_32 rfl ?_
  refine lv_aload_n hx hb dX2_begin_33 rfl (lv_at hl 0 rfl) ?_
  have f75 : w69 14 = .inr (1, [.int t, .int 0, .int 0, .int 0, .int 0, .ref (ad 15), .ref (ad 16), .ref (ad 17), .ref (ad 18), .ref (ad 19), .ref (ad 20), .ref (ad 21), .ref (ad 23), .ref (ad 25)]) := by rw [e71, va_up_ne _ _ (by decide)]; exact f60
  refine r_get kc2 X h 14 12 (by decide) rfl f75 (by decide) kv_66 rfl dX2_begin_34 ?_
  have f76 : w38 23 = .inr (4, [.ref (ad 24), .int z34]) := by rw [e39, va_up_ne _ _ (by decide)]; exact f37
  have f77 : w43 23 = .inr (4, [.ref (ad 24), .int z34]) := by rw [e44, va_up_ne _ _ (by decide)]; exact f76
  have f78 : w48 23 = .inr (4, [.ref (ad 24), .int z34]) := by rw [e49, va_up_ne _ _ (by decide)]; exact f77
  have f79 : w53 23 = .inr (4, [.ref (ad 24), .int z34]) := by rw [e54, va_up_ne _ _ (by decide)]; exact f78
  have f80 : w58 23 = .inr (4, [.ref (ad 24), .int z34]) := by rw [e59, va_up_ne _ _ (by decide)]; exact f79
  have f81 : w69 23 = .inr (4, [.ref (ad 24), .int z34]) := by rw [e71, va_up_ne _ _ (by decide)]; exact f80
  refine n_Vi (na := 0) (As := []) (rest := []) X hD hN h rfl (c_R_empty l G cI cB cZ cO ad w69 23 _ _ (by decide) f81) ⟨kv_61, kv_62, kv_63, kv_64, kv_65⟩ rfl ⟨by decide, by decide, by decide⟩ ⟨Nat.le_of_ble_eq_true rfl, Nat.le_of_ble_eq_true rfl⟩ ⟨Nat.zero_le _, Nat.zero_le _⟩ (by decide) f81 rfl rfl hl.1 rfl (Nat.le_of_ble_eq_true rfl) dX2_begin_37 (fun r82 w83 H locs hp84 h => ?_)
  obtain ⟨e85r, e85⟩ := hp84
  subst e85r
  have f86 : w83 23 = .inr (4, [.ref (ad 24), .int 0]) := (congrFun e85 _).trans (va_up_self _ _ _)
  have ok87 : OK cI cB cZ cO ad w83 := OK.up ok73 e85 (sR_mk (by decide) (by decide))
  have kx88 : KB 14 w w83 := KB.up kx74 e85 f81 rfl (by omega)
  refine lv_pop hx hb dX2_begin_40 rfl ?_
  refine lv_aload_n hx hb dX2_begin_41 rfl (lv_at hl 0 rfl) ?_
  have f89 : w83 14 = .inr (1, [.int t, .int 0, .int 0, .int 0, .int 0, .ref (ad 15), .ref (ad 16), .ref (ad 17), .ref (ad 18), .ref (ad 19), .ref (ad 20), .ref (ad 21), .ref (ad 23), .ref (ad 25)]) := by rw [e85, va_up_ne _ _ (by decide)]; exact f75
  refine r_get kc2 X h 14 13 (by decide) rfl f89 (by decide) kv_67 rfl dX2_begin_42 ?_
  obtain ⟨z91, f90, h92, h93⟩ := (show sR ad 2 26 8 (w83 25) from ok87 25 (by decide))
  have f94 : w83 25 = .inr (2, [.ref (ad 26), .int z91]) := f90
  refine n_Vv (na := 0) (As := []) (rest := []) X hD hN h rfl (c_P_empty l G cI cB cZ cO ad w83 25 _ _ (by decide) f94) ⟨kv_68, kv_69, kv_70, kv_71, kv_72⟩ rfl ⟨by decide, by decide, by decide⟩ ⟨Nat.le_of_ble_eq_true rfl, Nat.le_of_ble_eq_true rfl⟩ ⟨Nat.zero_le _, Nat.zero_le _⟩ (by decide) f94 rfl rfl hl.1 rfl (Nat.le_of_ble_eq_true rfl) dX2_begin_45 (fun w96 H locs hp97 h => ?_)
  have e98 := hp97
  have f99 : w96 25 = .inr (2, [.ref (ad 26), .int 0]) := (congrFun e98 _).trans (va_up_self _ _ _)
  have ok100 : OK cI cB cZ cO ad w96 := OK.up ok87 e98 (sR_mk (by decide) (by decide))
  have kx101 : KB 14 w w96 := KB.up kx88 e98 f94 rfl (by omega)
  have f102 : w96 14 = .inr (1, [.int t, .int 0, .int 0, .int 0, .int 0, .ref (ad 15), .ref (ad 16), .ref (ad 17), .ref (ad 18), .ref (ad 19), .ref (ad 20), .ref (ad 21), .ref (ad 23), .ref (ad 25)]) := by rw [e98, va_up_ne _ _ (by decide)]; exact f89
  have f103 : w38 15 = .inl (cI, 7, .inl g13) := by rw [e39, va_up_ne _ _ (by decide)]; exact f15
  have f104 : w43 15 = .inl (cI, 7, .inl g13) := by rw [e44, va_up_ne _ _ (by decide)]; exact f103
  have f105 : w48 15 = .inl (cI, 7, .inl g13) := by rw [e49, va_up_ne _ _ (by decide)]; exact f104
  have f106 : w53 15 = .inl (cI, 7, .inl g13) := by rw [e54, va_up_ne _ _ (by decide)]; exact f105
  have f107 : w58 15 = .inl (cI, 7, .inl g13) := by rw [e59, va_up_ne _ _ (by decide)]; exact f106
  have f108 : w69 15 = .inl (cI, 7, .inl g13) := by rw [e71, va_up_ne _ _ (by decide)]; exact f107
  have f109 : w83 15 = .inl (cI, 7, .inl g13) := by rw [e85, va_up_ne _ _ (by decide)]; exact f108
  have f110 : w96 15 = .inl (cI, 7, .inl g13) := by rw [e98, va_up_ne _ _ (by decide)]; exact f109
  have f111 : w38 16 = .inl (cI, 7, .inl g17) := by rw [e39, va_up_ne _ _ (by decide)]; exact f19
  have f112 : w43 16 = .inl (cI, 7, .inl g17) := by rw [e44, va_up_ne _ _ (by decide)]; exact f111
  have f113 : w48 16 = .inl (cI, 7, .inl g17) := by rw [e49, va_up_ne _ _ (by decide)]; exact f112
  have f114 : w53 16 = .inl (cI, 7, .inl g17) := by rw [e54, va_up_ne _ _ (by decide)]; exact f113
  have f115 : w58 16 = .inl (cI, 7, .inl g17) := by rw [e59, va_up_ne _ _ (by decide)]; exact f114
  have f116 : w69 16 = .inl (cI, 7, .inl g17) := by rw [e71, va_up_ne _ _ (by decide)]; exact f115
  have f117 : w83 16 = .inl (cI, 7, .inl g17) := by rw [e85, va_up_ne _ _ (by decide)]; exact f116
  have f118 : w96 16 = .inl (cI, 7, .inl g17) := by rw [e98, va_up_ne _ _ (by decide)]; exact f117
  have f119 : w38 18 = .inl (cI, 4, .inl g21) := by rw [e39, va_up_ne _ _ (by decide)]; exact f23
  have f120 : w43 18 = .inl (cI, 4, .inl g21) := by rw [e44, va_up_ne _ _ (by decide)]; exact f119
  have f121 : w48 18 = .inl (cI, 4, .inl g21) := by rw [e49, va_up_ne _ _ (by decide)]; exact f120
  have f122 : w53 18 = .inl (cI, 4, .inl g21) := by rw [e54, va_up_ne _ _ (by decide)]; exact f121
  have f123 : w58 18 = .inl (cI, 4, .inl g21) := by rw [e59, va_up_ne _ _ (by decide)]; exact f122
  have f124 : w69 18 = .inl (cI, 4, .inl g21) := by rw [e71, va_up_ne _ _ (by decide)]; exact f123
  have f125 : w83 18 = .inl (cI, 4, .inl g21) := by rw [e85, va_up_ne _ _ (by decide)]; exact f124
  have f126 : w96 18 = .inl (cI, 4, .inl g21) := by rw [e98, va_up_ne _ _ (by decide)]; exact f125
  have f127 : w38 19 = .inl (cI, 4, .inl g25) := by rw [e39, va_up_ne _ _ (by decide)]; exact f27
  have f128 : w43 19 = .inl (cI, 4, .inl g25) := by rw [e44, va_up_ne _ _ (by decide)]; exact f127
  have f129 : w48 19 = .inl (cI, 4, .inl g25) := by rw [e49, va_up_ne _ _ (by decide)]; exact f128
  have f130 : w53 19 = .inl (cI, 4, .inl g25) := by rw [e54, va_up_ne _ _ (by decide)]; exact f129
  have f131 : w58 19 = .inl (cI, 4, .inl g25) := by rw [e59, va_up_ne _ _ (by decide)]; exact f130
  have f132 : w69 19 = .inl (cI, 4, .inl g25) := by rw [e71, va_up_ne _ _ (by decide)]; exact f131
  have f133 : w83 19 = .inl (cI, 4, .inl g25) := by rw [e85, va_up_ne _ _ (by decide)]; exact f132
  have f134 : w96 19 = .inl (cI, 4, .inl g25) := by rw [e98, va_up_ne _ _ (by decide)]; exact f133
  have f135 : w83 21 = .inr (4, [.ref (ad 22), .int 0]) := by rw [e85, va_up_ne _ _ (by decide)]; exact f72
  have f136 : w96 21 = .inr (4, [.ref (ad 22), .int 0]) := by rw [e98, va_up_ne _ _ (by decide)]; exact f135
  have f137 : w96 23 = .inr (4, [.ref (ad 24), .int 0]) := by rw [e98, va_up_ne _ _ (by decide)]; exact f86
  exact e_v X h hr hlk dX2_begin_48 ⟨ok100, kx101, ⟨_, _, _, _, _, _, _, _, _, f102, f110, f118, f126, f134, f136, f137, d_beg t⟩⟩
