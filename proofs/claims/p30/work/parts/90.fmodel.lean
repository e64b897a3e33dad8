set_option maxHeartbeats 4000000 in
set_option maxRecDepth 100000 in
theorem c_MF_givesAs (l : Launch) (G : va_G) (cI cB cZ cO : ClassId) (ad : Nat → Nat) (w : Nat → va_E)   (k : Int32) (q : Int32) (t : Int32)   : NI l G (tyq cI cB cZ cO) yX9_givesAs cX9_givesAs 6 (some .int) 0 0 74 ad w [.int k, .int q, .int t] (fun r w1 => w = w1 ∧ givF k q t = r) := by
  refine nk_i (own := "NoonShadeModel") rfl (by decide) (Nat.le_of_ble_eq_true rfl) ?_
  intro p e s m below meth c ls X hD hN hr hlk h hl
  have hx := X.1.1
  have hb := X.1.2.1
  have hown := X.1.2.2.2.1
  have hts := X.1.2.2.2.2
  have hl : lv_has ls 6 [(0, .int k), (1, .int q), (2, .int t)] := hl
  refine lv_iload_n hx hb dX9_givesAs_0 rfl (lv_at hl 1 rfl) ?_
  refine lv_iconst (v := 1) hx hb dX9_givesAs_1 (by decide) ?_
  obtain ⟨z3, e1⟩ : ∃ z : Int32, q + (1 : Int32) = z := ⟨_, rfl⟩
  refine o_iadd (z := z3) hx hb dX9_givesAs_2 e1 ?_
  refine lv_iconst (v := 2) hx hb dX9_givesAs_3 (by decide) ?_
  obtain ⟨z6, e4⟩ : ∃ z : Int32, z3 / (2 : Int32) = z := ⟨_, rfl⟩
  refine o_idiv (z := z6) hx hb dX9_givesAs_4 (by decide) e4 ?_
  refine lv_istore_n (lv' := [(3, .int z6), (0, .int k), (1, .int q), (2, .int t)]) hx hb dX9_givesAs_5 rfl hl (by decide) rfl (fun ls hl => ?_)
  refine lv_iload_n hx hb dX9_givesAs_6 rfl (lv_at hl 3 rfl) ?_
  refine lv_bipush (v := 11) hx hb dX9_givesAs_7 (by decide) ?_
  refine lv_icmp_lt (tgt := 24) hx hb dX9_givesAs_9 (by decide) (fun hc7 => ?_) (fun hc7 => ?_)
  · have hc7 : (t).toInt < 11 := i_lt hc7 rfl rfl
    refine lv_iload_n hx hb dX9_givesAs_24 rfl (lv_at hl 0 rfl) ?_
    refine lv_istore (lv' := [(4, .int z6), (3, .int z6), (0, .int k), (1, .int q), (2, .int t)]) hx hb dX9_givesAs_25 hl (by decide) rfl (fun ls hl => ?_)
    refine lv_iload_n hx hb dX9_givesAs_27 rfl (lv_at hl 4 rfl) ?_
    refine lv_bipush (v := 12) hx hb dX9_givesAs_28 (by decide) ?_
    refine lv_icmp_le (tgt := 40) hx hb dX9_givesAs_30 (by decide) (fun hc8 => ?_) (fun hc8 => ?_)
    · have hc8 : (t).toInt ≤ 12 := i_le hc8 rfl rfl
      refine lv_bipush (v := 12) hx hb dX9_givesAs_40 (by decide) ?_
      refine lv_iload_n hx hb dX9_givesAs_42 rfl (lv_at hl 4 rfl) ?_
      obtain ⟨z11, e9⟩ : ∃ z : Int32, (12 : Int32) - t = z := ⟨_, rfl⟩
      refine o_isub (z := z11) hx hb dX9_givesAs_43 e9 ?_
      refine lv_istore (lv' := [(5, .int z11), (4, .int z6), (3, .int z6), (0, .int k), (1, .int q), (2, .int t)]) hx hb dX9_givesAs_44 hl (by decide) rfl (fun ls hl => ?_)
      refine lv_iload_n hx hb dX9_givesAs_46 rfl (lv_at hl 3 rfl) ?_
      by_cases hs12 : 1 ≤ (k).toInt ∧ (k).toInt ≤ 5
      · have ha13 : k = 1 ∨ k = 2 ∨ k = 3 ∨ k = 4 ∨ k = 5 := by simp only [fa_eq]; have := hs12; simp only [show ((1 : Int32).toInt = 1) from rfl, show ((2 : Int32).toInt = 2) from rfl, show ((3 : Int32).toInt = 3) from rfl, show ((4 : Int32).toInt = 4) from rfl, show ((5 : Int32).toInt = 5) from rfl]; omega
        rcases ha13 with hq | hq | hq | hq | hq
        · refine lv_tableIn (tgt := 80) (off := 33) hx hb dX9_givesAs_47 (by rw [hq]; decide) (by rw [hq]; decide) (by rw [hq]; decide) (by decide) ?_
          refine lv_iload hx hb dX9_givesAs_80 (lv_at hl 1 rfl) ?_
          have hret14 : givF k q t = z6 := by
            have hsw : k.toInt = 1 := by rw [hq]; rfl
            clear hq
            subst e9; subst e4; subst e1
            unfold givF
            rw [if_pos (by omega)]
            (try unfold treF)
            (try unfold frmF)
            (try unfold walF)
            all_goals ((repeat' split) <;> first | rfl | (exfalso; omega))
          exact e_i X h hr hlk dX9_givesAs_82 ⟨rfl, hret14⟩
        · refine lv_tableIn (tgt := 83) (off := 36) hx hb dX9_givesAs_47 (by rw [hq]; decide) (by rw [hq]; decide) (by rw [hq]; decide) (by decide) ?_
          refine lv_iload hx hb dX9_givesAs_83 (lv_at hl 1 rfl) ?_
          refine lv_iconst (v := 2) hx hb dX9_givesAs_85 (by decide) ?_
          obtain ⟨z17, e15⟩ : ∃ z : Int32, z6 / (2 : Int32) = z := ⟨_, rfl⟩
          refine o_idiv (z := z17) hx hb dX9_givesAs_86 (by decide) e15 ?_
          have hret18 : givF k q t = z17 := by
            have hsw : k.toInt = 2 := by rw [hq]; rfl
            clear hq
            subst e15; subst e9; subst e4; subst e1
            unfold givF
            rw [if_neg (by omega), if_pos (by omega)]
            (try unfold treF)
            (try unfold frmF)
            (try unfold walF)
            all_goals ((repeat' split) <;> first | rfl | (exfalso; omega))
          exact e_i X h hr hlk dX9_givesAs_87 ⟨rfl, hret18⟩
        · refine lv_tableIn (tgt := 88) (off := 41) hx hb dX9_givesAs_47 (by rw [hq]; decide) (by rw [hq]; decide) (by rw [hq]; decide) (by decide) ?_
          refine lv_iload_n hx hb dX9_givesAs_88 rfl (lv_at hl 5 rfl) ?_
          refine lv_iconst (v := 3) hx hb dX9_givesAs_89 (by decide) ?_
          obtain ⟨z21, e19⟩ : ∃ z : Int32, t - t / (3 : Int32) * (3 : Int32) = z := ⟨_, rfl⟩
          refine o_irem (z := z21) hx hb dX9_givesAs_90 (by decide) e19 ?_
          refine lv_if_ne (tgt := 98) hx hb dX9_givesAs_91 (by decide) (fun hc22 => ?_) (fun hc22 => ?_)
          · have hc22 : ¬ (z21).toInt = 0 := i_ne hc22 rfl rfl
            refine lv_iconst (v := 2) hx hb dX9_givesAs_98 (by decide) ?_
            refine lv_iload_n hx hb dX9_givesAs_99 rfl (lv_at hl 2 rfl) ?_
            obtain ⟨z25, e23⟩ : ∃ z : Int32, (2 : Int32) * z6 = z := ⟨_, rfl⟩
            refine o_imul (z := z25) hx hb dX9_givesAs_100 e23 ?_
            have hret26 : givF k q t = z25 := by
              have hsw : k.toInt = 3 := by rw [hq]; rfl
              clear hq
              subst e23; subst e19; subst e9; subst e4; subst e1
              unfold givF
              rw [if_neg (by omega), if_neg (by omega), if_pos (by omega)]
              (try unfold treF)
              (try unfold frmF)
              (try unfold walF)
              all_goals ((repeat' split) <;> first | rfl | (exfalso; omega))
            exact e_i X h hr hlk dX9_givesAs_101 ⟨rfl, hret26⟩
          · have hc22 : (z21).toInt = 0 := i_eq hc22 rfl rfl
            refine lv_iconst (v := 0) hx hb dX9_givesAs_94 (by decide) ?_
            refine lv_goto (tgt := 101) hx hb dX9_givesAs_95 (by decide) ?_
            have hret27 : givF k q t = (0 : Int32) := by
              have hsw : k.toInt = 3 := by rw [hq]; rfl
              clear hq
              subst e19; subst e9; subst e4; subst e1
              unfold givF
              rw [if_neg (by omega), if_neg (by omega), if_pos (by omega)]
              (try unfold treF)
              (try unfold frmF)
              (try unfold walF)
              all_goals ((repeat' split) <;> first | rfl | (exfalso; omega))
            exact e_i X h hr hlk dX9_givesAs_101 ⟨rfl, hret27⟩
        · refine lv_tableIn (tgt := 102) (off := 55) hx hb dX9_givesAs_47 (by rw [hq]; decide) (by rw [hq]; decide) (by rw [hq]; decide) (by decide) ?_
          refine lv_iload_n hx hb dX9_givesAs_102 rfl (lv_at hl 2 rfl) ?_
          refine lv_iload hx hb dX9_givesAs_103 (lv_at hl 0 rfl) ?_
          refine lv_bipush (v := 9) hx hb dX9_givesAs_105 (by decide) ?_
          refine lv_icmp_le (tgt := 115) hx hb dX9_givesAs_107 (by decide) (fun hc28 => ?_) (fun hc28 => ?_)
          · have hc28 : (z11).toInt ≤ 9 := i_le hc28 rfl rfl
            refine lv_iload hx hb dX9_givesAs_115 (lv_at hl 0 rfl) ?_
            obtain ⟨z31, e29⟩ : ∃ z : Int32, z6 + z11 = z := ⟨_, rfl⟩
            refine o_iadd (z := z31) hx hb dX9_givesAs_117 e29 ?_
            have hret32 : givF k q t = z31 := by
              have hsw : k.toInt = 4 := by rw [hq]; rfl
              clear hq
              subst e29; subst e9; subst e4; subst e1
              unfold givF
              rw [if_neg (by omega), if_neg (by omega), if_neg (by omega), if_pos (by omega)]
              (try unfold treF)
              (try unfold frmF)
              (try unfold walF)
              all_goals ((repeat' split) <;> first | rfl | (exfalso; omega))
            exact e_i X h hr hlk dX9_givesAs_118 ⟨rfl, hret32⟩
          · have hc28 : ¬ (z11).toInt ≤ 9 := i_nle hc28 rfl rfl
            refine lv_bipush (v := 9) hx hb dX9_givesAs_110 (by decide) ?_
            refine lv_goto (tgt := 117) hx hb dX9_givesAs_112 (by decide) ?_
            obtain ⟨z35, e33⟩ : ∃ z : Int32, z6 + (9 : Int32) = z := ⟨_, rfl⟩
            refine o_iadd (z := z35) hx hb dX9_givesAs_117 e33 ?_
            have hret36 : givF k q t = z35 := by
              have hsw : k.toInt = 4 := by rw [hq]; rfl
              clear hq
              subst e33; subst e9; subst e4; subst e1
              unfold givF
              rw [if_neg (by omega), if_neg (by omega), if_neg (by omega), if_pos (by omega)]
              (try unfold treF)
              (try unfold frmF)
              (try unfold walF)
              all_goals ((repeat' split) <;> first | rfl | (exfalso; omega))
            exact e_i X h hr hlk dX9_givesAs_118 ⟨rfl, hret36⟩
        · refine lv_tableIn (tgt := 119) (off := 72) hx hb dX9_givesAs_47 (by rw [hq]; decide) (by rw [hq]; decide) (by rw [hq]; decide) (by decide) ?_
          refine lv_iload hx hb dX9_givesAs_119 (lv_at hl 1 rfl) ?_
          refine lv_iconst (v := 3) hx hb dX9_givesAs_121 (by decide) ?_
          obtain ⟨z39, e37⟩ : ∃ z : Int32, z6 + (3 : Int32) = z := ⟨_, rfl⟩
          refine o_iadd (z := z39) hx hb dX9_givesAs_122 e37 ?_
          have hret40 : givF k q t = z39 := by
            have hsw : k.toInt = 5 := by rw [hq]; rfl
            clear hq
            subst e37; subst e9; subst e4; subst e1
            unfold givF
            rw [if_neg (by omega), if_neg (by omega), if_neg (by omega), if_neg (by omega), if_pos (by omega)]
            (try unfold treF)
            (try unfold frmF)
            (try unfold walF)
            all_goals ((repeat' split) <;> first | rfl | (exfalso; omega))
          exact e_i X h hr hlk dX9_givesAs_123 ⟨rfl, hret40⟩
      · refine lv_tableOut (tgt := 124) hx hb dX9_givesAs_47 (by omega) (by decide) ?_
        refine lv_iload_n hx hb dX9_givesAs_124 rfl (lv_at hl 2 rfl) ?_
        have hret41 : givF k q t = z6 := by
          subst e9; subst e4; subst e1
          unfold givF treF frmF walF
          all_goals ((repeat' split) <;> first | rfl | (exfalso; omega))
        exact e_i X h hr hlk dX9_givesAs_125 ⟨rfl, hret41⟩
    · have hc8 : ¬ (t).toInt ≤ 12 := i_nle hc8 rfl rfl
      exfalso; omega
  · have hc7 : ¬ (t).toInt < 11 := i_nlt hc7 rfl rfl
    refine lv_iload_n hx hb dX9_givesAs_12 rfl (lv_at hl 3 rfl) ?_
    refine lv_bipush (v := 13) hx hb dX9_givesAs_13 (by decide) ?_
    refine lv_icmp_gt (tgt := 24) hx hb dX9_givesAs_15 (by decide) (fun hc42 => ?_) (fun hc42 => ?_)
    · have hc42 : 13 < (t).toInt := i_lt hc42 rfl rfl
      refine lv_iload_n hx hb dX9_givesAs_24 rfl (lv_at hl 0 rfl) ?_
      refine lv_istore (lv' := [(4, .int z6), (3, .int z6), (0, .int k), (1, .int q), (2, .int t)]) hx hb dX9_givesAs_25 hl (by decide) rfl (fun ls hl => ?_)
      refine lv_iload_n hx hb dX9_givesAs_27 rfl (lv_at hl 4 rfl) ?_
      refine lv_bipush (v := 12) hx hb dX9_givesAs_28 (by decide) ?_
      refine lv_icmp_le (tgt := 40) hx hb dX9_givesAs_30 (by decide) (fun hc43 => ?_) (fun hc43 => ?_)
      · have hc43 : (t).toInt ≤ 12 := i_le hc43 rfl rfl
        exfalso; omega
      · have hc43 : ¬ (t).toInt ≤ 12 := i_nle hc43 rfl rfl
        refine lv_iload_n hx hb dX9_givesAs_33 rfl (lv_at hl 4 rfl) ?_
        refine lv_bipush (v := 12) hx hb dX9_givesAs_34 (by decide) ?_
        obtain ⟨z46, e44⟩ : ∃ z : Int32, t - (12 : Int32) = z := ⟨_, rfl⟩
        refine o_isub (z := z46) hx hb dX9_givesAs_36 e44 ?_
        refine lv_goto (tgt := 44) hx hb dX9_givesAs_37 (by decide) ?_
        refine lv_istore (lv' := [(5, .int z46), (4, .int z6), (3, .int z6), (0, .int k), (1, .int q), (2, .int t)]) hx hb dX9_givesAs_44 hl (by decide) rfl (fun ls hl => ?_)
        refine lv_iload_n hx hb dX9_givesAs_46 rfl (lv_at hl 3 rfl) ?_
        by_cases hs47 : 1 ≤ (k).toInt ∧ (k).toInt ≤ 5
        · have ha48 : k = 1 ∨ k = 2 ∨ k = 3 ∨ k = 4 ∨ k = 5 := by simp only [fa_eq]; have := hs47; simp only [show ((1 : Int32).toInt = 1) from rfl, show ((2 : Int32).toInt = 2) from rfl, show ((3 : Int32).toInt = 3) from rfl, show ((4 : Int32).toInt = 4) from rfl, show ((5 : Int32).toInt = 5) from rfl]; omega
          rcases ha48 with hq | hq | hq | hq | hq
          · refine lv_tableIn (tgt := 80) (off := 33) hx hb dX9_givesAs_47 (by rw [hq]; decide) (by rw [hq]; decide) (by rw [hq]; decide) (by decide) ?_
            refine lv_iload hx hb dX9_givesAs_80 (lv_at hl 1 rfl) ?_
            have hret49 : givF k q t = z6 := by
              have hsw : k.toInt = 1 := by rw [hq]; rfl
              clear hq
              subst e44; subst e4; subst e1
              unfold givF
              rw [if_pos (by omega)]
              (try unfold treF)
              (try unfold frmF)
              (try unfold walF)
              all_goals ((repeat' split) <;> first | rfl | (exfalso; omega))
            exact e_i X h hr hlk dX9_givesAs_82 ⟨rfl, hret49⟩
          · refine lv_tableIn (tgt := 83) (off := 36) hx hb dX9_givesAs_47 (by rw [hq]; decide) (by rw [hq]; decide) (by rw [hq]; decide) (by decide) ?_
            refine lv_iload hx hb dX9_givesAs_83 (lv_at hl 1 rfl) ?_
            refine lv_iconst (v := 2) hx hb dX9_givesAs_85 (by decide) ?_
            obtain ⟨z52, e50⟩ : ∃ z : Int32, z6 / (2 : Int32) = z := ⟨_, rfl⟩
            refine o_idiv (z := z52) hx hb dX9_givesAs_86 (by decide) e50 ?_
            have hret53 : givF k q t = z52 := by
              have hsw : k.toInt = 2 := by rw [hq]; rfl
              clear hq
              subst e50; subst e44; subst e4; subst e1
              unfold givF
              rw [if_neg (by omega), if_pos (by omega)]
              (try unfold treF)
              (try unfold frmF)
              (try unfold walF)
              all_goals ((repeat' split) <;> first | rfl | (exfalso; omega))
            exact e_i X h hr hlk dX9_givesAs_87 ⟨rfl, hret53⟩
          · refine lv_tableIn (tgt := 88) (off := 41) hx hb dX9_givesAs_47 (by rw [hq]; decide) (by rw [hq]; decide) (by rw [hq]; decide) (by decide) ?_
            refine lv_iload_n hx hb dX9_givesAs_88 rfl (lv_at hl 5 rfl) ?_
            refine lv_iconst (v := 3) hx hb dX9_givesAs_89 (by decide) ?_
            obtain ⟨z56, e54, t55⟩ := x_rem (x := t) (y := (3 : Int32)) (a := (t).toInt) (b := 3) rfl rfl (by omega) (by omega)
            refine o_irem (z := z56) hx hb dX9_givesAs_90 (by decide) e54 ?_
            refine lv_if_ne (tgt := 98) hx hb dX9_givesAs_91 (by decide) (fun hc57 => ?_) (fun hc57 => ?_)
            · have hc57 : ¬ (z56).toInt = 0 := i_ne hc57 rfl rfl
              refine lv_iconst (v := 2) hx hb dX9_givesAs_98 (by decide) ?_
              refine lv_iload_n hx hb dX9_givesAs_99 rfl (lv_at hl 2 rfl) ?_
              obtain ⟨z60, e58⟩ : ∃ z : Int32, (2 : Int32) * z6 = z := ⟨_, rfl⟩
              refine o_imul (z := z60) hx hb dX9_givesAs_100 e58 ?_
              have hret61 : givF k q t = z60 := by
                have hsw : k.toInt = 3 := by rw [hq]; rfl
                clear hq
                subst e58; subst e54; subst e44; subst e4; subst e1
                unfold givF
                rw [if_neg (by omega), if_neg (by omega), if_pos (by omega)]
                (try unfold treF)
                (try unfold frmF)
                (try unfold walF)
                all_goals ((repeat' split) <;> first | rfl | (exfalso; omega))
              exact e_i X h hr hlk dX9_givesAs_101 ⟨rfl, hret61⟩
            · have hc57 : (z56).toInt = 0 := i_eq hc57 rfl rfl
              refine lv_iconst (v := 0) hx hb dX9_givesAs_94 (by decide) ?_
              refine lv_goto (tgt := 101) hx hb dX9_givesAs_95 (by decide) ?_
              have hret62 : givF k q t = (0 : Int32) := by
                have hsw : k.toInt = 3 := by rw [hq]; rfl
                clear hq
                subst e54; subst e44; subst e4; subst e1
                unfold givF
                rw [if_neg (by omega), if_neg (by omega), if_pos (by omega)]
                (try unfold treF)
                (try unfold frmF)
                (try unfold walF)
                all_goals ((repeat' split) <;> first | rfl | (exfalso; omega))
              exact e_i X h hr hlk dX9_givesAs_101 ⟨rfl, hret62⟩
          · refine lv_tableIn (tgt := 102) (off := 55) hx hb dX9_givesAs_47 (by rw [hq]; decide) (by rw [hq]; decide) (by rw [hq]; decide) (by decide) ?_
            refine lv_iload_n hx hb dX9_givesAs_102 rfl (lv_at hl 2 rfl) ?_
            refine lv_iload hx hb dX9_givesAs_103 (lv_at hl 0 rfl) ?_
            refine lv_bipush (v := 9) hx hb dX9_givesAs_105 (by decide) ?_
            refine lv_icmp_le (tgt := 115) hx hb dX9_givesAs_107 (by decide) (fun hc63 => ?_) (fun hc63 => ?_)
            · have hc63 : (z46).toInt ≤ 9 := i_le hc63 rfl rfl
              refine lv_iload hx hb dX9_givesAs_115 (lv_at hl 0 rfl) ?_
              obtain ⟨z66, e64⟩ : ∃ z : Int32, z6 + z46 = z := ⟨_, rfl⟩
              refine o_iadd (z := z66) hx hb dX9_givesAs_117 e64 ?_
              have hret67 : givF k q t = z66 := by
                have hsw : k.toInt = 4 := by rw [hq]; rfl
                clear hq
                subst e64; subst e44; subst e4; subst e1
                unfold givF
                rw [if_neg (by omega), if_neg (by omega), if_neg (by omega), if_pos (by omega)]
                (try unfold treF)
                (try unfold frmF)
                (try unfold walF)
                all_goals ((repeat' split) <;> first | rfl | (exfalso; omega))
              exact e_i X h hr hlk dX9_givesAs_118 ⟨rfl, hret67⟩
            · have hc63 : ¬ (z46).toInt ≤ 9 := i_nle hc63 rfl rfl
              refine lv_bipush (v := 9) hx hb dX9_givesAs_110 (by decide) ?_
              refine lv_goto (tgt := 117) hx hb dX9_givesAs_112 (by decide) ?_
              obtain ⟨z70, e68⟩ : ∃ z : Int32, z6 + (9 : Int32) = z := ⟨_, rfl⟩
              refine o_iadd (z := z70) hx hb dX9_givesAs_117 e68 ?_
              have hret71 : givF k q t = z70 := by
                have hsw : k.toInt = 4 := by rw [hq]; rfl
                clear hq
                subst e68; subst e44; subst e4; subst e1
                unfold givF
                rw [if_neg (by omega), if_neg (by omega), if_neg (by omega), if_pos (by omega)]
                (try unfold treF)
                (try unfold frmF)
                (try unfold walF)
                all_goals ((repeat' split) <;> first | rfl | (exfalso; omega))
              exact e_i X h hr hlk dX9_givesAs_118 ⟨rfl, hret71⟩
          · refine lv_tableIn (tgt := 119) (off := 72) hx hb dX9_givesAs_47 (by rw [hq]; decide) (by rw [hq]; decide) (by rw [hq]; decide) (by decide) ?_
            refine lv_iload hx hb dX9_givesAs_119 (lv_at hl 1 rfl) ?_
            refine lv_iconst (v := 3) hx hb dX9_givesAs_121 (by decide) ?_
            obtain ⟨z74, e72⟩ : ∃ z : Int32, z6 + (3 : Int32) = z := ⟨_, rfl⟩
            refine o_iadd (z := z74) hx hb dX9_givesAs_122 e72 ?_
            have hret75 : givF k q t = z74 := by
              have hsw : k.toInt = 5 := by rw [hq]; rfl
              clear hq
              subst e72; subst e44; subst e4; subst e1
              unfold givF
              rw [if_neg (by omega), if_neg (by omega), if_neg (by omega), if_neg (by omega), if_pos (by omega)]
              (try unfold treF)
              (try unfold frmF)
              (try unfold walF)
              all_goals ((repeat' split) <;> first | rfl | (exfalso; omega))
            exact e_i X h hr hlk dX9_givesAs_123 ⟨rfl, hret75⟩
        · refine lv_tableOut (tgt := 124) hx hb dX9_givesAs_47 (by omega) (by decide) ?_
          refine lv_iload_n hx hb dX9_givesAs_124 rfl (lv_at hl 2 rfl) ?_
          have hret76 : givF k q t = z6 := by
            subst e44; subst e4; subst e1
            unfold givF treF frmF walF
            all_goals ((repeat' split) <;> first | rfl | (exfalso; omega))
          exact e_i X h hr hlk dX9_givesAs_125 ⟨rfl, hret76⟩
    · have hc42 : ¬ 13 < (t).toInt := i_nlt hc42 rfl rfl
      refine lv_iload_n hx hb dX9_givesAs_18 rfl (lv_at hl 0 rfl) ?_
      refine lv_iload_n hx hb dX9_givesAs_19 rfl (lv_at hl 2 rfl) ?_
      obtain ⟨z79, e77⟩ : ∃ z : Int32, z6 + q = z := ⟨_, rfl⟩
      refine o_iadd (z := z79) hx hb dX9_givesAs_20 e77 ?_
      refine lv_goto (tgt := 25) hx hb dX9_givesAs_21 (by decide) ?_
      refine lv_istore (lv' := [(4, .int z79), (3, .int z6), (0, .int k), (1, .int q), (2, .int t)]) hx hb dX9_givesAs_25 hl (by decide) rfl (fun ls hl => ?_)
      refine lv_iload_n hx hb dX9_givesAs_27 rfl (lv_at hl 4 rfl) ?_
      refine lv_bipush (v := 12) hx hb dX9_givesAs_28 (by decide) ?_
      refine lv_icmp_le (tgt := 40) hx hb dX9_givesAs_30 (by decide) (fun hc80 => ?_) (fun hc80 => ?_)
      · have hc80 : (t).toInt ≤ 12 := i_le hc80 rfl rfl
        refine lv_bipush (v := 12) hx hb dX9_givesAs_40 (by decide) ?_
        refine lv_iload_n hx hb dX9_givesAs_42 rfl (lv_at hl 4 rfl) ?_
        obtain ⟨z83, e81, t82⟩ := x_sub (x := (12 : Int32)) (y := t) (a := 12) (b := (t).toInt) rfl rfl (by omega) (by omega)
        refine o_isub (z := z83) hx hb dX9_givesAs_43 e81 ?_
        refine lv_istore (lv' := [(5, .int z83), (4, .int z79), (3, .int z6), (0, .int k), (1, .int q), (2, .int t)]) hx hb dX9_givesAs_44 hl (by decide) rfl (fun ls hl => ?_)
        refine lv_iload_n hx hb dX9_givesAs_46 rfl (lv_at hl 3 rfl) ?_
        by_cases hs84 : 1 ≤ (k).toInt ∧ (k).toInt ≤ 5
        · have ha85 : k = 1 ∨ k = 2 ∨ k = 3 ∨ k = 4 ∨ k = 5 := by simp only [fa_eq]; have := hs84; simp only [show ((1 : Int32).toInt = 1) from rfl, show ((2 : Int32).toInt = 2) from rfl, show ((3 : Int32).toInt = 3) from rfl, show ((4 : Int32).toInt = 4) from rfl, show ((5 : Int32).toInt = 5) from rfl]; omega
          rcases ha85 with hq | hq | hq | hq | hq
          · refine lv_tableIn (tgt := 80) (off := 33) hx hb dX9_givesAs_47 (by rw [hq]; decide) (by rw [hq]; decide) (by rw [hq]; decide) (by decide) ?_
            refine lv_iload hx hb dX9_givesAs_80 (lv_at hl 1 rfl) ?_
            have hret86 : givF k q t = z79 := by
              have hsw : k.toInt = 1 := by rw [hq]; rfl
              clear hq
              subst e81; subst e77; subst e4; subst e1
              unfold givF
              rw [if_pos (by omega)]
              (try unfold treF)
              (try unfold frmF)
              (try unfold walF)
              all_goals ((repeat' split) <;> first | rfl | (exfalso; omega))
            exact e_i X h hr hlk dX9_givesAs_82 ⟨rfl, hret86⟩
          · refine lv_tableIn (tgt := 83) (off := 36) hx hb dX9_givesAs_47 (by rw [hq]; decide) (by rw [hq]; decide) (by rw [hq]; decide) (by decide) ?_
            refine lv_iload hx hb dX9_givesAs_83 (lv_at hl 1 rfl) ?_
            refine lv_iconst (v := 2) hx hb dX9_givesAs_85 (by decide) ?_
            obtain ⟨z89, e87⟩ : ∃ z : Int32, z79 / (2 : Int32) = z := ⟨_, rfl⟩
            refine o_idiv (z := z89) hx hb dX9_givesAs_86 (by decide) e87 ?_
            have hret90 : givF k q t = z89 := by
              have hsw : k.toInt = 2 := by rw [hq]; rfl
              clear hq
              subst e87; subst e81; subst e77; subst e4; subst e1
              unfold givF
              rw [if_neg (by omega), if_pos (by omega)]
              (try unfold treF)
              (try unfold frmF)
              (try unfold walF)
              all_goals ((repeat' split) <;> first | rfl | (exfalso; omega))
            exact e_i X h hr hlk dX9_givesAs_87 ⟨rfl, hret90⟩
          · refine lv_tableIn (tgt := 88) (off := 41) hx hb dX9_givesAs_47 (by rw [hq]; decide) (by rw [hq]; decide) (by rw [hq]; decide) (by decide) ?_
            refine lv_iload_n hx hb dX9_givesAs_88 rfl (lv_at hl 5 rfl) ?_
            refine lv_iconst (v := 3) hx hb dX9_givesAs_89 (by decide) ?_
            obtain ⟨z93, e91, t92⟩ := x_rem (x := t) (y := (3 : Int32)) (a := (t).toInt) (b := 3) rfl rfl (by omega) (by omega)
            refine o_irem (z := z93) hx hb dX9_givesAs_90 (by decide) e91 ?_
            refine lv_if_ne (tgt := 98) hx hb dX9_givesAs_91 (by decide) (fun hc94 => ?_) (fun hc94 => ?_)
            · have hc94 : ¬ (z93).toInt = 0 := i_ne hc94 rfl rfl
              refine lv_iconst (v := 2) hx hb dX9_givesAs_98 (by decide) ?_
              refine lv_iload_n hx hb dX9_givesAs_99 rfl (lv_at hl 2 rfl) ?_
              obtain ⟨z97, e95⟩ : ∃ z : Int32, (2 : Int32) * z6 = z := ⟨_, rfl⟩
              refine o_imul (z := z97) hx hb dX9_givesAs_100 e95 ?_
              have hret98 : givF k q t = z97 := by
                have hsw : k.toInt = 3 := by rw [hq]; rfl
                clear hq
                subst e95; subst e91; subst e81; subst e77; subst e4; subst e1
                unfold givF
                rw [if_neg (by omega), if_neg (by omega), if_pos (by omega)]
                (try unfold treF)
                (try unfold frmF)
                (try unfold walF)
                all_goals ((repeat' split) <;> first | rfl | (exfalso; omega))
              exact e_i X h hr hlk dX9_givesAs_101 ⟨rfl, hret98⟩
            · have hc94 : (z93).toInt = 0 := i_eq hc94 rfl rfl
              refine lv_iconst (v := 0) hx hb dX9_givesAs_94 (by decide) ?_
              refine lv_goto (tgt := 101) hx hb dX9_givesAs_95 (by decide) ?_
              have hret99 : givF k q t = (0 : Int32) := by
                have hsw : k.toInt = 3 := by rw [hq]; rfl
                clear hq
                subst e91; subst e81; subst e77; subst e4; subst e1
                unfold givF
                rw [if_neg (by omega), if_neg (by omega), if_pos (by omega)]
                (try unfold treF)
                (try unfold frmF)
                (try unfold walF)
                all_goals ((repeat' split) <;> first | rfl | (exfalso; omega))
              exact e_i X h hr hlk dX9_givesAs_101 ⟨rfl, hret99⟩
          · refine lv_tableIn (tgt := 102) (off := 55) hx hb dX9_givesAs_47 (by rw [hq]; decide) (by rw [hq]; decide) (by rw [hq]; decide) (by decide) ?_
            refine lv_iload_n hx hb dX9_givesAs_102 rfl (lv_at hl 2 rfl) ?_
            refine lv_iload hx hb dX9_givesAs_103 (lv_at hl 0 rfl) ?_
            refine lv_bipush (v := 9) hx hb dX9_givesAs_105 (by decide) ?_
            refine lv_icmp_le (tgt := 115) hx hb dX9_givesAs_107 (by decide) (fun hc100 => ?_) (fun hc100 => ?_)
            · have hc100 : (z83).toInt ≤ 9 := i_le hc100 rfl rfl
              refine lv_iload hx hb dX9_givesAs_115 (lv_at hl 0 rfl) ?_
              obtain ⟨z103, e101⟩ : ∃ z : Int32, z6 + z83 = z := ⟨_, rfl⟩
              refine o_iadd (z := z103) hx hb dX9_givesAs_117 e101 ?_
              have hret104 : givF k q t = z103 := by
                have hsw : k.toInt = 4 := by rw [hq]; rfl
                clear hq
                subst e101; subst e81; subst e77; subst e4; subst e1
                unfold givF
                rw [if_neg (by omega), if_neg (by omega), if_neg (by omega), if_pos (by omega)]
                (try unfold treF)
                (try unfold frmF)
                (try unfold walF)
                all_goals ((repeat' split) <;> first | rfl | (exfalso; omega))
              exact e_i X h hr hlk dX9_givesAs_118 ⟨rfl, hret104⟩
            · have hc100 : ¬ (z83).toInt ≤ 9 := i_nle hc100 rfl rfl
              exfalso; omega
          · refine lv_tableIn (tgt := 119) (off := 72) hx hb dX9_givesAs_47 (by rw [hq]; decide) (by rw [hq]; decide) (by rw [hq]; decide) (by decide) ?_
            refine lv_iload hx hb dX9_givesAs_119 (lv_at hl 1 rfl) ?_
            refine lv_iconst (v := 3) hx hb dX9_givesAs_121 (by decide) ?_
            obtain ⟨z107, e105⟩ : ∃ z : Int32, z79 + (3 : Int32) = z := ⟨_, rfl⟩
            refine o_iadd (z := z107) hx hb dX9_givesAs_122 e105 ?_
            have hret108 : givF k q t = z107 := by
              have hsw : k.toInt = 5 := by rw [hq]; rfl
              clear hq
              subst e105; subst e81; subst e77; subst e4; subst e1
              unfold givF
              rw [if_neg (by omega), if_neg (by omega), if_neg (by omega), if_neg (by omega), if_pos (by omega)]
              (try unfold treF)
              (try unfold frmF)
              (try unfold walF)
              all_goals ((repeat' split) <;> first | rfl | (exfalso; omega))
            exact e_i X h hr hlk dX9_givesAs_123 ⟨rfl, hret108⟩
        · refine lv_tableOut (tgt := 124) hx hb dX9_givesAs_47 (by omega) (by decide) ?_
          refine lv_iload_n hx hb dX9_givesAs_124 rfl (lv_at hl 2 rfl) ?_
          have hret109 : givF k q t = z6 := by
            subst e81; subst e77; subst e4; subst e1
            unfold givF treF frmF walF
            all_goals ((repeat' split) <;> first | rfl | (exfalso; omega))
          exact e_i X h hr hlk dX9_givesAs_125 ⟨rfl, hret109⟩
      · have hc80 : ¬ (t).toInt ≤ 12 := i_nle hc80 rfl rfl
        refine lv_iload_n hx hb dX9_givesAs_33 rfl (lv_at hl 4 rfl) ?_
        refine lv_bipush (v := 12) hx hb dX9_givesAs_34 (by decide) ?_
        obtain ⟨z112, e110, t111⟩ := x_sub (x := t) (y := (12 : Int32)) (a := (t).toInt) (b := 12) rfl rfl (by omega) (by omega)
        refine o_isub (z := z112) hx hb dX9_givesAs_36 e110 ?_
        refine lv_goto (tgt := 44) hx hb dX9_givesAs_37 (by decide) ?_
        refine lv_istore (lv' := [(5, .int z112), (4, .int z79), (3, .int z6), (0, .int k), (1, .int q), (2, .int t)]) hx hb dX9_givesAs_44 hl (by decide) rfl (fun ls hl => ?_)
        refine lv_iload_n hx hb dX9_givesAs_46 rfl (lv_at hl 3 rfl) ?_
        by_cases hs113 : 1 ≤ (k).toInt ∧ (k).toInt ≤ 5
        · have ha114 : k = 1 ∨ k = 2 ∨ k = 3 ∨ k = 4 ∨ k = 5 := by simp only [fa_eq]; have := hs113; simp only [show ((1 : Int32).toInt = 1) from rfl, show ((2 : Int32).toInt = 2) from rfl, show ((3 : Int32).toInt = 3) from rfl, show ((4 : Int32).toInt = 4) from rfl, show ((5 : Int32).toInt = 5) from rfl]; omega
          rcases ha114 with hq | hq | hq | hq | hq
          · refine lv_tableIn (tgt := 80) (off := 33) hx hb dX9_givesAs_47 (by rw [hq]; decide) (by rw [hq]; decide) (by rw [hq]; decide) (by decide) ?_
            refine lv_iload hx hb dX9_givesAs_80 (lv_at hl 1 rfl) ?_
            have hret115 : givF k q t = z79 := by
              have hsw : k.toInt = 1 := by rw [hq]; rfl
              clear hq
              subst e110; subst e77; subst e4; subst e1
              unfold givF
              rw [if_pos (by omega)]
              (try unfold treF)
              (try unfold frmF)
              (try unfold walF)
              all_goals ((repeat' split) <;> first | rfl | (exfalso; omega))
            exact e_i X h hr hlk dX9_givesAs_82 ⟨rfl, hret115⟩
          · refine lv_tableIn (tgt := 83) (off := 36) hx hb dX9_givesAs_47 (by rw [hq]; decide) (by rw [hq]; decide) (by rw [hq]; decide) (by decide) ?_
            refine lv_iload hx hb dX9_givesAs_83 (lv_at hl 1 rfl) ?_
            refine lv_iconst (v := 2) hx hb dX9_givesAs_85 (by decide) ?_
            obtain ⟨z118, e116⟩ : ∃ z : Int32, z79 / (2 : Int32) = z := ⟨_, rfl⟩
            refine o_idiv (z := z118) hx hb dX9_givesAs_86 (by decide) e116 ?_
            have hret119 : givF k q t = z118 := by
              have hsw : k.toInt = 2 := by rw [hq]; rfl
              clear hq
              subst e116; subst e110; subst e77; subst e4; subst e1
              unfold givF
              rw [if_neg (by omega), if_pos (by omega)]
              (try unfold treF)
              (try unfold frmF)
              (try unfold walF)
              all_goals ((repeat' split) <;> first | rfl | (exfalso; omega))
            exact e_i X h hr hlk dX9_givesAs_87 ⟨rfl, hret119⟩
          · refine lv_tableIn (tgt := 88) (off := 41) hx hb dX9_givesAs_47 (by rw [hq]; decide) (by rw [hq]; decide) (by rw [hq]; decide) (by decide) ?_
            refine lv_iload_n hx hb dX9_givesAs_88 rfl (lv_at hl 5 rfl) ?_
            refine lv_iconst (v := 3) hx hb dX9_givesAs_89 (by decide) ?_
            obtain ⟨z122, e120, t121⟩ := x_rem (x := t) (y := (3 : Int32)) (a := (t).toInt) (b := 3) rfl rfl (by omega) (by omega)
            refine o_irem (z := z122) hx hb dX9_givesAs_90 (by decide) e120 ?_
            refine lv_if_ne (tgt := 98) hx hb dX9_givesAs_91 (by decide) (fun hc123 => ?_) (fun hc123 => ?_)
            · have hc123 : ¬ (z122).toInt = 0 := i_ne hc123 rfl rfl
              refine lv_iconst (v := 2) hx hb dX9_givesAs_98 (by decide) ?_
              refine lv_iload_n hx hb dX9_givesAs_99 rfl (lv_at hl 2 rfl) ?_
              obtain ⟨z126, e124⟩ : ∃ z : Int32, (2 : Int32) * z6 = z := ⟨_, rfl⟩
              refine o_imul (z := z126) hx hb dX9_givesAs_100 e124 ?_
              have hret127 : givF k q t = z126 := by
                have hsw : k.toInt = 3 := by rw [hq]; rfl
                clear hq
                subst e124; subst e120; subst e110; subst e77; subst e4; subst e1
                unfold givF
                rw [if_neg (by omega), if_neg (by omega), if_pos (by omega)]
                (try unfold treF)
                (try unfold frmF)
                (try unfold walF)
                all_goals ((repeat' split) <;> first | rfl | (exfalso; omega))
              exact e_i X h hr hlk dX9_givesAs_101 ⟨rfl, hret127⟩
            · have hc123 : (z122).toInt = 0 := i_eq hc123 rfl rfl
              refine lv_iconst (v := 0) hx hb dX9_givesAs_94 (by decide) ?_
              refine lv_goto (tgt := 101) hx hb dX9_givesAs_95 (by decide) ?_
              have hret128 : givF k q t = (0 : Int32) := by
                have hsw : k.toInt = 3 := by rw [hq]; rfl
                clear hq
                subst e120; subst e110; subst e77; subst e4; subst e1
                unfold givF
                rw [if_neg (by omega), if_neg (by omega), if_pos (by omega)]
                (try unfold treF)
                (try unfold frmF)
                (try unfold walF)
                all_goals ((repeat' split) <;> first | rfl | (exfalso; omega))
              exact e_i X h hr hlk dX9_givesAs_101 ⟨rfl, hret128⟩
          · refine lv_tableIn (tgt := 102) (off := 55) hx hb dX9_givesAs_47 (by rw [hq]; decide) (by rw [hq]; decide) (by rw [hq]; decide) (by decide) ?_
            refine lv_iload_n hx hb dX9_givesAs_102 rfl (lv_at hl 2 rfl) ?_
            refine lv_iload hx hb dX9_givesAs_103 (lv_at hl 0 rfl) ?_
            refine lv_bipush (v := 9) hx hb dX9_givesAs_105 (by decide) ?_
            refine lv_icmp_le (tgt := 115) hx hb dX9_givesAs_107 (by decide) (fun hc129 => ?_) (fun hc129 => ?_)
            · have hc129 : (z112).toInt ≤ 9 := i_le hc129 rfl rfl
              refine lv_iload hx hb dX9_givesAs_115 (lv_at hl 0 rfl) ?_
              obtain ⟨z132, e130⟩ : ∃ z : Int32, z6 + z112 = z := ⟨_, rfl⟩
              refine o_iadd (z := z132) hx hb dX9_givesAs_117 e130 ?_
              have hret133 : givF k q t = z132 := by
                have hsw : k.toInt = 4 := by rw [hq]; rfl
                clear hq
                subst e130; subst e110; subst e77; subst e4; subst e1
                unfold givF
                rw [if_neg (by omega), if_neg (by omega), if_neg (by omega), if_pos (by omega)]
                (try unfold treF)
                (try unfold frmF)
                (try unfold walF)
                all_goals ((repeat' split) <;> first | rfl | (exfalso; omega))
              exact e_i X h hr hlk dX9_givesAs_118 ⟨rfl, hret133⟩
            · have hc129 : ¬ (z112).toInt ≤ 9 := i_nle hc129 rfl rfl
              exfalso; omega
          · refine lv_tableIn (tgt := 119) (off := 72) hx hb dX9_givesAs_47 (by rw [hq]; decide) (by rw [hq]; decide) (by rw [hq]; decide) (by decide) ?_
            refine lv_iload hx hb dX9_givesAs_119 (lv_at hl 1 rfl) ?_
            refine lv_iconst (v := 3) hx hb dX9_givesAs_121 (by decide) ?_
            obtain ⟨z136, e134⟩ : ∃ z : Int32, z79 + (3 : Int32) = z := ⟨_, rfl⟩
            refine o_iadd (z := z136) hx hb dX9_givesAs_122 e134 ?_
            have hret137 : givF k q t = z136 := by
              have hsw : k.toInt = 5 := by rw [hq]; rfl
              clear hq
              subst e134; subst e110; subst e77; subst e4; subst e1
              unfold givF
              rw [if_neg (by omega), if_neg (by omega), if_neg (by omega), if_neg (by omega), if_pos (by omega)]
              (try unfold treF)
              (try unfold frmF)
              (try unfold walF)
              all_goals ((repeat' split) <;> first | rfl | (exfalso; omega))
            exact e_i X h hr hlk dX9_givesAs_123 ⟨rfl, hret137⟩
        · refine lv_tableOut (tgt := 124) hx hb dX9_givesAs_47 (by omega) (by decide) ?_
          refine lv_iload_n hx hb dX9_givesAs_124 rfl (lv_at hl 2 rfl) ?_
          have hret138 : givF k q t = z6 := by
            subst e110; subst e77; subst e4; subst e1
            unfold givF treF frmF walF
            all_goals ((repeat' split) <;> first | rfl | (exfalso; omega))
          exact e_i X h hr hlk dX9_givesAs_125 ⟨rfl, hret138⟩

set_option maxHeartbeats 4000000 in
set_option maxRecDepth 100000 in
theorem c_MF_losesAs (l : Launch) (G : va_G) (cI cB cZ cO : ClassId) (ad : Nat → Nat) (w : Nat → va_E)   (k : Int32) (q : Int32) (t : Int32)   : NI l G (tyq cI cB cZ cO) yX9_losesAs cX9_losesAs 4 (some .int) 0 0 74 ad w [.int k, .int q, .int t] (fun r w1 => w = w1 ∧ losF k q t = r) := by
  refine nk_i (own := "NoonShadeModel") rfl (by decide) (Nat.le_of_ble_eq_true rfl) ?_
  intro p e s m below meth c ls X hD hN hr hlk h hl
  have hx := X.1.1
  have hb := X.1.2.1
  have hown := X.1.2.2.2.1
  have hts := X.1.2.2.2.2
  have hl : lv_has ls 4 [(0, .int k), (1, .int q), (2, .int t)] := hl
  refine lv_iload_n hx hb dX9_losesAs_0 rfl (lv_at hl 2 rfl) ?_
  refine lv_bipush (v := 6) hx hb dX9_losesAs_1 (by decide) ?_
  refine lv_icmp_ge (tgt := 10) hx hb dX9_losesAs_3 (by decide) (fun hc1 => ?_) (fun hc1 => ?_)
  · have hc1 : 6 ≤ (t).toInt := i_le hc1 rfl rfl
    refine lv_iconst (v := 1) hx hb dX9_losesAs_10 (by decide) ?_
    refine lv_istore_n (lv' := [(3, .int 1), (0, .int k), (1, .int q), (2, .int t)]) hx hb dX9_losesAs_11 rfl hl (by decide) rfl (fun ls hl => ?_)
    refine lv_iload_n hx hb dX9_losesAs_12 rfl (lv_at hl 1 rfl) ?_
    by_cases hs2 : 1 ≤ (k).toInt ∧ (k).toInt ≤ 5
    · have ha3 : k = 1 ∨ k = 2 ∨ k = 3 ∨ k = 4 ∨ k = 5 := by simp only [fa_eq]; have := hs2; simp only [show ((1 : Int32).toInt = 1) from rfl, show ((2 : Int32).toInt = 2) from rfl, show ((3 : Int32).toInt = 3) from rfl, show ((4 : Int32).toInt = 4) from rfl, show ((5 : Int32).toInt = 5) from rfl]; omega
      rcases ha3 with hq | hq | hq | hq | hq
      · refine lv_tableIn (tgt := 48) (off := 35) hx hb dX9_losesAs_13 (by rw [hq]; decide) (by rw [hq]; decide) (by rw [hq]; decide) (by decide) ?_
        refine lv_iconst (v := 3) hx hb dX9_losesAs_48 (by decide) ?_
        have hret4 : losF k q t = (3 : Int32) := by
          have hsw : k.toInt = 1 := by rw [hq]; rfl
          clear hq
          unfold losF
          rw [if_pos (by omega)]
          (try unfold stoF)
          all_goals ((repeat' split) <;> first | rfl | (exfalso; omega))
        exact e_i X h hr hlk dX9_losesAs_49 ⟨rfl, hret4⟩
      · refine lv_tableIn (tgt := 50) (off := 37) hx hb dX9_losesAs_13 (by rw [hq]; decide) (by rw [hq]; decide) (by rw [hq]; decide) (by decide) ?_
        refine lv_iload_n hx hb dX9_losesAs_50 rfl (lv_at hl 0 rfl) ?_
        have hret5 : losF k q t = (1 : Int32) := by
          have hsw : k.toInt = 2 := by rw [hq]; rfl
          clear hq
          unfold losF
          rw [if_neg (by omega), if_pos (by omega)]
          (try unfold stoF)
          all_goals ((repeat' split) <;> first | rfl | (exfalso; omega))
        exact e_i X h hr hlk dX9_losesAs_51 ⟨rfl, hret5⟩
      · refine lv_tableIn (tgt := 52) (off := 39) hx hb dX9_losesAs_13 (by rw [hq]; decide) (by rw [hq]; decide) (by rw [hq]; decide) (by decide) ?_
        refine lv_iconst (v := 3) hx hb dX9_losesAs_52 (by decide) ?_
        refine lv_iload_n hx hb dX9_losesAs_53 rfl (lv_at hl 2 rfl) ?_
        refine lv_bipush (v := 10) hx hb dX9_losesAs_54 (by decide) ?_
        obtain ⟨z8, e6⟩ : ∃ z : Int32, q / (10 : Int32) = z := ⟨_, rfl⟩
        refine o_idiv (z := z8) hx hb dX9_losesAs_56 (by decide) e6 ?_
        obtain ⟨z11, e9⟩ : ∃ z : Int32, (3 : Int32) + z8 = z := ⟨_, rfl⟩
        refine o_iadd (z := z11) hx hb dX9_losesAs_57 e9 ?_
        have hret12 : losF k q t = z11 := by
          have hsw : k.toInt = 3 := by rw [hq]; rfl
          clear hq
          subst e9; subst e6
          unfold losF
          rw [if_neg (by omega), if_neg (by omega), if_pos (by omega)]
          (try unfold stoF)
          all_goals ((repeat' split) <;> first | rfl | (exfalso; omega))
        exact e_i X h hr hlk dX9_losesAs_58 ⟨rfl, hret12⟩
      · refine lv_tableIn (tgt := 59) (off := 46) hx hb dX9_losesAs_13 (by rw [hq]; decide) (by rw [hq]; decide) (by rw [hq]; decide) (by decide) ?_
        refine lv_iload_n hx hb dX9_losesAs_59 rfl (lv_at hl 2 rfl) ?_
        refine lv_iconst (v := 1) hx hb dX9_losesAs_60 (by decide) ?_
        obtain ⟨z15, e13⟩ : ∃ z : Int32, q + (1 : Int32) = z := ⟨_, rfl⟩
        refine o_iadd (z := z15) hx hb dX9_losesAs_61 e13 ?_
        refine lv_iconst (v := 2) hx hb dX9_losesAs_62 (by decide) ?_
        obtain ⟨z18, e16⟩ : ∃ z : Int32, z15 / (2 : Int32) = z := ⟨_, rfl⟩
        refine o_idiv (z := z18) hx hb dX9_losesAs_63 (by decide) e16 ?_
        have hret19 : losF k q t = z18 := by
          have hsw : k.toInt = 4 := by rw [hq]; rfl
          clear hq
          subst e16; subst e13
          unfold losF
          rw [if_neg (by omega), if_neg (by omega), if_neg (by omega), if_pos (by omega)]
          (try unfold stoF)
          all_goals ((repeat' split) <;> first | rfl | (exfalso; omega))
        exact e_i X h hr hlk dX9_losesAs_64 ⟨rfl, hret19⟩
      · refine lv_tableIn (tgt := 65) (off := 52) hx hb dX9_losesAs_13 (by rw [hq]; decide) (by rw [hq]; decide) (by rw [hq]; decide) (by decide) ?_
        refine lv_iload_n hx hb dX9_losesAs_65 rfl (lv_at hl 2 rfl) ?_
        refine lv_bipush (v := 20) hx hb dX9_losesAs_66 (by decide) ?_
        refine lv_icmp_lt (tgt := 75) hx hb dX9_losesAs_68 (by decide) (fun hc20 => ?_) (fun hc20 => ?_)
        · have hc20 : (q).toInt < 20 := i_lt hc20 rfl rfl
          refine lv_iload_n hx hb dX9_losesAs_75 rfl (lv_at hl 0 rfl) ?_
          have hret21 : losF k q t = (1 : Int32) := by
            have hsw : k.toInt = 5 := by rw [hq]; rfl
            clear hq
            unfold losF
            rw [if_neg (by omega), if_neg (by omega), if_neg (by omega), if_neg (by omega), if_pos (by omega)]
            (try unfold stoF)
            all_goals ((repeat' split) <;> first | rfl | (exfalso; omega))
          exact e_i X h hr hlk dX9_losesAs_76 ⟨rfl, hret21⟩
        · have hc20 : ¬ (q).toInt < 20 := i_nlt hc20 rfl rfl
          refine lv_iconst (v := 0) hx hb dX9_losesAs_71 (by decide) ?_
          refine lv_goto (tgt := 76) hx hb dX9_losesAs_72 (by decide) ?_
          have hret22 : losF k q t = (0 : Int32) := by
            have hsw : k.toInt = 5 := by rw [hq]; rfl
            clear hq
            unfold losF
            rw [if_neg (by omega), if_neg (by omega), if_neg (by omega), if_neg (by omega), if_pos (by omega)]
            (try unfold stoF)
            all_goals ((repeat' split) <;> first | rfl | (exfalso; omega))
          exact e_i X h hr hlk dX9_losesAs_76 ⟨rfl, hret22⟩
    · refine lv_tableOut (tgt := 77) hx hb dX9_losesAs_13 (by omega) (by decide) ?_
      refine lv_iconst (v := 1) hx hb dX9_losesAs_77 (by decide) ?_
      have hret23 : losF k q t = (1 : Int32) := by
        unfold losF stoF
        all_goals ((repeat' split) <;> first | rfl | (exfalso; omega))
      exact e_i X h hr hlk dX9_losesAs_78 ⟨rfl, hret23⟩
  · have hc1 : ¬ 6 ≤ (t).toInt := i_nle hc1 rfl rfl
    refine lv_iconst (v := 0) hx hb dX9_losesAs_6 (by decide) ?_
    refine lv_goto (tgt := 11) hx hb dX9_losesAs_7 (by decide) ?_
    refine lv_istore_n (lv' := [(3, .int 0), (0, .int k), (1, .int q), (2, .int t)]) hx hb dX9_losesAs_11 rfl hl (by decide) rfl (fun ls hl => ?_)
    refine lv_iload_n hx hb dX9_losesAs_12 rfl (lv_at hl 1 rfl) ?_
    by_cases hs24 : 1 ≤ (k).toInt ∧ (k).toInt ≤ 5
    · have ha25 : k = 1 ∨ k = 2 ∨ k = 3 ∨ k = 4 ∨ k = 5 := by simp only [fa_eq]; have := hs24; simp only [show ((1 : Int32).toInt = 1) from rfl, show ((2 : Int32).toInt = 2) from rfl, show ((3 : Int32).toInt = 3) from rfl, show ((4 : Int32).toInt = 4) from rfl, show ((5 : Int32).toInt = 5) from rfl]; omega
      rcases ha25 with hq | hq | hq | hq | hq
      · refine lv_tableIn (tgt := 48) (off := 35) hx hb dX9_losesAs_13 (by rw [hq]; decide) (by rw [hq]; decide) (by rw [hq]; decide) (by decide) ?_
        refine lv_iconst (v := 3) hx hb dX9_losesAs_48 (by decide) ?_
        have hret26 : losF k q t = (3 : Int32) := by
          have hsw : k.toInt = 1 := by rw [hq]; rfl
          clear hq
          unfold losF
          rw [if_pos (by omega)]
          (try unfold stoF)
          all_goals ((repeat' split) <;> first | rfl | (exfalso; omega))
        exact e_i X h hr hlk dX9_losesAs_49 ⟨rfl, hret26⟩
      · refine lv_tableIn (tgt := 50) (off := 37) hx hb dX9_losesAs_13 (by rw [hq]; decide) (by rw [hq]; decide) (by rw [hq]; decide) (by decide) ?_
        refine lv_iload_n hx hb dX9_losesAs_50 rfl (lv_at hl 0 rfl) ?_
        have hret27 : losF k q t = (0 : Int32) := by
          have hsw : k.toInt = 2 := by rw [hq]; rfl
          clear hq
          unfold losF
          rw [if_neg (by omega), if_pos (by omega)]
          (try unfold stoF)
          all_goals ((repeat' split) <;> first | rfl | (exfalso; omega))
        exact e_i X h hr hlk dX9_losesAs_51 ⟨rfl, hret27⟩
      · refine lv_tableIn (tgt := 52) (off := 39) hx hb dX9_losesAs_13 (by rw [hq]; decide) (by rw [hq]; decide) (by rw [hq]; decide) (by decide) ?_
        refine lv_iconst (v := 3) hx hb dX9_losesAs_52 (by decide) ?_
        refine lv_iload_n hx hb dX9_losesAs_53 rfl (lv_at hl 2 rfl) ?_
        refine lv_bipush (v := 10) hx hb dX9_losesAs_54 (by decide) ?_
        obtain ⟨z30, e28⟩ : ∃ z : Int32, q / (10 : Int32) = z := ⟨_, rfl⟩
        refine o_idiv (z := z30) hx hb dX9_losesAs_56 (by decide) e28 ?_
        obtain ⟨z33, e31⟩ : ∃ z : Int32, (3 : Int32) + z30 = z := ⟨_, rfl⟩
        refine o_iadd (z := z33) hx hb dX9_losesAs_57 e31 ?_
        have hret34 : losF k q t = z33 := by
          have hsw : k.toInt = 3 := by rw [hq]; rfl
          clear hq
          subst e31; subst e28
          unfold losF
          rw [if_neg (by omega), if_neg (by omega), if_pos (by omega)]
          (try unfold stoF)
          all_goals ((repeat' split) <;> first | rfl | (exfalso; omega))
        exact e_i X h hr hlk dX9_losesAs_58 ⟨rfl, hret34⟩
      · refine lv_tableIn (tgt := 59) (off := 46) hx hb dX9_losesAs_13 (by rw [hq]; decide) (by rw [hq]; decide) (by rw [hq]; decide) (by decide) ?_
        refine lv_iload_n hx hb dX9_losesAs_59 rfl (lv_at hl 2 rfl) ?_
        refine lv_iconst (v := 1) hx hb dX9_losesAs_60 (by decide) ?_
        obtain ⟨z37, e35⟩ : ∃ z : Int32, q + (1 : Int32) = z := ⟨_, rfl⟩
        refine o_iadd (z := z37) hx hb dX9_losesAs_61 e35 ?_
        refine lv_iconst (v := 2) hx hb dX9_losesAs_62 (by decide) ?_
        obtain ⟨z40, e38⟩ : ∃ z : Int32, z37 / (2 : Int32) = z := ⟨_, rfl⟩
        refine o_idiv (z := z40) hx hb dX9_losesAs_63 (by decide) e38 ?_
        have hret41 : losF k q t = z40 := by
          have hsw : k.toInt = 4 := by rw [hq]; rfl
          clear hq
          subst e38; subst e35
          unfold losF
          rw [if_neg (by omega), if_neg (by omega), if_neg (by omega), if_pos (by omega)]
          (try unfold stoF)
          all_goals ((repeat' split) <;> first | rfl | (exfalso; omega))
        exact e_i X h hr hlk dX9_losesAs_64 ⟨rfl, hret41⟩
      · refine lv_tableIn (tgt := 65) (off := 52) hx hb dX9_losesAs_13 (by rw [hq]; decide) (by rw [hq]; decide) (by rw [hq]; decide) (by decide) ?_
        refine lv_iload_n hx hb dX9_losesAs_65 rfl (lv_at hl 2 rfl) ?_
        refine lv_bipush (v := 20) hx hb dX9_losesAs_66 (by decide) ?_
        refine lv_icmp_lt (tgt := 75) hx hb dX9_losesAs_68 (by decide) (fun hc42 => ?_) (fun hc42 => ?_)
        · have hc42 : (q).toInt < 20 := i_lt hc42 rfl rfl
          refine lv_iload_n hx hb dX9_losesAs_75 rfl (lv_at hl 0 rfl) ?_
          have hret43 : losF k q t = (0 : Int32) := by
            have hsw : k.toInt = 5 := by rw [hq]; rfl
            clear hq
            unfold losF
            rw [if_neg (by omega), if_neg (by omega), if_neg (by omega), if_neg (by omega), if_pos (by omega)]
            (try unfold stoF)
            all_goals ((repeat' split) <;> first | rfl | (exfalso; omega))
          exact e_i X h hr hlk dX9_losesAs_76 ⟨rfl, hret43⟩
        · have hc42 : ¬ (q).toInt < 20 := i_nlt hc42 rfl rfl
          refine lv_iconst (v := 0) hx hb dX9_losesAs_71 (by decide) ?_
          refine lv_goto (tgt := 76) hx hb dX9_losesAs_72 (by decide) ?_
          have hret44 : losF k q t = (0 : Int32) := by
            have hsw : k.toInt = 5 := by rw [hq]; rfl
            clear hq
            unfold losF
            rw [if_neg (by omega), if_neg (by omega), if_neg (by omega), if_neg (by omega), if_pos (by omega)]
            (try unfold stoF)
            all_goals ((repeat' split) <;> first | rfl | (exfalso; omega))
          exact e_i X h hr hlk dX9_losesAs_76 ⟨rfl, hret44⟩
    · refine lv_tableOut (tgt := 77) hx hb dX9_losesAs_13 (by omega) (by decide) ?_
      refine lv_iconst (v := 1) hx hb dX9_losesAs_77 (by decide) ?_
      have hret45 : losF k q t = (1 : Int32) := by
        unfold losF stoF
        all_goals ((repeat' split) <;> first | rfl | (exfalso; omega))
      exact e_i X h hr hlk dX9_losesAs_78 ⟨rfl, hret45⟩

set_option maxHeartbeats 4000000 in
set_option maxRecDepth 100000 in
theorem c_MF_givesOf (l : Launch) (G : va_G) (cI cB cZ cO : ClassId) (ad : Nat → Nat) (w : Nat → va_E) (o : Nat) (ho : isO o) (N : Nat) (f : Nat → Int32) (ok : OK cI cB cZ cO ad w) (i : Int32) (n : Int32) (hl_i : 0 ≤ i.toInt) (hh_i : i.toInt ≤ 6) (pf : w o = .inl (cI, N, .inl f)) (pal : alA f) (hN : 41 ≤ N) : NI l G (tyq cI cB cZ cO) yX9_givesOf cX9_givesOf 3 (some .int) 1 25 74 ad w [.ref (ad o), .int i, .int n] (fun r w1 => w = w1 ∧ givF (f (16 + i.toNatClampNeg)) (f (23 + i.toNatClampNeg)) (rem24 (f 5 + n)) = r) := by
  refine nk_i (own := "NoonShadeModel") rfl (by decide) (Nat.le_of_ble_eq_true rfl) ?_
  intro p e s m below meth c ls X hD hN hr hlk h hl
  have hx := X.1.1
  have hb := X.1.2.1
  have hown := X.1.2.2.2.1
  have hts := X.1.2.2.2.2
  have hl : lv_has ls 3 [(0, .ref (ad o)), (1, .int i), (2, .int n)] := hl
  refine lv_aload_n hx hb dX9_givesOf_0 rfl (lv_at hl 0 rfl) ?_
  refine lv_bipush (v := 16) hx hb dX9_givesOf_1 (by decide) ?_
  refine lv_iload_n hx hb dX9_givesOf_3 rfl (lv_at hl 1 rfl) ?_
  obtain ⟨z3, e1, t2⟩ := x_add (x := (16 : Int32)) (y := i) (a := 16) (b := (i).toInt) rfl rfl (by omega) (by omega)
  have n4 : z3.toNatClampNeg = 16 + i.toNatClampNeg := cl_addn (x := (16 : Int32)) (y := i) rfl rfl t2 (by decide) (by omega)
  refine o_iadd (z := z3) hx hb dX9_givesOf_4 e1 ?_
  obtain ⟨v5, e6⟩ : ∃ z : Int32, f (16 + i.toNatClampNeg) = z := ⟨_, rfl⟩
  refine o_iald (v := v5) X h o 0 (isO.lt ho) rfl pf rfl (in_of (by omega) (by omega)) (by rw [n4]; exact e6) dX9_givesOf_5 ?_
  refine lv_aload_n hx hb dX9_givesOf_6 rfl (lv_at hl 0 rfl) ?_
  refine lv_bipush (v := 23) hx hb dX9_givesOf_7 (by decide) ?_
  refine lv_iload_n hx hb dX9_givesOf_9 rfl (lv_at hl 1 rfl) ?_
  obtain ⟨z10, e8, t9⟩ := x_add (x := (23 : Int32)) (y := i) (a := 23) (b := (i).toInt) rfl rfl (by omega) (by omega)
  have n11 : z10.toNatClampNeg = 23 + i.toNatClampNeg := cl_addn (x := (23 : Int32)) (y := i) rfl rfl t9 (by decide) (by omega)
  refine o_iadd (z := z10) hx hb dX9_givesOf_10 e8 ?_
  obtain ⟨v12, e13⟩ : ∃ z : Int32, f (23 + i.toNatClampNeg) = z := ⟨_, rfl⟩
  refine o_iald (v := v12) X h o 0 (isO.lt ho) rfl pf rfl (in_of (by omega) (by omega)) (by rw [n11]; exact e13) dX9_givesOf_11 ?_
  refine lv_aload_n hx hb dX9_givesOf_12 rfl (lv_at hl 0 rfl) ?_
  refine lv_iconst (v := 5) hx hb dX9_givesOf_13 (by decide) ?_
  obtain ⟨v15, e16⟩ : ∃ z : Int32, f 5 = z := ⟨_, rfl⟩
  refine o_iald (v := v15) X h o 0 (isO.lt ho) rfl pf rfl (in_of (by decide) (by show (5 : Int) < _; omega)) e16 dX9_givesOf_14 ?_
  refine lv_iload_n hx hb dX9_givesOf_15 rfl (lv_at hl 2 rfl) ?_
  obtain ⟨z20, e18⟩ : ∃ z : Int32, v15 + n = z := ⟨_, rfl⟩
  refine o_iadd (z := z20) hx hb dX9_givesOf_16 e18 ?_
  refine lv_bipush (v := 24) hx hb dX9_givesOf_17 (by decide) ?_
  obtain ⟨z23, e21, t22, t22b⟩ := x_rem24 z20
  refine o_irem (z := z23) hx hb dX9_givesOf_19 (by decide) e21 ?_
  refine n_Si (na := 3) (As := [.int v5, .int v12, .int z23]) (rest := []) X hD hN h (c_MF_givesAs l G cI cB cZ cO ad w   v5 v12 z23  ) ⟨kv_477, kv_478, kv_470, kv_479⟩ ⟨by decide, by decide, by decide⟩ ⟨Nat.le_of_ble_eq_true rfl, Nat.le_of_ble_eq_true rfl⟩ ⟨Nat.zero_le _, Nat.zero_le _⟩ rfl hl.1 rfl (Nat.le_of_ble_eq_true rfl) dX9_givesOf_20 (fun r24 w25 H locs hp26 h => ?_)
  obtain ⟨rfl, hr27⟩ := hp26
  have hret28 : givF (f (16 + i.toNatClampNeg)) (f (23 + i.toNatClampNeg)) (rem24 (f 5 + n)) = r24 := by
    subst hr27; subst e21; subst e18; subst e16; subst e13; subst e8; subst e6; subst e1
    (try unfold rem24)
    (repeat' split) <;> first | rfl | (exfalso; omega)
  exact e_i X h hr hlk dX9_givesOf_23 ⟨rfl, hret28⟩

set_option maxHeartbeats 4000000 in
set_option maxRecDepth 100000 in
theorem c_MF_losesOf (l : Launch) (G : va_G) (cI cB cZ cO : ClassId) (ad : Nat → Nat) (w : Nat → va_E) (o : Nat) (ho : isO o) (N : Nat) (f : Nat → Int32) (ok : OK cI cB cZ cO ad w) (j : Int32) (hl_j : 0 ≤ j.toInt) (hh_j : j.toInt ≤ 3) (pf : w o = .inl (cI, N, .inl f)) (pal : alA f) (hN : 41 ≤ N) : NI l G (tyq cI cB cZ cO) yX9_losesOf cX9_losesOf 4 (some .int) 1 23 74 ad w [.ref (ad o), .int j] (fun r w1 => w = w1 ∧ golF f j.toNatClampNeg = r) := by
  refine nk_i (own := "NoonShadeModel") rfl (by decide) (Nat.le_of_ble_eq_true rfl) ?_
  intro p e s m below meth c ls X hD hN hr hlk h hl
  have hx := X.1.1
  have hb := X.1.2.1
  have hown := X.1.2.2.2.1
  have hts := X.1.2.2.2.2
  have hl : lv_has ls 4 [(0, .ref (ad o)), (1, .int j)] := hl
  refine lv_aload_n hx hb dX9_losesOf_0 rfl (lv_at hl 0 rfl) ?_
  refine lv_bipush (v := 8) hx hb dX9_losesOf_1 (by decide) ?_
  refine lv_iload_n hx hb dX9_losesOf_3 rfl (lv_at hl 1 rfl) ?_
  obtain ⟨z3, e1, t2⟩ := x_add (x := (8 : Int32)) (y := j) (a := 8) (b := (j).toInt) rfl rfl (by omega) (by omega)
  have n4 : z3.toNatClampNeg = 8 + j.toNatClampNeg := cl_addn (x := (8 : Int32)) (y := j) rfl rfl t2 (by decide) (by omega)
  refine o_iadd (z := z3) hx hb dX9_losesOf_4 e1 ?_
  obtain ⟨v5, e6⟩ : ∃ z : Int32, f (8 + j.toNatClampNeg) = z := ⟨_, rfl⟩
  refine o_iald (v := v5) X h o 0 (isO.lt ho) rfl pf rfl (in_of (by omega) (by omega)) (by rw [n4]; exact e6) dX9_losesOf_5 ?_
  refine lv_istore_n (lv' := [(2, .int v5), (0, .ref (ad o)), (1, .int j)]) hx hb dX9_losesOf_6 rfl hl (by decide) rfl (fun ls hl => ?_)
  refine lv_aload_n hx hb dX9_losesOf_7 rfl (lv_at hl 1 rfl) ?_
  refine lv_bipush (v := 37) hx hb dX9_losesOf_8 (by decide) ?_
  refine lv_iload_n hx hb dX9_losesOf_10 rfl (lv_at hl 2 rfl) ?_
  obtain ⟨z10, e8, t9⟩ := x_add (x := (37 : Int32)) (y := j) (a := 37) (b := (j).toInt) rfl rfl (by omega) (by omega)
  have n11 : z10.toNatClampNeg = 37 + j.toNatClampNeg := cl_addn (x := (37 : Int32)) (y := j) rfl rfl t9 (by decide) (by omega)
  refine o_iadd (z := z10) hx hb dX9_losesOf_11 e8 ?_
  obtain ⟨v12, e13⟩ : ∃ z : Int32, f (37 + j.toNatClampNeg) = z := ⟨_, rfl⟩
  refine o_iald (v := v12) X h o 0 (isO.lt ho) rfl pf rfl (in_of (by omega) (by omega)) (by rw [n11]; exact e13) dX9_losesOf_12 ?_
  refine lv_iload_n hx hb dX9_losesOf_13 rfl (lv_at hl 0 rfl) ?_
  refine lv_aload_n hx hb dX9_losesOf_14 rfl (lv_at hl 1 rfl) ?_
  refine lv_iconst (v := 5) hx hb dX9_losesOf_15 (by decide) ?_
  obtain ⟨v15, e16⟩ : ∃ z : Int32, f 5 = z := ⟨_, rfl⟩
  refine o_iald (v := v15) X h o 0 (isO.lt ho) rfl pf rfl (in_of (by decide) (by show (5 : Int) < _; omega)) e16 dX9_losesOf_16 ?_
  refine lv_bipush (v := 24) hx hb dX9_losesOf_17 (by decide) ?_
  obtain ⟨z20, e18, t19, t19b⟩ := x_rem24 v15
  refine o_irem (z := z20) hx hb dX9_losesOf_19 (by decide) e18 ?_
  refine n_Si (na := 3) (As := [.int v12, .int v5, .int z20]) (rest := []) X hD hN h (c_MF_losesAs l G cI cB cZ cO ad w   v12 v5 z20  ) ⟨kv_480, kv_481, kv_470, kv_482⟩ ⟨by decide, by decide, by decide⟩ ⟨Nat.le_of_ble_eq_true rfl, Nat.le_of_ble_eq_true rfl⟩ ⟨Nat.zero_le _, Nat.zero_le _⟩ rfl hl.1 rfl (Nat.le_of_ble_eq_true rfl) dX9_losesOf_20 (fun r21 w22 H locs hp23 h => ?_)
  obtain ⟨rfl, hr24⟩ := hp23
  refine lv_istore_n (lv' := [(3, .int r21), (2, .int v5), (0, .ref (ad o)), (1, .int j)]) hx hb dX9_losesOf_23 rfl hl (by decide) rfl (fun ls hl => ?_)
  refine lv_iload_n hx hb dX9_losesOf_24 rfl (lv_at hl 0 rfl) ?_
  refine lv_iload_n hx hb dX9_losesOf_25 rfl (lv_at hl 1 rfl) ?_
  refine lv_icmp_ge (tgt := 33) hx hb dX9_losesOf_26 (by decide) (fun hc25 => ?_) (fun hc25 => ?_)
  · have hc25 : (v5).toInt ≤ (r21).toInt := i_le hc25 rfl rfl
    refine lv_iload_n hx hb dX9_losesOf_33 rfl (lv_at hl 1 rfl) ?_
    have hret26 : golF f j.toNatClampNeg = v5 := by
      subst hr24; subst e18; subst e16; subst e13; subst e8; subst e6; subst e1
      (try unfold golF rem24)
      (repeat' split) <;> first | rfl | (exfalso; omega)
    exact e_i X h hr hlk dX9_losesOf_34 ⟨rfl, hret26⟩
  · have hc25 : ¬ (v5).toInt ≤ (r21).toInt := i_nle hc25 rfl rfl
    refine lv_iload_n hx hb dX9_losesOf_29 rfl (lv_at hl 0 rfl) ?_
    refine lv_goto (tgt := 34) hx hb dX9_losesOf_30 (by decide) ?_
    have hret27 : golF f j.toNatClampNeg = r21 := by
      subst hr24; subst e18; subst e16; subst e13; subst e8; subst e6; subst e1
      (try unfold golF rem24)
      (repeat' split) <;> first | rfl | (exfalso; omega)
    exact e_i X h hr hlk dX9_losesOf_34 ⟨rfl, hret27⟩

set_option maxHeartbeats 4000000 in
set_option maxRecDepth 100000 in
theorem c_MF_goIn (l : Launch) (G : va_G) (cI cB cZ cO : ClassId) (ad : Nat → Nat) (w : Nat → va_E) (o : Nat) (ho : isO o) (N : Nat) (f : Nat → Int32) (ok : OK cI cB cZ cO ad w) (j : Int32) (x : Int32) (t : Int32) (hl_j : 0 ≤ j.toInt) (hh_j : j.toInt ≤ 3) (pf : w o = .inl (cI, N, .inl f)) (pal : alA f) (hN : 41 ≤ N) : NI l G (tyq cI cB cZ cO) yX9_goIn cX9_goIn 6 (some .int) 0 0 74 ad w [.ref (ad o), .int j, .int x, .int t] (fun r w1 => OK cI cB cZ cO ad w1 ∧ KO o w w1 ∧ camF (f (8 + j.toNatClampNeg)) x = r ∧ w1 o = .inl (cI, N, .inl (goInF f j.toNatClampNeg x t))) := by
  refine nk_i (own := "NoonShadeModel") rfl (by decide) (Nat.le_of_ble_eq_true rfl) ?_
  intro p e s m below meth c ls X hD hN hr hlk h hl
  have hx := X.1.1
  have hb := X.1.2.1
  have hown := X.1.2.2.2.1
  have hts := X.1.2.2.2.2
  have hl : lv_has ls 6 [(0, .ref (ad o)), (1, .int j), (2, .int x), (3, .int t)] := hl
  refine lv_aload_n hx hb dX9_goIn_0 rfl (lv_at hl 0 rfl) ?_
  refine lv_bipush (v := 8) hx hb dX9_goIn_1 (by decide) ?_
  refine lv_iload_n hx hb dX9_goIn_3 rfl (lv_at hl 1 rfl) ?_
  obtain ⟨z3, e1, t2⟩ := x_add (x := (8 : Int32)) (y := j) (a := 8) (b := (j).toInt) rfl rfl (by omega) (by omega)
  have n4 : z3.toNatClampNeg = 8 + j.toNatClampNeg := cl_addn (x := (8 : Int32)) (y := j) rfl rfl t2 (by decide) (by omega)
  refine o_iadd (z := z3) hx hb dX9_goIn_4 e1 ?_
  obtain ⟨v5, e6⟩ : ∃ z : Int32, f (8 + j.toNatClampNeg) = z := ⟨_, rfl⟩
  refine o_iald (v := v5) X h o 0 (isO.lt ho) rfl pf rfl (in_of (by omega) (by omega)) (by rw [n4]; exact e6) dX9_goIn_5 ?_
  refine lv_istore (lv' := [(4, .int v5), (0, .ref (ad o)), (1, .int j), (2, .int x), (3, .int t)]) hx hb dX9_goIn_6 hl (by decide) rfl (fun ls hl => ?_)
  refine lv_iload_n hx hb dX9_goIn_8 rfl (lv_at hl 3 rfl) ?_
  refine lv_bipush (v := 60) hx hb dX9_goIn_9 (by decide) ?_
  refine lv_iload hx hb dX9_goIn_11 (lv_at hl 0 rfl) ?_
  obtain ⟨z10, e8⟩ : ∃ z : Int32, (60 : Int32) - v5 = z := ⟨_, rfl⟩
  refine o_isub (z := z10) hx hb dX9_goIn_13 e8 ?_
  refine lv_icmp_ge (tgt := 21) hx hb dX9_goIn_14 (by decide) (fun hc11 => ?_) (fun hc11 => ?_)
  · have hc11 : (z10).toInt ≤ (x).toInt := i_le hc11 rfl rfl
    refine lv_bipush (v := 60) hx hb dX9_goIn_21 (by decide) ?_
    refine lv_iload hx hb dX9_goIn_23 (lv_at hl 0 rfl) ?_
    obtain ⟨z14, e12⟩ : ∃ z : Int32, (60 : Int32) - v5 = z := ⟨_, rfl⟩
    refine o_isub (z := z14) hx hb dX9_goIn_25 e12 ?_
    refine lv_istore (lv' := [(5, .int z14), (4, .int v5), (0, .ref (ad o)), (1, .int j), (2, .int x), (3, .int t)]) hx hb dX9_goIn_26 hl (by decide) rfl (fun ls hl => ?_)
    refine lv_iload hx hb dX9_goIn_28 (lv_at hl 0 rfl) ?_
    refine lv_if_le (tgt := 70) hx hb dX9_goIn_30 (by decide) (fun hc15 => ?_) (fun hc15 => ?_)
    · have hc15 : (z14).toInt ≤ 0 := i_le hc15 rfl rfl
      refine lv_iload hx hb dX9_goIn_70 (lv_at hl 0 rfl) ?_
      have hret16 : w o = .inl (cI, N, .inl (goInF f j.toNatClampNeg x t)) := by
        rw [pf]
        subst e12; subst e8; subst e6; subst e1
        (try unfold goInF camF)
        (repeat' split) <;> first | rfl | (exfalso; omega)
      have hret17 : camF (f (8 + j.toNatClampNeg)) x = z14 := by
        subst e12; subst e8; subst e6; subst e1
        (try unfold camF)
        (repeat' split) <;> first | rfl | (exfalso; omega)
      exact e_i X h hr hlk dX9_goIn_72 ⟨ok, KO.rf, ⟨hret17, hret16⟩⟩
    · have hc15 : ¬ (z14).toInt ≤ 0 := i_nle hc15 rfl rfl
      refine lv_aload_n hx hb dX9_goIn_33 rfl (lv_at hl 2 rfl) ?_
      refine lv_bipush (v := 12) hx hb dX9_goIn_34 (by decide) ?_
      refine lv_iload_n hx hb dX9_goIn_36 rfl (lv_at hl 3 rfl) ?_
      obtain ⟨z20, e18, t19⟩ := x_add (x := (12 : Int32)) (y := j) (a := 12) (b := (j).toInt) rfl rfl (by omega) (by omega)
      have n21 : z20.toNatClampNeg = 12 + j.toNatClampNeg := cl_addn (x := (12 : Int32)) (y := j) rfl rfl t19 (by decide) (by omega)
      refine o_iadd (z := z20) hx hb dX9_goIn_37 e18 ?_
      refine lv_iload hx hb dX9_goIn_38 (lv_at hl 1 rfl) ?_
      refine lv_if_eq (tgt := 53) hx hb dX9_goIn_40 (by decide) (fun hc22 => ?_) (fun hc22 => ?_)
      · have hc22 : (v5).toInt = 0 := i_eq hc22 rfl rfl
        refine lv_iload_n hx hb dX9_goIn_53 rfl (lv_at hl 5 rfl) ?_
        refine lv_goto (tgt := 58) hx hb dX9_goIn_54 (by decide) ?_
        obtain ⟨g23, e24⟩ : ∃ z : Nat → Int32, upd f (12 + j.toNatClampNeg) t = z := ⟨_, rfl⟩
        have p25 : alA g23 := alA_upd pal e24 (by omega)
        refine o_iast (f1 := g23) X hD h o 0 (isO.lt ho) rfl pf rfl (in_of (by omega) (by omega)) (by rw [n21]; exact e24) dX9_goIn_58 (fun H locs w26 e27 h => ?_)
        have f28 : w26 o = .inl (cI, N, .inl g23) := (congrFun e27 _).trans (va_up_self _ _ _)
        have ok29 : OK cI cB cZ cO ad w26 := OK.upO ok ho pf e27 p25
        have cq_j := cl_of (x := j) (by omega)
        have kx30 : KO o w w26 := KO.up KO.rf e27 pf (kmO ho e24 (by omega))
        refine lv_aload_n hx hb dX9_goIn_59 rfl (lv_at hl 2 rfl) ?_
        refine lv_bipush (v := 8) hx hb dX9_goIn_60 (by decide) ?_
        refine lv_iload_n hx hb dX9_goIn_62 rfl (lv_at hl 3 rfl) ?_
        obtain ⟨z33, e31, t32⟩ := x_add (x := (8 : Int32)) (y := j) (a := 8) (b := (j).toInt) rfl rfl (by omega) (by omega)
        have n34 : z33.toNatClampNeg = 8 + j.toNatClampNeg := cl_addn (x := (8 : Int32)) (y := j) rfl rfl t32 (by decide) (by omega)
        refine o_iadd (z := z33) hx hb dX9_goIn_63 e31 ?_
        refine lv_iload hx hb dX9_goIn_64 (lv_at hl 1 rfl) ?_
        refine lv_iload hx hb dX9_goIn_66 (lv_at hl 0 rfl) ?_
        obtain ⟨z37, e35⟩ : ∃ z : Int32, v5 + z14 = z := ⟨_, rfl⟩
        refine o_iadd (z := z37) hx hb dX9_goIn_68 e35 ?_
        obtain ⟨g38, e39⟩ : ∃ z : Nat → Int32, upd g23 (8 + j.toNatClampNeg) z37 = z := ⟨_, rfl⟩
        have p40 : alA g38 := alA_upd p25 e39 (by omega)
        refine o_iast (f1 := g38) X hD h o 0 (isO.lt ho) rfl f28 rfl (in_of (by omega) (by omega)) (by rw [n34]; exact e39) dX9_goIn_69 (fun H locs w41 e42 h => ?_)
        have f43 : w41 o = .inl (cI, N, .inl g38) := (congrFun e42 _).trans (va_up_self _ _ _)
        have ok44 : OK cI cB cZ cO ad w41 := OK.upO ok29 ho f28 e42 p40
        have cq_j := cl_of (x := j) (by omega)
        have kx45 : KO o w w41 := KO.up kx30 e42 f28 (kmO ho e39 (by omega))
        refine lv_iload hx hb dX9_goIn_70 (lv_at hl 0 rfl) ?_
        have hret46 : w41 o = .inl (cI, N, .inl (goInF f j.toNatClampNeg x t)) := by
          rw [f43]
          subst e39; subst e35; subst e31; subst e24; subst e18; subst e12; subst e8; subst e6; subst e1
          (try unfold goInF camF)
          (repeat' split) <;> first | rfl | (exfalso; omega)
        have hret47 : camF (f (8 + j.toNatClampNeg)) x = z14 := by
          subst e39; subst e35; subst e31; subst e24; subst e18; subst e12; subst e8; subst e6; subst e1
          (try unfold camF)
          (repeat' split) <;> first | rfl | (exfalso; omega)
        exact e_i X h hr hlk dX9_goIn_72 ⟨ok44, kx45, ⟨hret47, hret46⟩⟩
      · have hc22 : ¬ (v5).toInt = 0 := i_ne hc22 rfl rfl
        refine lv_aload_n hx hb dX9_goIn_43 rfl (lv_at hl 2 rfl) ?_
        refine lv_bipush (v := 12) hx hb dX9_goIn_44 (by decide) ?_
        refine lv_iload_n hx hb dX9_goIn_46 rfl (lv_at hl 3 rfl) ?_
        obtain ⟨z50, e48, t49⟩ := x_add (x := (12 : Int32)) (y := j) (a := 12) (b := (j).toInt) rfl rfl (by omega) (by omega)
        have n51 : z50.toNatClampNeg = 12 + j.toNatClampNeg := cl_addn (x := (12 : Int32)) (y := j) rfl rfl t49 (by decide) (by omega)
        refine o_iadd (z := z50) hx hb dX9_goIn_47 e48 ?_
        obtain ⟨v52, e53⟩ : ∃ z : Int32, f (12 + j.toNatClampNeg) = z := ⟨_, rfl⟩
        refine o_iald (v := v52) X h o 0 (isO.lt ho) rfl pf rfl (in_of (by omega) (by omega)) (by rw [n51]; exact e53) dX9_goIn_48 ?_
        refine lv_iload_n hx hb dX9_goIn_49 rfl (lv_at hl 5 rfl) ?_
        refine lv_icmp_ne (tgt := 57) hx hb dX9_goIn_50 (by decide) (fun hc55 => ?_) (fun hc55 => ?_)
        · have hc55 : ¬ (v52).toInt = (t).toInt := i_ne hc55 rfl rfl
          refine lv_iconst (v := 4) hx hb dX9_goIn_57 (by decide) ?_
          obtain ⟨g56, e57⟩ : ∃ z : Nat → Int32, upd f (12 + j.toNatClampNeg) (4 : Int32) = z := ⟨_, rfl⟩
          have p58 : alA g56 := alA_upd pal e57 (by omega)
          refine o_iast (f1 := g56) X hD h o 0 (isO.lt ho) rfl pf rfl (in_of (by omega) (by omega)) (by rw [n21]; exact e57) dX9_goIn_58 (fun H locs w59 e60 h => ?_)
          have f61 : w59 o = .inl (cI, N, .inl g56) := (congrFun e60 _).trans (va_up_self _ _ _)
          have ok62 : OK cI cB cZ cO ad w59 := OK.upO ok ho pf e60 p58
          have cq_j := cl_of (x := j) (by omega)
          have kx63 : KO o w w59 := KO.up KO.rf e60 pf (kmO ho e57 (by omega))
          refine lv_aload_n hx hb dX9_goIn_59 rfl (lv_at hl 2 rfl) ?_
          refine lv_bipush (v := 8) hx hb dX9_goIn_60 (by decide) ?_
          refine lv_iload_n hx hb dX9_goIn_62 rfl (lv_at hl 3 rfl) ?_
          obtain ⟨z66, e64, t65⟩ := x_add (x := (8 : Int32)) (y := j) (a := 8) (b := (j).toInt) rfl rfl (by omega) (by omega)
          have n67 : z66.toNatClampNeg = 8 + j.toNatClampNeg := cl_addn (x := (8 : Int32)) (y := j) rfl rfl t65 (by decide) (by omega)
          refine o_iadd (z := z66) hx hb dX9_goIn_63 e64 ?_
          refine lv_iload hx hb dX9_goIn_64 (lv_at hl 1 rfl) ?_
          refine lv_iload hx hb dX9_goIn_66 (lv_at hl 0 rfl) ?_
          obtain ⟨z70, e68⟩ : ∃ z : Int32, v5 + z14 = z := ⟨_, rfl⟩
          refine o_iadd (z := z70) hx hb dX9_goIn_68 e68 ?_
          obtain ⟨g71, e72⟩ : ∃ z : Nat → Int32, upd g56 (8 + j.toNatClampNeg) z70 = z := ⟨_, rfl⟩
          have p73 : alA g71 := alA_upd p58 e72 (by omega)
          refine o_iast (f1 := g71) X hD h o 0 (isO.lt ho) rfl f61 rfl (in_of (by omega) (by omega)) (by rw [n67]; exact e72) dX9_goIn_69 (fun H locs w74 e75 h => ?_)
          have f76 : w74 o = .inl (cI, N, .inl g71) := (congrFun e75 _).trans (va_up_self _ _ _)
          have ok77 : OK cI cB cZ cO ad w74 := OK.upO ok62 ho f61 e75 p73
          have cq_j := cl_of (x := j) (by omega)
          have kx78 : KO o w w74 := KO.up kx63 e75 f61 (kmO ho e72 (by omega))
          refine lv_iload hx hb dX9_goIn_70 (lv_at hl 0 rfl) ?_
          have hret79 : w74 o = .inl (cI, N, .inl (goInF f j.toNatClampNeg x t)) := by
            rw [f76]
            subst e72; subst e68; subst e64; subst e57; subst e53; subst e48; subst e18; subst e12; subst e8; subst e6; subst e1
            (try unfold goInF camF)
            (repeat' split) <;> first | rfl | (exfalso; omega)
          have hret80 : camF (f (8 + j.toNatClampNeg)) x = z14 := by
            subst e72; subst e68; subst e64; subst e57; subst e53; subst e48; subst e18; subst e12; subst e8; subst e6; subst e1
            (try unfold camF)
            (repeat' split) <;> first | rfl | (exfalso; omega)
          exact e_i X h hr hlk dX9_goIn_72 ⟨ok77, kx78, ⟨hret80, hret79⟩⟩
        · have hc55 : (v52).toInt = (t).toInt := i_eq hc55 rfl rfl
          refine lv_iload_n hx hb dX9_goIn_53 rfl (lv_at hl 5 rfl) ?_
          refine lv_goto (tgt := 58) hx hb dX9_goIn_54 (by decide) ?_
          obtain ⟨g81, e82⟩ : ∃ z : Nat → Int32, upd f (12 + j.toNatClampNeg) t = z := ⟨_, rfl⟩
          have p83 : alA g81 := alA_upd pal e82 (by omega)
          refine o_iast (f1 := g81) X hD h o 0 (isO.lt ho) rfl pf rfl (in_of (by omega) (by omega)) (by rw [n21]; exact e82) dX9_goIn_58 (fun H locs w84 e85 h => ?_)
          have f86 : w84 o = .inl (cI, N, .inl g81) := (congrFun e85 _).trans (va_up_self _ _ _)
          have ok87 : OK cI cB cZ cO ad w84 := OK.upO ok ho pf e85 p83
          have cq_j := cl_of (x := j) (by omega)
          have kx88 : KO o w w84 := KO.up KO.rf e85 pf (kmO ho e82 (by omega))
          refine lv_aload_n hx hb dX9_goIn_59 rfl (lv_at hl 2 rfl) ?_
          refine lv_bipush (v := 8) hx hb dX9_goIn_60 (by decide) ?_
          refine lv_iload_n hx hb dX9_goIn_62 rfl (lv_at hl 3 rfl) ?_
          obtain ⟨z91, e89, t90⟩ := x_add (x := (8 : Int32)) (y := j) (a := 8) (b := (j).toInt) rfl rfl (by omega) (by omega)
          have n92 : z91.toNatClampNeg = 8 + j.toNatClampNeg := cl_addn (x := (8 : Int32)) (y := j) rfl rfl t90 (by decide) (by omega)
          refine o_iadd (z := z91) hx hb dX9_goIn_63 e89 ?_
          refine lv_iload hx hb dX9_goIn_64 (lv_at hl 1 rfl) ?_
          refine lv_iload hx hb dX9_goIn_66 (lv_at hl 0 rfl) ?_
          obtain ⟨z95, e93⟩ : ∃ z : Int32, v5 + z14 = z := ⟨_, rfl⟩
          refine o_iadd (z := z95) hx hb dX9_goIn_68 e93 ?_
          obtain ⟨g96, e97⟩ : ∃ z : Nat → Int32, upd g81 (8 + j.toNatClampNeg) z95 = z := ⟨_, rfl⟩
          have p98 : alA g96 := alA_upd p83 e97 (by omega)
          refine o_iast (f1 := g96) X hD h o 0 (isO.lt ho) rfl f86 rfl (in_of (by omega) (by omega)) (by rw [n92]; exact e97) dX9_goIn_69 (fun H locs w99 e100 h => ?_)
          have f101 : w99 o = .inl (cI, N, .inl g96) := (congrFun e100 _).trans (va_up_self _ _ _)
          have ok102 : OK cI cB cZ cO ad w99 := OK.upO ok87 ho f86 e100 p98
          have cq_j := cl_of (x := j) (by omega)
          have kx103 : KO o w w99 := KO.up kx88 e100 f86 (kmO ho e97 (by omega))
          refine lv_iload hx hb dX9_goIn_70 (lv_at hl 0 rfl) ?_
          have hret104 : w99 o = .inl (cI, N, .inl (goInF f j.toNatClampNeg x t)) := by
            rw [f101]
            subst e97; subst e93; subst e89; subst e82; subst e53; subst e48; subst e18; subst e12; subst e8; subst e6; subst e1
            (try unfold goInF camF)
            (repeat' split) <;> first | rfl | (exfalso; omega)
          have hret105 : camF (f (8 + j.toNatClampNeg)) x = z14 := by
            subst e97; subst e93; subst e89; subst e82; subst e53; subst e48; subst e18; subst e12; subst e8; subst e6; subst e1
            (try unfold camF)
            (repeat' split) <;> first | rfl | (exfalso; omega)
          exact e_i X h hr hlk dX9_goIn_72 ⟨ok102, kx103, ⟨hret105, hret104⟩⟩
  · have hc11 : ¬ (z10).toInt ≤ (x).toInt := i_nle hc11 rfl rfl
    refine lv_iload_n hx hb dX9_goIn_17 rfl (lv_at hl 3 rfl) ?_
    refine lv_goto (tgt := 26) hx hb dX9_goIn_18 (by decide) ?_
    refine lv_istore (lv' := [(5, .int x), (4, .int v5), (0, .ref (ad o)), (1, .int j), (2, .int x), (3, .int t)]) hx hb dX9_goIn_26 hl (by decide) rfl (fun ls hl => ?_)
    refine lv_iload hx hb dX9_goIn_28 (lv_at hl 0 rfl) ?_
    refine lv_if_le (tgt := 70) hx hb dX9_goIn_30 (by decide) (fun hc106 => ?_) (fun hc106 => ?_)
    · have hc106 : (x).toInt ≤ 0 := i_le hc106 rfl rfl
      refine lv_iload hx hb dX9_goIn_70 (lv_at hl 0 rfl) ?_
      have hret107 : w o = .inl (cI, N, .inl (goInF f j.toNatClampNeg x t)) := by
        rw [pf]
        subst e8; subst e6; subst e1
        (try unfold goInF camF)
        (repeat' split) <;> first | rfl | (exfalso; omega)
      have hret108 : camF (f (8 + j.toNatClampNeg)) x = x := by
        subst e8; subst e6; subst e1
        (try unfold camF)
        (repeat' split) <;> first | rfl | (exfalso; omega)
      exact e_i X h hr hlk dX9_goIn_72 ⟨ok, KO.rf, ⟨hret108, hret107⟩⟩
    · have hc106 : ¬ (x).toInt ≤ 0 := i_nle hc106 rfl rfl
      refine lv_aload_n hx hb dX9_goIn_33 rfl (lv_at hl 2 rfl) ?_
      refine lv_bipush (v := 12) hx hb dX9_goIn_34 (by decide) ?_
      refine lv_iload_n hx hb dX9_goIn_36 rfl (lv_at hl 3 rfl) ?_
      obtain ⟨z111, e109, t110⟩ := x_add (x := (12 : Int32)) (y := j) (a := 12) (b := (j).toInt) rfl rfl (by omega) (by omega)
      have n112 : z111.toNatClampNeg = 12 + j.toNatClampNeg := cl_addn (x := (12 : Int32)) (y := j) rfl rfl t110 (by decide) (by omega)
      refine o_iadd (z := z111) hx hb dX9_goIn_37 e109 ?_
      refine lv_iload hx hb dX9_goIn_38 (lv_at hl 1 rfl) ?_
      refine lv_if_eq (tgt := 53) hx hb dX9_goIn_40 (by decide) (fun hc113 => ?_) (fun hc113 => ?_)
      · have hc113 : (v5).toInt = 0 := i_eq hc113 rfl rfl
        refine lv_iload_n hx hb dX9_goIn_53 rfl (lv_at hl 5 rfl) ?_
        refine lv_goto (tgt := 58) hx hb dX9_goIn_54 (by decide) ?_
        obtain ⟨g114, e115⟩ : ∃ z : Nat → Int32, upd f (12 + j.toNatClampNeg) t = z := ⟨_, rfl⟩
        have p116 : alA g114 := alA_upd pal e115 (by omega)
        refine o_iast (f1 := g114) X hD h o 0 (isO.lt ho) rfl pf rfl (in_of (by omega) (by omega)) (by rw [n112]; exact e115) dX9_goIn_58 (fun H locs w117 e118 h => ?_)
        have f119 : w117 o = .inl (cI, N, .inl g114) := (congrFun e118 _).trans (va_up_self _ _ _)
        have ok120 : OK cI cB cZ cO ad w117 := OK.upO ok ho pf e118 p116
        have cq_j := cl_of (x := j) (by omega)
        have kx121 : KO o w w117 := KO.up KO.rf e118 pf (kmO ho e115 (by omega))
        refine lv_aload_n hx hb dX9_goIn_59 rfl (lv_at hl 2 rfl) ?_
        refine lv_bipush (v := 8) hx hb dX9_goIn_60 (by decide) ?_
        refine lv_iload_n hx hb dX9_goIn_62 rfl (lv_at hl 3 rfl) ?_
        obtain ⟨z124, e122, t123⟩ := x_add (x := (8 : Int32)) (y := j) (a := 8) (b := (j).toInt) rfl rfl (by omega) (by omega)
        have n125 : z124.toNatClampNeg = 8 + j.toNatClampNeg := cl_addn (x := (8 : Int32)) (y := j) rfl rfl t123 (by decide) (by omega)
        refine o_iadd (z := z124) hx hb dX9_goIn_63 e122 ?_
        refine lv_iload hx hb dX9_goIn_64 (lv_at hl 1 rfl) ?_
        refine lv_iload hx hb dX9_goIn_66 (lv_at hl 0 rfl) ?_
        obtain ⟨z128, e126⟩ : ∃ z : Int32, v5 + x = z := ⟨_, rfl⟩
        refine o_iadd (z := z128) hx hb dX9_goIn_68 e126 ?_
        obtain ⟨g129, e130⟩ : ∃ z : Nat → Int32, upd g114 (8 + j.toNatClampNeg) z128 = z := ⟨_, rfl⟩
        have p131 : alA g129 := alA_upd p116 e130 (by omega)
        refine o_iast (f1 := g129) X hD h o 0 (isO.lt ho) rfl f119 rfl (in_of (by omega) (by omega)) (by rw [n125]; exact e130) dX9_goIn_69 (fun H locs w132 e133 h => ?_)
        have f134 : w132 o = .inl (cI, N, .inl g129) := (congrFun e133 _).trans (va_up_self _ _ _)
        have ok135 : OK cI cB cZ cO ad w132 := OK.upO ok120 ho f119 e133 p131
        have cq_j := cl_of (x := j) (by omega)
        have kx136 : KO o w w132 := KO.up kx121 e133 f119 (kmO ho e130 (by omega))
        refine lv_iload hx hb dX9_goIn_70 (lv_at hl 0 rfl) ?_
        have hret137 : w132 o = .inl (cI, N, .inl (goInF f j.toNatClampNeg x t)) := by
          rw [f134]
          subst e130; subst e126; subst e122; subst e115; subst e109; subst e8; subst e6; subst e1
          (try unfold goInF camF)
          (repeat' split) <;> first | rfl | (exfalso; omega)
        have hret138 : camF (f (8 + j.toNatClampNeg)) x = x := by
          subst e130; subst e126; subst e122; subst e115; subst e109; subst e8; subst e6; subst e1
          (try unfold camF)
          (repeat' split) <;> first | rfl | (exfalso; omega)
        exact e_i X h hr hlk dX9_goIn_72 ⟨ok135, kx136, ⟨hret138, hret137⟩⟩
      · have hc113 : ¬ (v5).toInt = 0 := i_ne hc113 rfl rfl
        refine lv_aload_n hx hb dX9_goIn_43 rfl (lv_at hl 2 rfl) ?_
        refine lv_bipush (v := 12) hx hb dX9_goIn_44 (by decide) ?_
        refine lv_iload_n hx hb dX9_goIn_46 rfl (lv_at hl 3 rfl) ?_
        obtain ⟨z141, e139, t140⟩ := x_add (x := (12 : Int32)) (y := j) (a := 12) (b := (j).toInt) rfl rfl (by omega) (by omega)
        have n142 : z141.toNatClampNeg = 12 + j.toNatClampNeg := cl_addn (x := (12 : Int32)) (y := j) rfl rfl t140 (by decide) (by omega)
        refine o_iadd (z := z141) hx hb dX9_goIn_47 e139 ?_
        obtain ⟨v143, e144⟩ : ∃ z : Int32, f (12 + j.toNatClampNeg) = z := ⟨_, rfl⟩
        refine o_iald (v := v143) X h o 0 (isO.lt ho) rfl pf rfl (in_of (by omega) (by omega)) (by rw [n142]; exact e144) dX9_goIn_48 ?_
        refine lv_iload_n hx hb dX9_goIn_49 rfl (lv_at hl 5 rfl) ?_
        refine lv_icmp_ne (tgt := 57) hx hb dX9_goIn_50 (by decide) (fun hc146 => ?_) (fun hc146 => ?_)
        · have hc146 : ¬ (v143).toInt = (t).toInt := i_ne hc146 rfl rfl
          refine lv_iconst (v := 4) hx hb dX9_goIn_57 (by decide) ?_
          obtain ⟨g147, e148⟩ : ∃ z : Nat → Int32, upd f (12 + j.toNatClampNeg) (4 : Int32) = z := ⟨_, rfl⟩
          have p149 : alA g147 := alA_upd pal e148 (by omega)
          refine o_iast (f1 := g147) X hD h o 0 (isO.lt ho) rfl pf rfl (in_of (by omega) (by omega)) (by rw [n112]; exact e148) dX9_goIn_58 (fun H locs w150 e151 h => ?_)
          have f152 : w150 o = .inl (cI, N, .inl g147) := (congrFun e151 _).trans (va_up_self _ _ _)
          have ok153 : OK cI cB cZ cO ad w150 := OK.upO ok ho pf e151 p149
          have cq_j := cl_of (x := j) (by omega)
          have kx154 : KO o w w150 := KO.up KO.rf e151 pf (kmO ho e148 (by omega))
          refine lv_aload_n hx hb dX9_goIn_59 rfl (lv_at hl 2 rfl) ?_
          refine lv_bipush (v := 8) hx hb dX9_goIn_60 (by decide) ?_
          refine lv_iload_n hx hb dX9_goIn_62 rfl (lv_at hl 3 rfl) ?_
          obtain ⟨z157, e155, t156⟩ := x_add (x := (8 : Int32)) (y := j) (a := 8) (b := (j).toInt) rfl rfl (by omega) (by omega)
          have n158 : z157.toNatClampNeg = 8 + j.toNatClampNeg := cl_addn (x := (8 : Int32)) (y := j) rfl rfl t156 (by decide) (by omega)
          refine o_iadd (z := z157) hx hb dX9_goIn_63 e155 ?_
          refine lv_iload hx hb dX9_goIn_64 (lv_at hl 1 rfl) ?_
          refine lv_iload hx hb dX9_goIn_66 (lv_at hl 0 rfl) ?_
          obtain ⟨z161, e159⟩ : ∃ z : Int32, v5 + x = z := ⟨_, rfl⟩
          refine o_iadd (z := z161) hx hb dX9_goIn_68 e159 ?_
          obtain ⟨g162, e163⟩ : ∃ z : Nat → Int32, upd g147 (8 + j.toNatClampNeg) z161 = z := ⟨_, rfl⟩
          have p164 : alA g162 := alA_upd p149 e163 (by omega)
          refine o_iast (f1 := g162) X hD h o 0 (isO.lt ho) rfl f152 rfl (in_of (by omega) (by omega)) (by rw [n158]; exact e163) dX9_goIn_69 (fun H locs w165 e166 h => ?_)
          have f167 : w165 o = .inl (cI, N, .inl g162) := (congrFun e166 _).trans (va_up_self _ _ _)
          have ok168 : OK cI cB cZ cO ad w165 := OK.upO ok153 ho f152 e166 p164
          have cq_j := cl_of (x := j) (by omega)
          have kx169 : KO o w w165 := KO.up kx154 e166 f152 (kmO ho e163 (by omega))
          refine lv_iload hx hb dX9_goIn_70 (lv_at hl 0 rfl) ?_
          have hret170 : w165 o = .inl (cI, N, .inl (goInF f j.toNatClampNeg x t)) := by
            rw [f167]
            subst e163; subst e159; subst e155; subst e148; subst e144; subst e139; subst e109; subst e8; subst e6; subst e1
            (try unfold goInF camF)
            (repeat' split) <;> first | rfl | (exfalso; omega)
          have hret171 : camF (f (8 + j.toNatClampNeg)) x = x := by
            subst e163; subst e159; subst e155; subst e148; subst e144; subst e139; subst e109; subst e8; subst e6; subst e1
            (try unfold camF)
            (repeat' split) <;> first | rfl | (exfalso; omega)
          exact e_i X h hr hlk dX9_goIn_72 ⟨ok168, kx169, ⟨hret171, hret170⟩⟩
        · have hc146 : (v143).toInt = (t).toInt := i_eq hc146 rfl rfl
          refine lv_iload_n hx hb dX9_goIn_53 rfl (lv_at hl 5 rfl) ?_
          refine lv_goto (tgt := 58) hx hb dX9_goIn_54 (by decide) ?_
          obtain ⟨g172, e173⟩ : ∃ z : Nat → Int32, upd f (12 + j.toNatClampNeg) t = z := ⟨_, rfl⟩
          have p174 : alA g172 := alA_upd pal e173 (by omega)
          refine o_iast (f1 := g172) X hD h o 0 (isO.lt ho) rfl pf rfl (in_of (by omega) (by omega)) (by rw [n112]; exact e173) dX9_goIn_58 (fun H locs w175 e176 h => ?_)
          have f177 : w175 o = .inl (cI, N, .inl g172) := (congrFun e176 _).trans (va_up_self _ _ _)
          have ok178 : OK cI cB cZ cO ad w175 := OK.upO ok ho pf e176 p174
          have cq_j := cl_of (x := j) (by omega)
          have kx179 : KO o w w175 := KO.up KO.rf e176 pf (kmO ho e173 (by omega))
          refine lv_aload_n hx hb dX9_goIn_59 rfl (lv_at hl 2 rfl) ?_
          refine lv_bipush (v := 8) hx hb dX9_goIn_60 (by decide) ?_
          refine lv_iload_n hx hb dX9_goIn_62 rfl (lv_at hl 3 rfl) ?_
          obtain ⟨z182, e180, t181⟩ := x_add (x := (8 : Int32)) (y := j) (a := 8) (b := (j).toInt) rfl rfl (by omega) (by omega)
          have n183 : z182.toNatClampNeg = 8 + j.toNatClampNeg := cl_addn (x := (8 : Int32)) (y := j) rfl rfl t181 (by decide) (by omega)
          refine o_iadd (z := z182) hx hb dX9_goIn_63 e180 ?_
          refine lv_iload hx hb dX9_goIn_64 (lv_at hl 1 rfl) ?_
          refine lv_iload hx hb dX9_goIn_66 (lv_at hl 0 rfl) ?_
          obtain ⟨z186, e184⟩ : ∃ z : Int32, v5 + x = z := ⟨_, rfl⟩
          refine o_iadd (z := z186) hx hb dX9_goIn_68 e184 ?_
          obtain ⟨g187, e188⟩ : ∃ z : Nat → Int32, upd g172 (8 + j.toNatClampNeg) z186 = z := ⟨_, rfl⟩
          have p189 : alA g187 := alA_upd p174 e188 (by omega)
          refine o_iast (f1 := g187) X hD h o 0 (isO.lt ho) rfl f177 rfl (in_of (by omega) (by omega)) (by rw [n183]; exact e188) dX9_goIn_69 (fun H locs w190 e191 h => ?_)
          have f192 : w190 o = .inl (cI, N, .inl g187) := (congrFun e191 _).trans (va_up_self _ _ _)
          have ok193 : OK cI cB cZ cO ad w190 := OK.upO ok178 ho f177 e191 p189
          have cq_j := cl_of (x := j) (by omega)
          have kx194 : KO o w w190 := KO.up kx179 e191 f177 (kmO ho e188 (by omega))
          refine lv_iload hx hb dX9_goIn_70 (lv_at hl 0 rfl) ?_
          have hret195 : w190 o = .inl (cI, N, .inl (goInF f j.toNatClampNeg x t)) := by
            rw [f192]
            subst e188; subst e184; subst e180; subst e173; subst e144; subst e139; subst e109; subst e8; subst e6; subst e1
            (try unfold goInF camF)
            (repeat' split) <;> first | rfl | (exfalso; omega)
          have hret196 : camF (f (8 + j.toNatClampNeg)) x = x := by
            subst e188; subst e184; subst e180; subst e173; subst e144; subst e139; subst e109; subst e8; subst e6; subst e1
            (try unfold camF)
            (repeat' split) <;> first | rfl | (exfalso; omega)
          exact e_i X h hr hlk dX9_goIn_72 ⟨ok193, kx194, ⟨hret196, hret195⟩⟩

set_option maxHeartbeats 4000000 in
set_option maxRecDepth 100000 in
theorem c_MF_goLadle (l : Launch) (G : va_G) (cI cB cZ cO : ClassId) (ad : Nat → Nat) (w : Nat → va_E) (o : Nat) (ho : isO o) (N : Nat) (f : Nat → Int32) (ok : OK cI cB cZ cO ad w) (i : Int32) (j : Int32) (hl_i : 0 ≤ i.toInt) (hh_i : i.toInt ≤ 6) (hl_j : 0 ≤ j.toInt) (hh_j : j.toInt ≤ 3) (pf : w o = .inl (cI, N, .inl f)) (pal : alA f) (hN : 41 ≤ N) : NI l G (tyq cI cB cZ cO) yX9_goLadle cX9_goLadle 3 (some .int) 2 47 74 ad w [.ref (ad o), .int i, .int j] (fun r w1 => OK cI cB cZ cO ad w1 ∧ KO o w w1 ∧ w1 o = .inl (cI, N, .inl (goLaF f i j.toNatClampNeg))) := by
  refine nk_i (own := "NoonShadeModel") rfl (by decide) (Nat.le_of_ble_eq_true rfl) ?_
  intro p e s m below meth c ls X hD hN hr hlk h hl
  have hx := X.1.1
  have hb := X.1.2.1
  have hown := X.1.2.2.2.1
  have hts := X.1.2.2.2.2
  have hl : lv_has ls 3 [(0, .ref (ad o)), (1, .int i), (2, .int j)] := hl
  refine lv_aload_n hx hb dX9_goLadle_0 rfl (lv_at hl 0 rfl) ?_
  refine lv_bipush (v := 7) hx hb dX9_goLadle_1 (by decide) ?_
  refine lv_dup2_11 hx hb dX9_goLadle_3 rfl rfl ?_
  obtain ⟨v1, e2⟩ : ∃ z : Int32, f 7 = z := ⟨_, rfl⟩
  refine o_iald (v := v1) X h o 0 (isO.lt ho) rfl pf rfl (in_of (by decide) (by show (7 : Int) < _; omega)) e2 dX9_goLadle_4 ?_
  refine lv_iconst (v := 1) hx hb dX9_goLadle_5 (by decide) ?_
  refine lv_iload_n hx hb dX9_goLadle_6 rfl (lv_at hl 1 rfl) ?_
  obtain ⟨z6, e4, t5, t5b⟩ := x_shl7 (i := i) (by omega) (by omega)
  refine o_ishl (z := z6) hx hb dX9_goLadle_7 e4 ?_
  obtain ⟨z9, e7⟩ : ∃ z : Int32, v1 ||| z6 = z := ⟨_, rfl⟩
  refine o_ior (z := z9) hx hb dX9_goLadle_8 e7 ?_
  obtain ⟨g10, e11⟩ : ∃ z : Nat → Int32, upd f 7 z9 = z := ⟨_, rfl⟩
  have p12 : alA g10 := alA_upd pal e11 (by decide)
  refine o_iast (f1 := g10) X hD h o 0 (isO.lt ho) rfl pf rfl (in_of (by decide) (by show (7 : Int) < _; omega)) e11 dX9_goLadle_9 (fun H locs w13 e14 h => ?_)
  have f15 : w13 o = .inl (cI, N, .inl g10) := (congrFun e14 _).trans (va_up_self _ _ _)
  have ok16 : OK cI cB cZ cO ad w13 := OK.upO ok ho pf e14 p12
  have kx17 : KO o w w13 := KO.up KO.rf e14 pf (kmO ho e11 (by decide))
  refine lv_aload_n hx hb dX9_goLadle_10 rfl (lv_at hl 0 rfl) ?_
  refine lv_iload_n hx hb dX9_goLadle_11 rfl (lv_at hl 2 rfl) ?_
  refine lv_aload_n hx hb dX9_goLadle_12 rfl (lv_at hl 0 rfl) ?_
  refine lv_iload_n hx hb dX9_goLadle_13 rfl (lv_at hl 1 rfl) ?_
  refine lv_iconst (v := 0) hx hb dX9_goLadle_14 (by decide) ?_
  refine n_Si (na := 3) (As := [.ref (ad o), .int i, .int 0]) (rest := [.int j, .ref (ad o)]) X hD hN h (c_MF_givesOf l G cI cB cZ cO ad w13 o ho N g10 ok16 i (0 : Int32) (by omega) (by omega) f15 p12 (by omega)) ⟨kv_483, kv_484, kv_470, kv_485⟩ ⟨by decide, by decide, by decide⟩ ⟨Nat.le_of_ble_eq_true rfl, Nat.le_of_ble_eq_true rfl⟩ ⟨Nat.zero_le _, Nat.zero_le _⟩ rfl hl.1 rfl (Nat.le_of_ble_eq_true rfl) dX9_goLadle_15 (fun r18 w19 H locs hp20 h => ?_)
  obtain ⟨rfl, hr21⟩ := hp20
  refine lv_aload_n hx hb dX9_goLadle_18 rfl (lv_at hl 0 rfl) ?_
  refine lv_bipush (v := 30) hx hb dX9_goLadle_19 (by decide) ?_
  refine lv_iload_n hx hb dX9_goLadle_21 rfl (lv_at hl 1 rfl) ?_
  obtain ⟨z24, e22, t23⟩ := x_add (x := (30 : Int32)) (y := i) (a := 30) (b := (i).toInt) rfl rfl (by omega) (by omega)
  have n25 : z24.toNatClampNeg = 30 + i.toNatClampNeg := cl_addn (x := (30 : Int32)) (y := i) rfl rfl t23 (by decide) (by omega)
  refine o_iadd (z := z24) hx hb dX9_goLadle_22 e22 ?_
  obtain ⟨v26, e27⟩ : ∃ z : Int32, g10 (30 + i.toNatClampNeg) = z := ⟨_, rfl⟩
  refine o_iald (v := v26) X h o 0 (isO.lt ho) rfl f15 rfl (in_of (by omega) (by omega)) (by rw [n25]; exact e27) dX9_goLadle_23 ?_
  refine n_Si (na := 4) (As := [.ref (ad o), .int j, .int r18, .int v26]) (rest := []) X hD hN h (c_MF_goIn l G cI cB cZ cO ad w13 o ho N g10 ok16 j r18 v26 (by omega) (by omega) f15 p12 (by omega)) ⟨kv_486, kv_487, kv_470, kv_488⟩ ⟨by decide, by decide, by decide⟩ ⟨Nat.le_of_ble_eq_true rfl, Nat.le_of_ble_eq_true rfl⟩ ⟨Nat.zero_le _, Nat.zero_le _⟩ rfl hl.1 rfl (Nat.le_of_ble_eq_true rfl) dX9_goLadle_24 (fun r29 w30 H locs hp31 h => ?_)
  obtain ⟨ok33, kk34, hr32⟩ := hp31
  have kx35 : KO o w w30 := KO.tr kx17 kk34
  obtain ⟨hr36, f37⟩ := hr32
  obtain ⟨g38, e39⟩ : ∃ z : Nat → Int32, goInF g10 j.toNatClampNeg r18 v26 = z := ⟨_, rfl⟩
  rw [e39] at f37
  have p40 : alA g38 := (alA_of65 ok33 ho f37).1
  have hret41 : w30 o = .inl (cI, N, .inl (goLaF f i j.toNatClampNeg)) := by
    rw [f37]
    subst e39; subst hr36; subst e27; subst e22; subst hr21; subst e11; subst e7; subst e4; subst e2
    (try unfold goLaF milF)
    (repeat' split) <;> first | rfl | (exfalso; omega)
  exact e_i X h hr hlk dX9_goLadle_27 ⟨ok33, kx35, hret41⟩

set_option maxHeartbeats 4000000 in
set_option maxRecDepth 100000 in
theorem c_MF_goPour (l : Launch) (G : va_G) (cI cB cZ cO : ClassId) (ad : Nat → Nat) (w : Nat → va_E) (o : Nat) (ho : isO o) (N : Nat) (f : Nat → Int32) (ok : OK cI cB cZ cO ad w) (j : Int32) (k : Int32) (hl_j : 0 ≤ j.toInt) (hh_j : j.toInt ≤ 3) (hl_k : 0 ≤ k.toInt) (hh_k : k.toInt ≤ 3) (pf : w o = .inl (cI, N, .inl f)) (pal : alA f) (hN : 41 ≤ N) : NI l G (tyq cI cB cZ cO) yX9_goPour cX9_goPour 4 (some .int) 1 25 74 ad w [.ref (ad o), .int j, .int k] (fun r w1 => OK cI cB cZ cO ad w1 ∧ KO o w w1 ∧ w1 o = .inl (cI, N, .inl (goPoF f j.toNatClampNeg k.toNatClampNeg))) := by
  refine nk_i (own := "NoonShadeModel") rfl (by decide) (Nat.le_of_ble_eq_true rfl) ?_
  intro p e s m below meth c ls X hD hN hr hlk h hl
  have hx := X.1.1
  have hb := X.1.2.1
  have hown := X.1.2.2.2.1
  have hts := X.1.2.2.2.2
  have hl : lv_has ls 4 [(0, .ref (ad o)), (1, .int j), (2, .int k)] := hl
  refine lv_aload_n hx hb dX9_goPour_0 rfl (lv_at hl 0 rfl) ?_
  refine lv_iload_n hx hb dX9_goPour_1 rfl (lv_at hl 2 rfl) ?_
  refine lv_aload_n hx hb dX9_goPour_2 rfl (lv_at hl 0 rfl) ?_
  refine lv_bipush (v := 8) hx hb dX9_goPour_3 (by decide) ?_
  refine lv_iload_n hx hb dX9_goPour_5 rfl (lv_at hl 1 rfl) ?_
  obtain ⟨z3, e1, t2⟩ := x_add (x := (8 : Int32)) (y := j) (a := 8) (b := (j).toInt) rfl rfl (by omega) (by omega)
  have n4 : z3.toNatClampNeg = 8 + j.toNatClampNeg := cl_addn (x := (8 : Int32)) (y := j) rfl rfl t2 (by decide) (by omega)
  refine o_iadd (z := z3) hx hb dX9_goPour_6 e1 ?_
  obtain ⟨v5, e6⟩ : ∃ z : Int32, f (8 + j.toNatClampNeg) = z := ⟨_, rfl⟩
  refine o_iald (v := v5) X h o 0 (isO.lt ho) rfl pf rfl (in_of (by omega) (by omega)) (by rw [n4]; exact e6) dX9_goPour_7 ?_
  refine lv_aload_n hx hb dX9_goPour_8 rfl (lv_at hl 0 rfl) ?_
  refine lv_bipush (v := 12) hx hb dX9_goPour_9 (by decide) ?_
  refine lv_iload_n hx hb dX9_goPour_11 rfl (lv_at hl 1 rfl) ?_
  obtain ⟨z10, e8, t9⟩ := x_add (x := (12 : Int32)) (y := j) (a := 12) (b := (j).toInt) rfl rfl (by omega) (by omega)
  have n11 : z10.toNatClampNeg = 12 + j.toNatClampNeg := cl_addn (x := (12 : Int32)) (y := j) rfl rfl t9 (by decide) (by omega)
  refine o_iadd (z := z10) hx hb dX9_goPour_12 e8 ?_
  obtain ⟨v12, e13⟩ : ∃ z : Int32, f (12 + j.toNatClampNeg) = z := ⟨_, rfl⟩
  refine o_iald (v := v12) X h o 0 (isO.lt ho) rfl pf rfl (in_of (by omega) (by omega)) (by rw [n11]; exact e13) dX9_goPour_13 ?_
  refine n_Si (na := 4) (As := [.ref (ad o), .int k, .int v5, .int v12]) (rest := []) X hD hN h (c_MF_goIn l G cI cB cZ cO ad w o ho N f ok k v5 v12 (by omega) (by omega) pf pal (by omega)) ⟨kv_486, kv_487, kv_470, kv_488⟩ ⟨by decide, by decide, by decide⟩ ⟨Nat.le_of_ble_eq_true rfl, Nat.le_of_ble_eq_true rfl⟩ ⟨Nat.zero_le _, Nat.zero_le _⟩ rfl hl.1 rfl (Nat.le_of_ble_eq_true rfl) dX9_goPour_14 (fun r15 w16 H locs hp17 h => ?_)
  obtain ⟨ok19, kk20, hr18⟩ := hp17
  have kx21 : KO o w w16 := kk20
  obtain ⟨hr22, f23⟩ := hr18
  obtain ⟨g24, e25⟩ : ∃ z : Nat → Int32, goInF f k.toNatClampNeg v5 v12 = z := ⟨_, rfl⟩
  rw [e25] at f23
  have p26 : alA g24 := (alA_of65 ok19 ho f23).1
  refine lv_istore_n (lv' := [(3, .int r15), (0, .ref (ad o)), (1, .int j), (2, .int k)]) hx hb dX9_goPour_17 rfl hl (by decide) rfl (fun ls hl => ?_)
  refine lv_aload_n hx hb dX9_goPour_18 rfl (lv_at hl 1 rfl) ?_
  refine lv_bipush (v := 8) hx hb dX9_goPour_19 (by decide) ?_
  refine lv_iload_n hx hb dX9_goPour_21 rfl (lv_at hl 2 rfl) ?_
  obtain ⟨z29, e27, t28⟩ := x_add (x := (8 : Int32)) (y := j) (a := 8) (b := (j).toInt) rfl rfl (by omega) (by omega)
  have n30 : z29.toNatClampNeg = 8 + j.toNatClampNeg := cl_addn (x := (8 : Int32)) (y := j) rfl rfl t28 (by decide) (by omega)
  refine o_iadd (z := z29) hx hb dX9_goPour_22 e27 ?_
  refine lv_dup2_11 hx hb dX9_goPour_23 rfl rfl ?_
  obtain ⟨v31, e32⟩ : ∃ z : Int32, g24 (8 + j.toNatClampNeg) = z := ⟨_, rfl⟩
  refine o_iald (v := v31) X h o 0 (isO.lt ho) rfl f23 rfl (in_of (by omega) (by omega)) (by rw [n30]; exact e32) dX9_goPour_24 ?_
  refine lv_iload_n hx hb dX9_goPour_25 rfl (lv_at hl 0 rfl) ?_
  obtain ⟨z36, e34⟩ : ∃ z : Int32, v31 - r15 = z := ⟨_, rfl⟩
  refine o_isub (z := z36) hx hb dX9_goPour_26 e34 ?_
  obtain ⟨g37, e38⟩ : ∃ z : Nat → Int32, upd g24 (8 + j.toNatClampNeg) z36 = z := ⟨_, rfl⟩
  have p39 : alA g37 := alA_upd p26 e38 (by omega)
  refine o_iast (f1 := g37) X hD h o 0 (isO.lt ho) rfl f23 rfl (in_of (by omega) (by omega)) (by rw [n30]; exact e38) dX9_goPour_27 (fun H locs w40 e41 h => ?_)
  have f42 : w40 o = .inl (cI, N, .inl g37) := (congrFun e41 _).trans (va_up_self _ _ _)
  have ok43 : OK cI cB cZ cO ad w40 := OK.upO ok19 ho f23 e41 p39
  have cq_j := cl_of (x := j) (by omega)
  have kx44 : KO o w w40 := KO.up kx21 e41 f23 (kmO ho e38 (by omega))
  refine lv_iload_n hx hb dX9_goPour_28 rfl (lv_at hl 0 rfl) ?_
  have hret45 : w40 o = .inl (cI, N, .inl (goPoF f j.toNatClampNeg k.toNatClampNeg)) := by
    rw [f42]
    subst e38; subst e34; subst e32; subst e27; subst e25; subst hr22; subst e13; subst e8; subst e6; subst e1
    (try unfold goPoF)
    (repeat' split) <;> first | rfl | (exfalso; omega)
  exact e_i X h hr hlk dX9_goPour_29 ⟨ok43, kx44, hret45⟩

set_option maxHeartbeats 4000000 in
set_option maxRecDepth 100000 in
theorem c_MF_goHour (l : Launch) (G : va_G) (cI cB cZ cO : ClassId) (ad : Nat → Nat) (w : Nat → va_E) (o : Nat) (ho : isO o) (N : Nat) (f : Nat → Int32) (ok : OK cI cB cZ cO ad w)   (pf : w o = .inl (cI, N, .inl f)) (pal : alA f) (hN : 41 ≤ N) : NV l G (tyq cI cB cZ cO) yX9_goHour cX9_goHour 2 2 46 74 ad w [.ref (ad o)] (fun w1 => OK cI cB cZ cO ad w1 ∧ KO o w w1 ∧ w1 o = .inl (cI, N, .inl (goHoF f))) := by
  refine nk_v (own := "NoonShadeModel") rfl (by decide) (Nat.le_of_ble_eq_true rfl) ?_
  intro p e s m below meth c ls X hD hN hr hlk h hl
  have hx := X.1.1
  have hb := X.1.2.1
  have hown := X.1.2.2.2.1
  have hts := X.1.2.2.2.2
  have hl : lv_has ls 2 [(0, .ref (ad o))] := hl
  obtain ⟨v1, ev1⟩ : ∃ z : Int32, f 1 = z := ⟨_, rfl⟩
  have hv1 := (alA_rd pal ev1).2.1 rfl
  refine lv_iconst (v := 0) hx hb dX9_goHour_0 (by decide) ?_
  refine lv_istore_n (lv' := [(1, .int 0), (0, .ref (ad o))]) hx hb dX9_goHour_1 rfl hl (by decide) rfl (fun ls hl => ?_)
  have hloop3 : ∀ (d4 : Nat) (L1 : Int32) (wL2 : Nat → va_E) (H : Heap) (locs : List Loc) (ls : Array Slot), 0 ≤ L1.toInt → L1.toInt ≤ 4 → L1.toInt ≤ v1.toInt → OK cI cB cZ cO ad wL2 → KO o w wL2 → wL2 o = .inl (cI, N, .inl (losN L1.toNatClampNeg f)) → 4 - L1.toInt < (d4 : Int) → St G 74 ad (wA 74 ad s.heap.size) s.heap wL2 H locs → lv_has ls 2 [(1, .int L1), (0, .ref (ad o))] → W p l e { frames := 2, cells := 0, slots := 0, locals := 46 } s m [.ref (ad o)].toArray below meth c H locs 0 0 (MQ below (va_Qv (fun w1 => OK cI cB cZ cO ad w1 ∧ KO o w w1 ∧ w1 o = .inl (cI, N, .inl (goHoF f))) (Aft G 74 ad) (wA 74 ad s.heap.size)) [.ref (ad o)].toArray s 0 0 (wA 74 ad s.heap.size)) (F0 m 2 ls []) := by
    intro d4
    induction d4 with
    | zero => intro L1 wL2 H locs ls hi7 hi8 hi9 ok10 kx11 cf12 hm6 h hl; exfalso; omega
    | succ d4 ih5 =>
      intro L1 wL2 H locs ls hi7 hi8 hi9 ok10 kx11 cf12 hm6 h hl
      have p13 : alA (losN L1.toNatClampNeg f) := (alA_of65 ok10 ho cf12).1
      have e14 : (losN L1.toNatClampNeg f) 1 = v1 := (losN_1 _ _).trans ev1
      refine lv_iload_n hx hb dX9_goHour_2 rfl (lv_at hl 0 rfl) ?_
      refine lv_aload_n hx hb dX9_goHour_3 rfl (lv_at hl 1 rfl) ?_
      refine lv_iconst (v := 1) hx hb dX9_goHour_4 (by decide) ?_
      refine o_iald (v := v1) X h o 0 (isO.lt ho) rfl cf12 rfl (in_of (by decide) (by show (1 : Int) < _; omega)) e14 dX9_goHour_5 ?_
      refine lv_icmp_ge (tgt := 29) hx hb dX9_goHour_6 (by decide) (fun hc15 => ?_) (fun hc15 => ?_)
      · have hc15 : (v1).toInt ≤ (L1).toInt := i_le hc15 rfl rfl
        refine lv_aload_n hx hb dX9_goHour_29 rfl (lv_at hl 1 rfl) ?_
        refine lv_iconst (v := 5) hx hb dX9_goHour_30 (by decide) ?_
        refine lv_dup2_11 hx hb dX9_goHour_31 rfl rfl ?_
        obtain ⟨v16, e17⟩ : ∃ z : Int32, (losN L1.toNatClampNeg f) 5 = z := ⟨_, rfl⟩
        refine o_iald (v := v16) X h o 0 (isO.lt ho) rfl cf12 rfl (in_of (by decide) (by show (5 : Int) < _; omega)) e17 dX9_goHour_32 ?_
        refine lv_iconst (v := 1) hx hb dX9_goHour_33 (by decide) ?_
        obtain ⟨z21, e19⟩ : ∃ z : Int32, v16 + (1 : Int32) = z := ⟨_, rfl⟩
        refine o_iadd (z := z21) hx hb dX9_goHour_34 e19 ?_
        obtain ⟨g22, e23⟩ : ∃ z : Nat → Int32, upd (losN L1.toNatClampNeg f) 5 z21 = z := ⟨_, rfl⟩
        have p24 : alA g22 := alA_upd p13 e23 (by decide)
        refine o_iast (f1 := g22) X hD h o 0 (isO.lt ho) rfl cf12 rfl (in_of (by decide) (by show (5 : Int) < _; omega)) e23 dX9_goHour_35 (fun H locs w25 e26 h => ?_)
        have f27 : w25 o = .inl (cI, N, .inl g22) := (congrFun e26 _).trans (va_up_self _ _ _)
        have ok28 : OK cI cB cZ cO ad w25 := OK.upO ok10 ho cf12 e26 p24
        have kx29 : KO o w w25 := KO.up kx11 e26 cf12 (kmO ho e23 (by decide))
        refine lv_aload_n hx hb dX9_goHour_36 rfl (lv_at hl 1 rfl) ?_
        refine lv_bipush (v := 7) hx hb dX9_goHour_37 (by decide) ?_
        refine lv_iconst (v := 0) hx hb dX9_goHour_39 (by decide) ?_
        obtain ⟨g30, e31⟩ : ∃ z : Nat → Int32, upd g22 7 (0 : Int32) = z := ⟨_, rfl⟩
        have p32 : alA g30 := alA_upd p24 e31 (by decide)
        refine o_iast (f1 := g30) X hD h o 0 (isO.lt ho) rfl f27 rfl (in_of (by decide) (by show (7 : Int) < _; omega)) e31 dX9_goHour_40 (fun H locs w33 e34 h => ?_)
        have f35 : w33 o = .inl (cI, N, .inl g30) := (congrFun e34 _).trans (va_up_self _ _ _)
        have ok36 : OK cI cB cZ cO ad w33 := OK.upO ok28 ho f27 e34 p32
        have kx37 : KO o w w33 := KO.up kx29 e34 f27 (kmO ho e31 (by decide))
        have hj : L1 = v1 := (fa_eq _ _).mpr (by omega)
        have hret38 : w33 o = .inl (cI, N, .inl (goHoF f)) := by
          rw [f35]
          subst e31; subst e23; subst e19; subst e17
          unfold goHoF
          rw [ev1, ← hj]
        exact e_v X h hr hlk dX9_goHour_41 ⟨ok36, kx37, hret38⟩
      · have hc15 : ¬ (v1).toInt ≤ (L1).toInt := i_nle hc15 rfl rfl
        refine lv_aload_n hx hb dX9_goHour_9 rfl (lv_at hl 1 rfl) ?_
        refine lv_bipush (v := 8) hx hb dX9_goHour_10 (by decide) ?_
        refine lv_iload_n hx hb dX9_goHour_12 rfl (lv_at hl 0 rfl) ?_
        obtain ⟨z41, e39, t40⟩ := x_add (x := (8 : Int32)) (y := L1) (a := 8) (b := (L1).toInt) rfl rfl (by omega) (by omega)
        have n42 : z41.toNatClampNeg = 8 + L1.toNatClampNeg := cl_addn (x := (8 : Int32)) (y := L1) rfl rfl t40 (by decide) (by omega)
        refine o_iadd (z := z41) hx hb dX9_goHour_13 e39 ?_
        refine lv_dup2_11 hx hb dX9_goHour_14 rfl rfl ?_
        obtain ⟨v43, e44⟩ : ∃ z : Int32, (losN L1.toNatClampNeg f) (8 + L1.toNatClampNeg) = z := ⟨_, rfl⟩
        refine o_iald (v := v43) X h o 0 (isO.lt ho) rfl cf12 rfl (in_of (by omega) (by omega)) (by rw [n42]; exact e44) dX9_goHour_15 ?_
        refine lv_aload_n hx hb dX9_goHour_16 rfl (lv_at hl 1 rfl) ?_
        refine lv_iload_n hx hb dX9_goHour_17 rfl (lv_at hl 0 rfl) ?_
        refine n_Si (na := 2) (As := [.ref (ad o), .int L1]) (rest := [.int v43, .int z41, .ref (ad o)]) X hD hN h (c_MF_losesOf l G cI cB cZ cO ad wL2 o ho N (losN L1.toNatClampNeg f) ok10 L1 (by omega) (by omega) cf12 p13 (by omega)) ⟨kv_489, kv_490, kv_470, kv_491⟩ ⟨by decide, by decide, by decide⟩ ⟨Nat.le_of_ble_eq_true rfl, Nat.le_of_ble_eq_true rfl⟩ ⟨Nat.zero_le _, Nat.zero_le _⟩ rfl hl.1 rfl (Nat.le_of_ble_eq_true rfl) dX9_goHour_18 (fun r46 w47 H locs hp48 h => ?_)
        obtain ⟨rfl, hr49⟩ := hp48
        obtain ⟨z52, e50⟩ : ∃ z : Int32, v43 - r46 = z := ⟨_, rfl⟩
        refine o_isub (z := z52) hx hb dX9_goHour_21 e50 ?_
        obtain ⟨g53, e54⟩ : ∃ z : Nat → Int32, upd (losN L1.toNatClampNeg f) (8 + L1.toNatClampNeg) z52 = z := ⟨_, rfl⟩
        have p55 : alA g53 := alA_upd p13 e54 (by omega)
        refine o_iast (f1 := g53) X hD h o 0 (isO.lt ho) rfl cf12 rfl (in_of (by omega) (by omega)) (by rw [n42]; exact e54) dX9_goHour_22 (fun H locs w56 e57 h => ?_)
        have f58 : w56 o = .inl (cI, N, .inl g53) := (congrFun e57 _).trans (va_up_self _ _ _)
        have ok59 : OK cI cB cZ cO ad w56 := OK.upO ok10 ho cf12 e57 p55
        have cq_L1 := cl_of (x := L1) (by omega)
        have kx60 : KO o w w56 := KO.up kx11 e57 cf12 (kmO ho e54 (by omega))
        obtain ⟨z61, e62, t63⟩ := x_add (x := L1) (y := 1) (a := L1.toInt) (b := 1) rfl rfl (by omega) (by omega)
        have n64 : z61.toNatClampNeg = L1.toNatClampNeg + 1 := cl_addn (x := L1) (y := 1) rfl rfl t63 (by omega) (by decide)
        refine lv_iinc (v := z61) (lv' := [(1, .int z61), (0, .ref (ad o))]) hx hb dX9_goHour_23 hl (k := 0) rfl e62 (by decide) rfl (fun ls hl => ?_)
        refine lv_goto (tgt := 2) hx hb dX9_goHour_26 (by decide) ?_
        have hb65 : w56 o = .inl (cI, N, .inl (losN z61.toNatClampNeg f)) := by
          rw [f58, n64]
          subst e62; subst e54; subst e50; subst hr49; subst e44; subst e39; rfl
        exact ih5  z61 w56 _ _ _ (by omega) (by omega) (by omega) ok59 kx60 hb65 (by omega) h (lv_sub hl [0, 1] rfl)
  exact hloop3 5 (0 : Int32) w _ _ _ (by have q0 : (0 : Int32).toInt = 0 := rfl; omega) (by have q0 : (0 : Int32).toInt = 0 := rfl; omega) (by have q0 : (0 : Int32).toInt = 0 := rfl; omega) ok KO.rf (by rw [pf]; rfl) (by have q0 : (0 : Int32).toInt = 0 := rfl; omega) h (lv_sub hl [0, 1] rfl)

set_option maxHeartbeats 4000000 in
set_option maxRecDepth 100000 in
theorem c_MF_goHours (l : Launch) (G : va_G) (cI cB cZ cO : ClassId) (ad : Nat → Nat) (w : Nat → va_E) (o : Nat) (ho : isO o) (N : Nat) (f : Nat → Int32) (ok : OK cI cB cZ cO ad w) (n : Int32)  (pf : w o = .inl (cI, N, .inl f)) (pal : alA f) (hN : 41 ≤ N) : NV l G (tyq cI cB cZ cO) yX9_goHours cX9_goHours 3 3 67 74 ad w [.ref (ad o), .int n] (fun w1 => OK cI cB cZ cO ad w1 ∧ KO o w w1 ∧ w1 o = .inl (cI, N, .inl (goHsF n.toNatClampNeg f))) := by
  refine nk_v (own := "NoonShadeModel") rfl (by decide) (Nat.le_of_ble_eq_true rfl) ?_
  intro p e s m below meth c ls X hD hN hr hlk h hl
  have hx := X.1.1
  have hb := X.1.2.1
  have hown := X.1.2.2.2.1
  have hts := X.1.2.2.2.2
  have hl : lv_has ls 3 [(0, .ref (ad o)), (1, .int n)] := hl
  have lo_n := ilo n
  have hi_n := ihi n
  refine lv_iconst (v := 0) hx hb dX9_goHours_0 (by decide) ?_
  refine lv_istore_n (lv' := [(2, .int 0), (0, .ref (ad o)), (1, .int n)]) hx hb dX9_goHours_1 rfl hl (by decide) rfl (fun ls hl => ?_)
  have hloop4 : ∀ (d5 : Nat) (L1 : Int32) (C2 : Nat → Int32) (wL3 : Nat → va_E) (H : Heap) (locs : List Loc) (ls : Array Slot), 0 ≤ L1.toInt → L1.toInt ≤ 2147483647 → (goHsF (n.toNatClampNeg - L1.toNatClampNeg) C2 = goHsF n.toNatClampNeg f) → OK cI cB cZ cO ad wL3 → KO o w wL3 → wL3 o = .inl (cI, N, .inl C2) → 2147483647 - L1.toInt < (d5 : Int) → St G 74 ad (wA 74 ad s.heap.size) s.heap wL3 H locs → lv_has ls 3 [(2, .int L1), (0, .ref (ad o)), (1, .int n)] → W p l e { frames := 3, cells := 0, slots := 0, locals := 67 } s m [.ref (ad o), .int n].toArray below meth c H locs 0 0 (MQ below (va_Qv (fun w1 => OK cI cB cZ cO ad w1 ∧ KO o w w1 ∧ w1 o = .inl (cI, N, .inl (goHsF n.toNatClampNeg f))) (Aft G 74 ad) (wA 74 ad s.heap.size)) [.ref (ad o), .int n].toArray s 0 0 (wA 74 ad s.heap.size)) (F0 m 2 ls []) := by
    intro d5
    induction d5 with
    | zero => intro L1 C2 wL3 H locs ls hi8 hi9 hi10 ok11 kx12 cf13 hm7 h hl; exfalso; omega
    | succ d5 ih6 =>
      intro L1 C2 wL3 H locs ls hi8 hi9 hi10 ok11 kx12 cf13 hm7 h hl
      have p14 : alA C2 := (alA_of65 ok11 ho cf13).1
      refine lv_iload_n hx hb dX9_goHours_2 rfl (lv_at hl 0 rfl) ?_
      refine lv_iload_n hx hb dX9_goHours_3 rfl (lv_at hl 2 rfl) ?_
      refine lv_icmp_ge (tgt := 26) hx hb dX9_goHours_4 (by decide) (fun hc15 => ?_) (fun hc15 => ?_)
      · have hc15 : (n).toInt ≤ (L1).toInt := i_le hc15 rfl rfl
        have hret16 : wL3 o = .inl (cI, N, .inl (goHsF n.toNatClampNeg f)) := by
          rw [cf13, ← hi10]
          have c1 := cl_of (x := L1) (by omega)
          have c2 : n.toNatClampNeg - L1.toNatClampNeg = 0 := by have := cl_le n; omega
          rw [c2]; rfl
        exact e_v X h hr hlk dX9_goHours_26 ⟨ok11, kx12, hret16⟩
      · have hc15 : ¬ (n).toInt ≤ (L1).toInt := i_nle hc15 rfl rfl
        refine lv_aload_n hx hb dX9_goHours_7 rfl (lv_at hl 1 rfl) ?_
        refine lv_iconst (v := 5) hx hb dX9_goHours_8 (by decide) ?_
        obtain ⟨v17, e18⟩ : ∃ z : Int32, C2 5 = z := ⟨_, rfl⟩
        refine o_iald (v := v17) X h o 0 (isO.lt ho) rfl cf13 rfl (in_of (by decide) (by show (5 : Int) < _; omega)) e18 dX9_goHours_9 ?_
        refine lv_sipush (v := 9999) hx hb dX9_goHours_10 (by decide) ?_
        refine lv_icmp_ge (tgt := 26) hx hb dX9_goHours_13 (by decide) (fun hc20 => ?_) (fun hc20 => ?_)
        · have hc20 : 9999 ≤ (v17).toInt := i_le hc20 rfl rfl
          have hret21 : wL3 o = .inl (cI, N, .inl (goHsF n.toNatClampNeg f)) := by
            rw [cf13, ← hi10]
            have c1 := cl_of (x := L1) (by omega)
            rw [goHsF_stop (by rw [e18]; omega)]
          exact e_v X h hr hlk dX9_goHours_26 ⟨ok11, kx12, hret21⟩
        · have hc20 : ¬ 9999 ≤ (v17).toInt := i_nle hc20 rfl rfl
          refine lv_aload_n hx hb dX9_goHours_16 rfl (lv_at hl 1 rfl) ?_
          refine n_Sv (na := 1) (As := [.ref (ad o)]) (rest := []) X hD hN h (c_MF_goHour l G cI cB cZ cO ad wL3 o ho N C2 ok11   cf13 p14 (by omega)) ⟨kv_492, kv_493, kv_470, kv_494⟩ ⟨by decide, by decide, by decide⟩ ⟨Nat.le_of_ble_eq_true rfl, Nat.le_of_ble_eq_true rfl⟩ ⟨Nat.zero_le _, Nat.zero_le _⟩ rfl hl.1 rfl (Nat.le_of_ble_eq_true rfl) dX9_goHours_17 (fun w23 H locs hp24 h => ?_)
          obtain ⟨ok26, kk27, hr25⟩ := hp24
          have kx28 : KO o w w23 := KO.tr kx12 kk27
          obtain ⟨g29, e30⟩ : ∃ z : Nat → Int32, goHoF C2 = z := ⟨_, rfl⟩
          rw [e30] at hr25
          have p31 : alA g29 := (alA_of65 ok26 ho hr25).1
          obtain ⟨z32, e33, t34⟩ := x_add (x := L1) (y := 1) (a := L1.toInt) (b := 1) rfl rfl (by omega) (by omega)
          have n35 : z32.toNatClampNeg = L1.toNatClampNeg + 1 := cl_addn (x := L1) (y := 1) rfl rfl t34 (by omega) (by decide)
          refine lv_iinc (v := z32) (lv' := [(2, .int z32), (0, .ref (ad o)), (1, .int n)]) hx hb dX9_goHours_20 hl (k := 0) rfl e33 (by decide) rfl (fun ls hl => ?_)
          refine lv_goto (tgt := 2) hx hb dX9_goHours_23 (by decide) ?_
          have hb36 : goHsF (n.toNatClampNeg - z32.toNatClampNeg) g29 = goHsF n.toNatClampNeg f := by
            have c1 := cl_of (x := n) (by omega)
            have c2 := cl_of (x := L1) (by omega)
            rw [← hi10, n35]
            have c3 : n.toNatClampNeg - L1.toNatClampNeg = (n.toNatClampNeg - (L1.toNatClampNeg + 1)) + 1 := by omega
            rw [c3]
            show _ = (if (C2 5).toInt < 9999 then _ else _)
            rw [if_pos (by rw [e18]; omega)]
            rw [e30]
          exact ih6  z32 g29 w23 _ _ _ (by omega) (by omega) hb36 ok26 kx28 hr25 (by omega) h (lv_sub hl [0, 1, 2] rfl)
  exact hloop4 2147483648 (0 : Int32) f w _ _ _ (by have q0 : (0 : Int32).toInt = 0 := rfl; omega) (by have q0 : (0 : Int32).toInt = 0 := rfl; omega) rfl ok KO.rf pf (by have q0 : (0 : Int32).toInt = 0 := rfl; omega) h (lv_sub hl [0, 1, 2] rfl)
