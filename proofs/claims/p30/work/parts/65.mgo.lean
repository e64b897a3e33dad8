set_option maxHeartbeats 4000000 in
set_option maxRecDepth 100000 in
theorem c_M_givesOf (l : Launch) (G : va_G) (cI cB cZ cO : ClassId) (ad : Nat → Nat) (w : Nat → va_E) (o : Nat) (ho : isO o) (ok : OK cI cB cZ cO ad w) (i : Int32) (n : Int32) (hl_i : 0 ≤ i.toInt) (hh_i : i.toInt ≤ 6)  : NI l G (tyq cI cB cZ cO) yX9_givesOf cX9_givesOf 3 (some .int) 1 25 74 ad w [.ref (ad o), .int i, .int n] (fun r w1 => w = w1 ∧ True) := by
  refine nk_i (own := "NoonShadeModel") rfl (by decide) (Nat.le_of_ble_eq_true rfl) ?_
  intro p e s m below meth c ls X hD hN hr hlk h hl
  have hx := X.1.1
  have hb := X.1.2.1
  have hown := X.1.2.2.2.1
  have hts := X.1.2.2.2.2
  have hl : lv_has ls 3 [(0, .ref (ad o)), (1, .int i), (2, .int n)] := hl
  refine lv_aload_n hx hb dX9_givesOf_0 rfl (lv_at hl 0 rfl) ?_
  refine lv_bipush (v := 16) hx hb dX9_givesOf_1 (by decide) ?_
  refine lv_iload_n hx hb dX9_givesOf_3 rfl (lv_at hl 1 rfl) ?_
  obtain ⟨z3, e1, t2⟩ := x_add (x := (16 : Int32)) (y := i) (a := 16) (b := (i).toInt) rfl rfl (by omega) (by omega)
  refine o_iadd (z := z3) hx hb dX9_givesOf_4 e1 ?_
  obtain ⟨N5, g6, f4, h8, p7⟩ := OK.o ok ho
  have f9 : w o = .inl (cI, N5, .inl g6) := f4
  obtain ⟨v10, e11⟩ : ∃ z : Int32, g6 (z3).toNatClampNeg = z := ⟨_, rfl⟩
  refine o_iald (v := v10) X h o 0 (isO.lt ho) rfl f9 rfl (in_of (by omega) (by omega)) e11 dX9_givesOf_5 ?_
  refine lv_aload_n hx hb dX9_givesOf_6 rfl (lv_at hl 0 rfl) ?_
  refine lv_bipush (v := 23) hx hb dX9_givesOf_7 (by decide) ?_
  refine lv_iload_n hx hb dX9_givesOf_9 rfl (lv_at hl 1 rfl) ?_
  obtain ⟨z15, e13, t14⟩ := x_add (x := (23 : Int32)) (y := i) (a := 23) (b := (i).toInt) rfl rfl (by omega) (by omega)
  refine o_iadd (z := z15) hx hb dX9_givesOf_10 e13 ?_
  obtain ⟨v16, e17⟩ : ∃ z : Int32, g6 (z15).toNatClampNeg = z := ⟨_, rfl⟩
  refine o_iald (v := v16) X h o 0 (isO.lt ho) rfl f9 rfl (in_of (by omega) (by omega)) e17 dX9_givesOf_11 ?_
  refine lv_aload_n hx hb dX9_givesOf_12 rfl (lv_at hl 0 rfl) ?_
  refine lv_iconst (v := 5) hx hb dX9_givesOf_13 (by decide) ?_
  obtain ⟨v19, e20⟩ : ∃ z : Int32, g6 5 = z := ⟨_, rfl⟩
  refine o_iald (v := v19) X h o 0 (isO.lt ho) rfl f9 rfl (in_of (by decide) (by show (5 : Int) < _; omega)) e20 dX9_givesOf_14 ?_
  refine lv_iload_n hx hb dX9_givesOf_15 rfl (lv_at hl 2 rfl) ?_
  obtain ⟨z24, e22⟩ : ∃ z : Int32, v19 + n = z := ⟨_, rfl⟩
  refine o_iadd (z := z24) hx hb dX9_givesOf_16 e22 ?_
  refine lv_bipush (v := 24) hx hb dX9_givesOf_17 (by decide) ?_
  obtain ⟨z27, e25, t26, t26b⟩ := x_rem24 z24
  refine o_irem (z := z27) hx hb dX9_givesOf_19 (by decide) e25 ?_
  refine n_Si (na := 3) (As := [.int v10, .int v16, .int z27]) (rest := []) X hD hN h (c_M_givesAs l G cI cB cZ cO ad w   v10 v16 z27  ) ⟨kv_477, kv_478, kv_470, kv_479⟩ ⟨by decide, by decide, by decide⟩ ⟨Nat.le_of_ble_eq_true rfl, Nat.le_of_ble_eq_true rfl⟩ ⟨Nat.zero_le _, Nat.zero_le _⟩ rfl hl.1 rfl (Nat.le_of_ble_eq_true rfl) dX9_givesOf_20 (fun r28 w29 H locs hp30 h => ?_)
  obtain ⟨rfl, hr31⟩ := hp30
  exact e_i X h hr hlk dX9_givesOf_23 ⟨rfl, trivial⟩

set_option maxHeartbeats 4000000 in
set_option maxRecDepth 100000 in
theorem c_M_losesOf (l : Launch) (G : va_G) (cI cB cZ cO : ClassId) (ad : Nat → Nat) (w : Nat → va_E) (o : Nat) (ho : isO o) (ok : OK cI cB cZ cO ad w) (j : Int32) (hl_j : 0 ≤ j.toInt) (hh_j : j.toInt ≤ 3)  : NI l G (tyq cI cB cZ cO) yX9_losesOf cX9_losesOf 4 (some .int) 1 23 74 ad w [.ref (ad o), .int j] (fun r w1 => w = w1 ∧ True) := by
  refine nk_i (own := "NoonShadeModel") rfl (by decide) (Nat.le_of_ble_eq_true rfl) ?_
  intro p e s m below meth c ls X hD hN hr hlk h hl
  have hx := X.1.1
  have hb := X.1.2.1
  have hown := X.1.2.2.2.1
  have hts := X.1.2.2.2.2
  have hl : lv_has ls 4 [(0, .ref (ad o)), (1, .int j)] := hl
  refine lv_aload_n hx hb dX9_losesOf_0 rfl (lv_at hl 0 rfl) ?_
  refine lv_bipush (v := 8) hx hb dX9_losesOf_1 (by decide) ?_
  refine lv_iload_n hx hb dX9_losesOf_3 rfl (lv_at hl 1 rfl) ?_
  obtain ⟨z3, e1, t2⟩ := x_add (x := (8 : Int32)) (y := j) (a := 8) (b := (j).toInt) rfl rfl (by omega) (by omega)
  refine o_iadd (z := z3) hx hb dX9_losesOf_4 e1 ?_
  obtain ⟨N5, g6, f4, h8, p7⟩ := OK.o ok ho
  have f9 : w o = .inl (cI, N5, .inl g6) := f4
  obtain ⟨v10, e11⟩ : ∃ z : Int32, g6 (z3).toNatClampNeg = z := ⟨_, rfl⟩
  refine o_iald (v := v10) X h o 0 (isO.lt ho) rfl f9 rfl (in_of (by omega) (by omega)) e11 dX9_losesOf_5 ?_
  refine lv_istore_n (lv' := [(2, .int v10), (0, .ref (ad o)), (1, .int j)]) hx hb dX9_losesOf_6 rfl hl (by decide) rfl (fun ls hl => ?_)
  refine lv_aload_n hx hb dX9_losesOf_7 rfl (lv_at hl 1 rfl) ?_
  refine lv_bipush (v := 37) hx hb dX9_losesOf_8 (by decide) ?_
  refine lv_iload_n hx hb dX9_losesOf_10 rfl (lv_at hl 2 rfl) ?_
  obtain ⟨z15, e13, t14⟩ := x_add (x := (37 : Int32)) (y := j) (a := 37) (b := (j).toInt) rfl rfl (by omega) (by omega)
  refine o_iadd (z := z15) hx hb dX9_losesOf_11 e13 ?_
  obtain ⟨v16, e17⟩ : ∃ z : Int32, g6 (z15).toNatClampNeg = z := ⟨_, rfl⟩
  refine o_iald (v := v16) X h o 0 (isO.lt ho) rfl f9 rfl (in_of (by omega) (by omega)) e17 dX9_losesOf_12 ?_
  refine lv_iload_n hx hb dX9_losesOf_13 rfl (lv_at hl 0 rfl) ?_
  refine lv_aload_n hx hb dX9_losesOf_14 rfl (lv_at hl 1 rfl) ?_
  refine lv_iconst (v := 5) hx hb dX9_losesOf_15 (by decide) ?_
  obtain ⟨v19, e20⟩ : ∃ z : Int32, g6 5 = z := ⟨_, rfl⟩
  refine o_iald (v := v19) X h o 0 (isO.lt ho) rfl f9 rfl (in_of (by decide) (by show (5 : Int) < _; omega)) e20 dX9_losesOf_16 ?_
  refine lv_bipush (v := 24) hx hb dX9_losesOf_17 (by decide) ?_
  obtain ⟨z24, e22, t23, t23b⟩ := x_rem24 v19
  refine o_irem (z := z24) hx hb dX9_losesOf_19 (by decide) e22 ?_
  refine n_Si (na := 3) (As := [.int v16, .int v10, .int z24]) (rest := []) X hD hN h (c_M_losesAs l G cI cB cZ cO ad w   v16 v10 z24  ) ⟨kv_480, kv_481, kv_470, kv_482⟩ ⟨by decide, by decide, by decide⟩ ⟨Nat.le_of_ble_eq_true rfl, Nat.le_of_ble_eq_true rfl⟩ ⟨Nat.zero_le _, Nat.zero_le _⟩ rfl hl.1 rfl (Nat.le_of_ble_eq_true rfl) dX9_losesOf_20 (fun r25 w26 H locs hp27 h => ?_)
  obtain ⟨rfl, hr28⟩ := hp27
  refine lv_istore_n (lv' := [(3, .int r25), (2, .int v10), (0, .ref (ad o)), (1, .int j)]) hx hb dX9_losesOf_23 rfl hl (by decide) rfl (fun ls hl => ?_)
  refine lv_iload_n hx hb dX9_losesOf_24 rfl (lv_at hl 0 rfl) ?_
  refine lv_iload_n hx hb dX9_losesOf_25 rfl (lv_at hl 1 rfl) ?_
  refine lv_icmp_ge (tgt := 33) hx hb dX9_losesOf_26 (by decide) (fun hc29 => ?_) (fun hc29 => ?_)
  · have hc29 : (v10).toInt ≤ (r25).toInt := i_le hc29 rfl rfl
    refine lv_iload_n hx hb dX9_losesOf_33 rfl (lv_at hl 1 rfl) ?_
    exact e_i X h hr hlk dX9_losesOf_34 ⟨rfl, trivial⟩
  · have hc29 : ¬ (v10).toInt ≤ (r25).toInt := i_nle hc29 rfl rfl
    refine lv_iload_n hx hb dX9_losesOf_29 rfl (lv_at hl 0 rfl) ?_
    refine lv_goto (tgt := 34) hx hb dX9_losesOf_30 (by decide) ?_
    exact e_i X h hr hlk dX9_losesOf_34 ⟨rfl, trivial⟩

set_option maxHeartbeats 4000000 in
set_option maxRecDepth 100000 in
theorem c_M_goIn (l : Launch) (G : va_G) (cI cB cZ cO : ClassId) (ad : Nat → Nat) (w : Nat → va_E) (o : Nat) (ho : isO o) (ok : OK cI cB cZ cO ad w) (j : Int32) (x : Int32) (t : Int32) (hl_j : 0 ≤ j.toInt) (hh_j : j.toInt ≤ 3)  : NI l G (tyq cI cB cZ cO) yX9_goIn cX9_goIn 6 (some .int) 0 0 74 ad w [.ref (ad o), .int j, .int x, .int t] (fun r w1 => OK cI cB cZ cO ad w1 ∧ KO o w w1 ∧ True) := by
  refine nk_i (own := "NoonShadeModel") rfl (by decide) (Nat.le_of_ble_eq_true rfl) ?_
  intro p e s m below meth c ls X hD hN hr hlk h hl
  have hx := X.1.1
  have hb := X.1.2.1
  have hown := X.1.2.2.2.1
  have hts := X.1.2.2.2.2
  have hl : lv_has ls 6 [(0, .ref (ad o)), (1, .int j), (2, .int x), (3, .int t)] := hl
  refine lv_aload_n hx hb dX9_goIn_0 rfl (lv_at hl 0 rfl) ?_
  refine lv_bipush (v := 8) hx hb dX9_goIn_1 (by decide) ?_
  refine lv_iload_n hx hb dX9_goIn_3 rfl (lv_at hl 1 rfl) ?_
  obtain ⟨z3, e1, t2⟩ := x_add (x := (8 : Int32)) (y := j) (a := 8) (b := (j).toInt) rfl rfl (by omega) (by omega)
  refine o_iadd (z := z3) hx hb dX9_goIn_4 e1 ?_
  obtain ⟨N5, g6, f4, h8, p7⟩ := OK.o ok ho
  have f9 : w o = .inl (cI, N5, .inl g6) := f4
  obtain ⟨v10, e11⟩ : ∃ z : Int32, g6 (z3).toNatClampNeg = z := ⟨_, rfl⟩
  refine o_iald (v := v10) X h o 0 (isO.lt ho) rfl f9 rfl (in_of (by omega) (by omega)) e11 dX9_goIn_5 ?_
  refine lv_istore (lv' := [(4, .int v10), (0, .ref (ad o)), (1, .int j), (2, .int x), (3, .int t)]) hx hb dX9_goIn_6 hl (by decide) rfl (fun ls hl => ?_)
  refine lv_iload_n hx hb dX9_goIn_8 rfl (lv_at hl 3 rfl) ?_
  refine lv_bipush (v := 60) hx hb dX9_goIn_9 (by decide) ?_
  refine lv_iload hx hb dX9_goIn_11 (lv_at hl 0 rfl) ?_
  obtain ⟨z15, e13⟩ : ∃ z : Int32, (60 : Int32) - v10 = z := ⟨_, rfl⟩
  refine o_isub (z := z15) hx hb dX9_goIn_13 e13 ?_
  refine lv_icmp_ge (tgt := 21) hx hb dX9_goIn_14 (by decide) (fun hc16 => ?_) (fun hc16 => ?_)
  · have hc16 : (z15).toInt ≤ (x).toInt := i_le hc16 rfl rfl
    refine lv_bipush (v := 60) hx hb dX9_goIn_21 (by decide) ?_
    refine lv_iload hx hb dX9_goIn_23 (lv_at hl 0 rfl) ?_
    obtain ⟨z19, e17⟩ : ∃ z : Int32, (60 : Int32) - v10 = z := ⟨_, rfl⟩
    refine o_isub (z := z19) hx hb dX9_goIn_25 e17 ?_
    refine lv_istore (lv' := [(5, .int z19), (4, .int v10), (0, .ref (ad o)), (1, .int j), (2, .int x), (3, .int t)]) hx hb dX9_goIn_26 hl (by decide) rfl (fun ls hl => ?_)
    refine lv_iload hx hb dX9_goIn_28 (lv_at hl 0 rfl) ?_
    refine lv_if_le (tgt := 70) hx hb dX9_goIn_30 (by decide) (fun hc20 => ?_) (fun hc20 => ?_)
    · have hc20 : (z19).toInt ≤ 0 := i_le hc20 rfl rfl
      refine lv_iload hx hb dX9_goIn_70 (lv_at hl 0 rfl) ?_
      exact e_i X h hr hlk dX9_goIn_72 ⟨ok, KO.rf, trivial⟩
    · have hc20 : ¬ (z19).toInt ≤ 0 := i_nle hc20 rfl rfl
      refine lv_aload_n hx hb dX9_goIn_33 rfl (lv_at hl 2 rfl) ?_
      refine lv_bipush (v := 12) hx hb dX9_goIn_34 (by decide) ?_
      refine lv_iload_n hx hb dX9_goIn_36 rfl (lv_at hl 3 rfl) ?_
      obtain ⟨z23, e21, t22⟩ := x_add (x := (12 : Int32)) (y := j) (a := 12) (b := (j).toInt) rfl rfl (by omega) (by omega)
      refine o_iadd (z := z23) hx hb dX9_goIn_37 e21 ?_
      refine lv_iload hx hb dX9_goIn_38 (lv_at hl 1 rfl) ?_
      refine lv_if_eq (tgt := 53) hx hb dX9_goIn_40 (by decide) (fun hc24 => ?_) (fun hc24 => ?_)
      · have hc24 : (v10).toInt = 0 := i_eq hc24 rfl rfl
        refine lv_iload_n hx hb dX9_goIn_53 rfl (lv_at hl 5 rfl) ?_
        refine lv_goto (tgt := 58) hx hb dX9_goIn_54 (by decide) ?_
        obtain ⟨g25, e26⟩ : ∃ z : Nat → Int32, upd g6 (z23).toNatClampNeg t = z := ⟨_, rfl⟩
        have p27 : alA g25 := alA_upd p7 e26 (by have := cl_of (x := z23) (by omega); omega)
        refine o_iast (f1 := g25) X hD h o 0 (isO.lt ho) rfl f9 rfl (in_of (by omega) (by omega)) e26 dX9_goIn_58 (fun H locs w28 e29 h => ?_)
        have f30 : w28 o = .inl (cI, N5, .inl g25) := (congrFun e29 _).trans (va_up_self _ _ _)
        have ok31 : OK cI cB cZ cO ad w28 := OK.upO ok ho f9 e29 p27
        have kx32 : KO o w w28 := KO.up KO.rf e29 f9 (kmO ho e26 (by have := cl_of (x := z23) (by omega); omega))
        refine lv_aload_n hx hb dX9_goIn_59 rfl (lv_at hl 2 rfl) ?_
        refine lv_bipush (v := 8) hx hb dX9_goIn_60 (by decide) ?_
        refine lv_iload_n hx hb dX9_goIn_62 rfl (lv_at hl 3 rfl) ?_
        obtain ⟨z35, e33, t34⟩ := x_add (x := (8 : Int32)) (y := j) (a := 8) (b := (j).toInt) rfl rfl (by omega) (by omega)
        refine o_iadd (z := z35) hx hb dX9_goIn_63 e33 ?_
        refine lv_iload hx hb dX9_goIn_64 (lv_at hl 1 rfl) ?_
        refine lv_iload hx hb dX9_goIn_66 (lv_at hl 0 rfl) ?_
        obtain ⟨z38, e36⟩ : ∃ z : Int32, v10 + z19 = z := ⟨_, rfl⟩
        refine o_iadd (z := z38) hx hb dX9_goIn_68 e36 ?_
        obtain ⟨g39, e40⟩ : ∃ z : Nat → Int32, upd g25 (z35).toNatClampNeg z38 = z := ⟨_, rfl⟩
        have p41 : alA g39 := alA_upd p27 e40 (by have := cl_of (x := z35) (by omega); omega)
        refine o_iast (f1 := g39) X hD h o 0 (isO.lt ho) rfl f30 rfl (in_of (by omega) (by omega)) e40 dX9_goIn_69 (fun H locs w42 e43 h => ?_)
        have f44 : w42 o = .inl (cI, N5, .inl g39) := (congrFun e43 _).trans (va_up_self _ _ _)
        have ok45 : OK cI cB cZ cO ad w42 := OK.upO ok31 ho f30 e43 p41
        have kx46 : KO o w w42 := KO.up kx32 e43 f30 (kmO ho e40 (by have := cl_of (x := z35) (by omega); omega))
        refine lv_iload hx hb dX9_goIn_70 (lv_at hl 0 rfl) ?_
        exact e_i X h hr hlk dX9_goIn_72 ⟨ok45, kx46, trivial⟩
      · have hc24 : ¬ (v10).toInt = 0 := i_ne hc24 rfl rfl
        refine lv_aload_n hx hb dX9_goIn_43 rfl (lv_at hl 2 rfl) ?_
        refine lv_bipush (v := 12) hx hb dX9_goIn_44 (by decide) ?_
        refine lv_iload_n hx hb dX9_goIn_46 rfl (lv_at hl 3 rfl) ?_
        obtain ⟨z49, e47, t48⟩ := x_add (x := (12 : Int32)) (y := j) (a := 12) (b := (j).toInt) rfl rfl (by omega) (by omega)
        refine o_iadd (z := z49) hx hb dX9_goIn_47 e47 ?_
        obtain ⟨v50, e51⟩ : ∃ z : Int32, g6 (z49).toNatClampNeg = z := ⟨_, rfl⟩
        refine o_iald (v := v50) X h o 0 (isO.lt ho) rfl f9 rfl (in_of (by omega) (by omega)) e51 dX9_goIn_48 ?_
        refine lv_iload_n hx hb dX9_goIn_49 rfl (lv_at hl 5 rfl) ?_
        refine lv_icmp_ne (tgt := 57) hx hb dX9_goIn_50 (by decide) (fun hc53 => ?_) (fun hc53 => ?_)
        · have hc53 : ¬ (v50).toInt = (t).toInt := i_ne hc53 rfl rfl
          refine lv_iconst (v := 4) hx hb dX9_goIn_57 (by decide) ?_
          obtain ⟨g54, e55⟩ : ∃ z : Nat → Int32, upd g6 (z23).toNatClampNeg (4 : Int32) = z := ⟨_, rfl⟩
          have p56 : alA g54 := alA_upd p7 e55 (by have := cl_of (x := z23) (by omega); omega)
          refine o_iast (f1 := g54) X hD h o 0 (isO.lt ho) rfl f9 rfl (in_of (by omega) (by omega)) e55 dX9_goIn_58 (fun H locs w57 e58 h => ?_)
          have f59 : w57 o = .inl (cI, N5, .inl g54) := (congrFun e58 _).trans (va_up_self _ _ _)
          have ok60 : OK cI cB cZ cO ad w57 := OK.upO ok ho f9 e58 p56
          have kx61 : KO o w w57 := KO.up KO.rf e58 f9 (kmO ho e55 (by have := cl_of (x := z23) (by omega); omega))
          refine lv_aload_n hx hb dX9_goIn_59 rfl (lv_at hl 2 rfl) ?_
          refine lv_bipush (v := 8) hx hb dX9_goIn_60 (by decide) ?_
          refine lv_iload_n hx hb dX9_goIn_62 rfl (lv_at hl 3 rfl) ?_
          obtain ⟨z64, e62, t63⟩ := x_add (x := (8 : Int32)) (y := j) (a := 8) (b := (j).toInt) rfl rfl (by omega) (by omega)
          refine o_iadd (z := z64) hx hb dX9_goIn_63 e62 ?_
          refine lv_iload hx hb dX9_goIn_64 (lv_at hl 1 rfl) ?_
          refine lv_iload hx hb dX9_goIn_66 (lv_at hl 0 rfl) ?_
          obtain ⟨z67, e65⟩ : ∃ z : Int32, v10 + z19 = z := ⟨_, rfl⟩
          refine o_iadd (z := z67) hx hb dX9_goIn_68 e65 ?_
          obtain ⟨g68, e69⟩ : ∃ z : Nat → Int32, upd g54 (z64).toNatClampNeg z67 = z := ⟨_, rfl⟩
          have p70 : alA g68 := alA_upd p56 e69 (by have := cl_of (x := z64) (by omega); omega)
          refine o_iast (f1 := g68) X hD h o 0 (isO.lt ho) rfl f59 rfl (in_of (by omega) (by omega)) e69 dX9_goIn_69 (fun H locs w71 e72 h => ?_)
          have f73 : w71 o = .inl (cI, N5, .inl g68) := (congrFun e72 _).trans (va_up_self _ _ _)
          have ok74 : OK cI cB cZ cO ad w71 := OK.upO ok60 ho f59 e72 p70
          have kx75 : KO o w w71 := KO.up kx61 e72 f59 (kmO ho e69 (by have := cl_of (x := z64) (by omega); omega))
          refine lv_iload hx hb dX9_goIn_70 (lv_at hl 0 rfl) ?_
          exact e_i X h hr hlk dX9_goIn_72 ⟨ok74, kx75, trivial⟩
        · have hc53 : (v50).toInt = (t).toInt := i_eq hc53 rfl rfl
          refine lv_iload_n hx hb dX9_goIn_53 rfl (lv_at hl 5 rfl) ?_
          refine lv_goto (tgt := 58) hx hb dX9_goIn_54 (by decide) ?_
          obtain ⟨g76, e77⟩ : ∃ z : Nat → Int32, upd g6 (z23).toNatClampNeg t = z := ⟨_, rfl⟩
          have p78 : alA g76 := alA_upd p7 e77 (by have := cl_of (x := z23) (by omega); omega)
          refine o_iast (f1 := g76) X hD h o 0 (isO.lt ho) rfl f9 rfl (in_of (by omega) (by omega)) e77 dX9_goIn_58 (fun H locs w79 e80 h => ?_)
          have f81 : w79 o = .inl (cI, N5, .inl g76) := (congrFun e80 _).trans (va_up_self _ _ _)
          have ok82 : OK cI cB cZ cO ad w79 := OK.upO ok ho f9 e80 p78
          have kx83 : KO o w w79 := KO.up KO.rf e80 f9 (kmO ho e77 (by have := cl_of (x := z23) (by omega); omega))
          refine lv_aload_n hx hb dX9_goIn_59 rfl (lv_at hl 2 rfl) ?_
          refine lv_bipush (v := 8) hx hb dX9_goIn_60 (by decide) ?_
          refine lv_iload_n hx hb dX9_goIn_62 rfl (lv_at hl 3 rfl) ?_
          obtain ⟨z86, e84, t85⟩ := x_add (x := (8 : Int32)) (y := j) (a := 8) (b := (j).toInt) rfl rfl (by omega) (by omega)
          refine o_iadd (z := z86) hx hb dX9_goIn_63 e84 ?_
          refine lv_iload hx hb dX9_goIn_64 (lv_at hl 1 rfl) ?_
          refine lv_iload hx hb dX9_goIn_66 (lv_at hl 0 rfl) ?_
          obtain ⟨z89, e87⟩ : ∃ z : Int32, v10 + z19 = z := ⟨_, rfl⟩
          refine o_iadd (z := z89) hx hb dX9_goIn_68 e87 ?_
          obtain ⟨g90, e91⟩ : ∃ z : Nat → Int32, upd g76 (z86).toNatClampNeg z89 = z := ⟨_, rfl⟩
          have p92 : alA g90 := alA_upd p78 e91 (by have := cl_of (x := z86) (by omega); omega)
          refine o_iast (f1 := g90) X hD h o 0 (isO.lt ho) rfl f81 rfl (in_of (by omega) (by omega)) e91 dX9_goIn_69 (fun H locs w93 e94 h => ?_)
          have f95 : w93 o = .inl (cI, N5, .inl g90) := (congrFun e94 _).trans (va_up_self _ _ _)
          have ok96 : OK cI cB cZ cO ad w93 := OK.upO ok82 ho f81 e94 p92
          have kx97 : KO o w w93 := KO.up kx83 e94 f81 (kmO ho e91 (by have := cl_of (x := z86) (by omega); omega))
          refine lv_iload hx hb dX9_goIn_70 (lv_at hl 0 rfl) ?_
          exact e_i X h hr hlk dX9_goIn_72 ⟨ok96, kx97, trivial⟩
  · have hc16 : ¬ (z15).toInt ≤ (x).toInt := i_nle hc16 rfl rfl
    refine lv_iload_n hx hb dX9_goIn_17 rfl (lv_at hl 3 rfl) ?_
    refine lv_goto (tgt := 26) hx hb dX9_goIn_18 (by decide) ?_
    refine lv_istore (lv' := [(5, .int x), (4, .int v10), (0, .ref (ad o)), (1, .int j), (2, .int x), (3, .int t)]) hx hb dX9_goIn_26 hl (by decide) rfl (fun ls hl => ?_)
    refine lv_iload hx hb dX9_goIn_28 (lv_at hl 0 rfl) ?_
    refine lv_if_le (tgt := 70) hx hb dX9_goIn_30 (by decide) (fun hc98 => ?_) (fun hc98 => ?_)
    · have hc98 : (x).toInt ≤ 0 := i_le hc98 rfl rfl
      refine lv_iload hx hb dX9_goIn_70 (lv_at hl 0 rfl) ?_
      exact e_i X h hr hlk dX9_goIn_72 ⟨ok, KO.rf, trivial⟩
    · have hc98 : ¬ (x).toInt ≤ 0 := i_nle hc98 rfl rfl
      refine lv_aload_n hx hb dX9_goIn_33 rfl (lv_at hl 2 rfl) ?_
      refine lv_bipush (v := 12) hx hb dX9_goIn_34 (by decide) ?_
      refine lv_iload_n hx hb dX9_goIn_36 rfl (lv_at hl 3 rfl) ?_
      obtain ⟨z101, e99, t100⟩ := x_add (x := (12 : Int32)) (y := j) (a := 12) (b := (j).toInt) rfl rfl (by omega) (by omega)
      refine o_iadd (z := z101) hx hb dX9_goIn_37 e99 ?_
      refine lv_iload hx hb dX9_goIn_38 (lv_at hl 1 rfl) ?_
      refine lv_if_eq (tgt := 53) hx hb dX9_goIn_40 (by decide) (fun hc102 => ?_) (fun hc102 => ?_)
      · have hc102 : (v10).toInt = 0 := i_eq hc102 rfl rfl
        refine lv_iload_n hx hb dX9_goIn_53 rfl (lv_at hl 5 rfl) ?_
        refine lv_goto (tgt := 58) hx hb dX9_goIn_54 (by decide) ?_
        obtain ⟨g103, e104⟩ : ∃ z : Nat → Int32, upd g6 (z101).toNatClampNeg t = z := ⟨_, rfl⟩
        have p105 : alA g103 := alA_upd p7 e104 (by have := cl_of (x := z101) (by omega); omega)
        refine o_iast (f1 := g103) X hD h o 0 (isO.lt ho) rfl f9 rfl (in_of (by omega) (by omega)) e104 dX9_goIn_58 (fun H locs w106 e107 h => ?_)
        have f108 : w106 o = .inl (cI, N5, .inl g103) := (congrFun e107 _).trans (va_up_self _ _ _)
        have ok109 : OK cI cB cZ cO ad w106 := OK.upO ok ho f9 e107 p105
        have kx110 : KO o w w106 := KO.up KO.rf e107 f9 (kmO ho e104 (by have := cl_of (x := z101) (by omega); omega))
        refine lv_aload_n hx hb dX9_goIn_59 rfl (lv_at hl 2 rfl) ?_
        refine lv_bipush (v := 8) hx hb dX9_goIn_60 (by decide) ?_
        refine lv_iload_n hx hb dX9_goIn_62 rfl (lv_at hl 3 rfl) ?_
        obtain ⟨z113, e111, t112⟩ := x_add (x := (8 : Int32)) (y := j) (a := 8) (b := (j).toInt) rfl rfl (by omega) (by omega)
        refine o_iadd (z := z113) hx hb dX9_goIn_63 e111 ?_
        refine lv_iload hx hb dX9_goIn_64 (lv_at hl 1 rfl) ?_
        refine lv_iload hx hb dX9_goIn_66 (lv_at hl 0 rfl) ?_
        obtain ⟨z116, e114⟩ : ∃ z : Int32, v10 + x = z := ⟨_, rfl⟩
        refine o_iadd (z := z116) hx hb dX9_goIn_68 e114 ?_
        obtain ⟨g117, e118⟩ : ∃ z : Nat → Int32, upd g103 (z113).toNatClampNeg z116 = z := ⟨_, rfl⟩
        have p119 : alA g117 := alA_upd p105 e118 (by have := cl_of (x := z113) (by omega); omega)
        refine o_iast (f1 := g117) X hD h o 0 (isO.lt ho) rfl f108 rfl (in_of (by omega) (by omega)) e118 dX9_goIn_69 (fun H locs w120 e121 h => ?_)
        have f122 : w120 o = .inl (cI, N5, .inl g117) := (congrFun e121 _).trans (va_up_self _ _ _)
        have ok123 : OK cI cB cZ cO ad w120 := OK.upO ok109 ho f108 e121 p119
        have kx124 : KO o w w120 := KO.up kx110 e121 f108 (kmO ho e118 (by have := cl_of (x := z113) (by omega); omega))
        refine lv_iload hx hb dX9_goIn_70 (lv_at hl 0 rfl) ?_
        exact e_i X h hr hlk dX9_goIn_72 ⟨ok123, kx124, trivial⟩
      · have hc102 : ¬ (v10).toInt = 0 := i_ne hc102 rfl rfl
        refine lv_aload_n hx hb dX9_goIn_43 rfl (lv_at hl 2 rfl) ?_
        refine lv_bipush (v := 12) hx hb dX9_goIn_44 (by decide) ?_
        refine lv_iload_n hx hb dX9_goIn_46 rfl (lv_at hl 3 rfl) ?_
        obtain ⟨z127, e125, t126⟩ := x_add (x := (12 : Int32)) (y := j) (a := 12) (b := (j).toInt) rfl rfl (by omega) (by omega)
        refine o_iadd (z := z127) hx hb dX9_goIn_47 e125 ?_
        obtain ⟨v128, e129⟩ : ∃ z : Int32, g6 (z127).toNatClampNeg = z := ⟨_, rfl⟩
        refine o_iald (v := v128) X h o 0 (isO.lt ho) rfl f9 rfl (in_of (by omega) (by omega)) e129 dX9_goIn_48 ?_
        refine lv_iload_n hx hb dX9_goIn_49 rfl (lv_at hl 5 rfl) ?_
        refine lv_icmp_ne (tgt := 57) hx hb dX9_goIn_50 (by decide) (fun hc131 => ?_) (fun hc131 => ?_)
        · have hc131 : ¬ (v128).toInt = (t).toInt := i_ne hc131 rfl rfl
          refine lv_iconst (v := 4) hx hb dX9_goIn_57 (by decide) ?_
          obtain ⟨g132, e133⟩ : ∃ z : Nat → Int32, upd g6 (z101).toNatClampNeg (4 : Int32) = z := ⟨_, rfl⟩
          have p134 : alA g132 := alA_upd p7 e133 (by have := cl_of (x := z101) (by omega); omega)
          refine o_iast (f1 := g132) X hD h o 0 (isO.lt ho) rfl f9 rfl (in_of (by omega) (by omega)) e133 dX9_goIn_58 (fun H locs w135 e136 h => ?_)
          have f137 : w135 o = .inl (cI, N5, .inl g132) := (congrFun e136 _).trans (va_up_self _ _ _)
          have ok138 : OK cI cB cZ cO ad w135 := OK.upO ok ho f9 e136 p134
          have kx139 : KO o w w135 := KO.up KO.rf e136 f9 (kmO ho e133 (by have := cl_of (x := z101) (by omega); omega))
          refine lv_aload_n hx hb dX9_goIn_59 rfl (lv_at hl 2 rfl) ?_
          refine lv_bipush (v := 8) hx hb dX9_goIn_60 (by decide) ?_
          refine lv_iload_n hx hb dX9_goIn_62 rfl (lv_at hl 3 rfl) ?_
          obtain ⟨z142, e140, t141⟩ := x_add (x := (8 : Int32)) (y := j) (a := 8) (b := (j).toInt) rfl rfl (by omega) (by omega)
          refine o_iadd (z := z142) hx hb dX9_goIn_63 e140 ?_
          refine lv_iload hx hb dX9_goIn_64 (lv_at hl 1 rfl) ?_
          refine lv_iload hx hb dX9_goIn_66 (lv_at hl 0 rfl) ?_
          obtain ⟨z145, e143⟩ : ∃ z : Int32, v10 + x = z := ⟨_, rfl⟩
          refine o_iadd (z := z145) hx hb dX9_goIn_68 e143 ?_
          obtain ⟨g146, e147⟩ : ∃ z : Nat → Int32, upd g132 (z142).toNatClampNeg z145 = z := ⟨_, rfl⟩
          have p148 : alA g146 := alA_upd p134 e147 (by have := cl_of (x := z142) (by omega); omega)
          refine o_iast (f1 := g146) X hD h o 0 (isO.lt ho) rfl f137 rfl (in_of (by omega) (by omega)) e147 dX9_goIn_69 (fun H locs w149 e150 h => ?_)
          have f151 : w149 o = .inl (cI, N5, .inl g146) := (congrFun e150 _).trans (va_up_self _ _ _)
          have ok152 : OK cI cB cZ cO ad w149 := OK.upO ok138 ho f137 e150 p148
          have kx153 : KO o w w149 := KO.up kx139 e150 f137 (kmO ho e147 (by have := cl_of (x := z142) (by omega); omega))
          refine lv_iload hx hb dX9_goIn_70 (lv_at hl 0 rfl) ?_
          exact e_i X h hr hlk dX9_goIn_72 ⟨ok152, kx153, trivial⟩
        · have hc131 : (v128).toInt = (t).toInt := i_eq hc131 rfl rfl
          refine lv_iload_n hx hb dX9_goIn_53 rfl (lv_at hl 5 rfl) ?_
          refine lv_goto (tgt := 58) hx hb dX9_goIn_54 (by decide) ?_
          obtain ⟨g154, e155⟩ : ∃ z : Nat → Int32, upd g6 (z101).toNatClampNeg t = z := ⟨_, rfl⟩
          have p156 : alA g154 := alA_upd p7 e155 (by have := cl_of (x := z101) (by omega); omega)
          refine o_iast (f1 := g154) X hD h o 0 (isO.lt ho) rfl f9 rfl (in_of (by omega) (by omega)) e155 dX9_goIn_58 (fun H locs w157 e158 h => ?_)
          have f159 : w157 o = .inl (cI, N5, .inl g154) := (congrFun e158 _).trans (va_up_self _ _ _)
          have ok160 : OK cI cB cZ cO ad w157 := OK.upO ok ho f9 e158 p156
          have kx161 : KO o w w157 := KO.up KO.rf e158 f9 (kmO ho e155 (by have := cl_of (x := z101) (by omega); omega))
          refine lv_aload_n hx hb dX9_goIn_59 rfl (lv_at hl 2 rfl) ?_
          refine lv_bipush (v := 8) hx hb dX9_goIn_60 (by decide) ?_
          refine lv_iload_n hx hb dX9_goIn_62 rfl (lv_at hl 3 rfl) ?_
          obtain ⟨z164, e162, t163⟩ := x_add (x := (8 : Int32)) (y := j) (a := 8) (b := (j).toInt) rfl rfl (by omega) (by omega)
          refine o_iadd (z := z164) hx hb dX9_goIn_63 e162 ?_
          refine lv_iload hx hb dX9_goIn_64 (lv_at hl 1 rfl) ?_
          refine lv_iload hx hb dX9_goIn_66 (lv_at hl 0 rfl) ?_
          obtain ⟨z167, e165⟩ : ∃ z : Int32, v10 + x = z := ⟨_, rfl⟩
          refine o_iadd (z := z167) hx hb dX9_goIn_68 e165 ?_
          obtain ⟨g168, e169⟩ : ∃ z : Nat → Int32, upd g154 (z164).toNatClampNeg z167 = z := ⟨_, rfl⟩
          have p170 : alA g168 := alA_upd p156 e169 (by have := cl_of (x := z164) (by omega); omega)
          refine o_iast (f1 := g168) X hD h o 0 (isO.lt ho) rfl f159 rfl (in_of (by omega) (by omega)) e169 dX9_goIn_69 (fun H locs w171 e172 h => ?_)
          have f173 : w171 o = .inl (cI, N5, .inl g168) := (congrFun e172 _).trans (va_up_self _ _ _)
          have ok174 : OK cI cB cZ cO ad w171 := OK.upO ok160 ho f159 e172 p170
          have kx175 : KO o w w171 := KO.up kx161 e172 f159 (kmO ho e169 (by have := cl_of (x := z164) (by omega); omega))
          refine lv_iload hx hb dX9_goIn_70 (lv_at hl 0 rfl) ?_
          exact e_i X h hr hlk dX9_goIn_72 ⟨ok174, kx175, trivial⟩

set_option maxHeartbeats 4000000 in
set_option maxRecDepth 100000 in
theorem c_M_goLadle (l : Launch) (G : va_G) (cI cB cZ cO : ClassId) (ad : Nat → Nat) (w : Nat → va_E) (o : Nat) (ho : isO o) (ok : OK cI cB cZ cO ad w) (i : Int32) (j : Int32) (hl_i : 0 ≤ i.toInt) (hh_i : i.toInt ≤ 6) (hl_j : 0 ≤ j.toInt) (hh_j : j.toInt ≤ 3)  : NI l G (tyq cI cB cZ cO) yX9_goLadle cX9_goLadle 3 (some .int) 2 47 74 ad w [.ref (ad o), .int i, .int j] (fun r w1 => OK cI cB cZ cO ad w1 ∧ KO o w w1 ∧ True) := by
  refine nk_i (own := "NoonShadeModel") rfl (by decide) (Nat.le_of_ble_eq_true rfl) ?_
  intro p e s m below meth c ls X hD hN hr hlk h hl
  have hx := X.1.1
  have hb := X.1.2.1
  have hown := X.1.2.2.2.1
  have hts := X.1.2.2.2.2
  have hl : lv_has ls 3 [(0, .ref (ad o)), (1, .int i), (2, .int j)] := hl
  refine lv_aload_n hx hb dX9_goLadle_0 rfl (lv_at hl 0 rfl) ?_
  refine lv_bipush (v := 7) hx hb dX9_goLadle_1 (by decide) ?_
  refine lv_dup2_11 hx hb dX9_goLadle_3 rfl rfl ?_
  obtain ⟨N2, g3, f1, h5, p4⟩ := OK.o ok ho
  have f6 : w o = .inl (cI, N2, .inl g3) := f1
  obtain ⟨v7, e8⟩ : ∃ z : Int32, g3 7 = z := ⟨_, rfl⟩
  refine o_iald (v := v7) X h o 0 (isO.lt ho) rfl f6 rfl (in_of (by decide) (by show (7 : Int) < _; omega)) e8 dX9_goLadle_4 ?_
  refine lv_iconst (v := 1) hx hb dX9_goLadle_5 (by decide) ?_
  refine lv_iload_n hx hb dX9_goLadle_6 rfl (lv_at hl 1 rfl) ?_
  obtain ⟨z12, e10, t11, t11b⟩ := x_shl7 (i := i) (by omega) (by omega)
  refine o_ishl (z := z12) hx hb dX9_goLadle_7 e10 ?_
  obtain ⟨z15, e13⟩ : ∃ z : Int32, v7 ||| z12 = z := ⟨_, rfl⟩
  refine o_ior (z := z15) hx hb dX9_goLadle_8 e13 ?_
  obtain ⟨g16, e17⟩ : ∃ z : Nat → Int32, upd g3 7 z15 = z := ⟨_, rfl⟩
  have p18 : alA g16 := alA_upd p4 e17 (by decide)
  refine o_iast (f1 := g16) X hD h o 0 (isO.lt ho) rfl f6 rfl (in_of (by decide) (by show (7 : Int) < _; omega)) e17 dX9_goLadle_9 (fun H locs w19 e20 h => ?_)
  have f21 : w19 o = .inl (cI, N2, .inl g16) := (congrFun e20 _).trans (va_up_self _ _ _)
  have ok22 : OK cI cB cZ cO ad w19 := OK.upO ok ho f6 e20 p18
  have kx23 : KO o w w19 := KO.up KO.rf e20 f6 (kmO ho e17 (by decide))
  refine lv_aload_n hx hb dX9_goLadle_10 rfl (lv_at hl 0 rfl) ?_
  refine lv_iload_n hx hb dX9_goLadle_11 rfl (lv_at hl 2 rfl) ?_
  refine lv_aload_n hx hb dX9_goLadle_12 rfl (lv_at hl 0 rfl) ?_
  refine lv_iload_n hx hb dX9_goLadle_13 rfl (lv_at hl 1 rfl) ?_
  refine lv_iconst (v := 0) hx hb dX9_goLadle_14 (by decide) ?_
  refine n_Si (na := 3) (As := [.ref (ad o), .int i, .int 0]) (rest := [.int j, .ref (ad o)]) X hD hN h (c_M_givesOf l G cI cB cZ cO ad w19 o ho ok22 i (0 : Int32) (by omega) (by omega) ) ⟨kv_483, kv_484, kv_470, kv_485⟩ ⟨by decide, by decide, by decide⟩ ⟨Nat.le_of_ble_eq_true rfl, Nat.le_of_ble_eq_true rfl⟩ ⟨Nat.zero_le _, Nat.zero_le _⟩ rfl hl.1 rfl (Nat.le_of_ble_eq_true rfl) dX9_goLadle_15 (fun r24 w25 H locs hp26 h => ?_)
  obtain ⟨rfl, hr27⟩ := hp26
  refine lv_aload_n hx hb dX9_goLadle_18 rfl (lv_at hl 0 rfl) ?_
  refine lv_bipush (v := 30) hx hb dX9_goLadle_19 (by decide) ?_
  refine lv_iload_n hx hb dX9_goLadle_21 rfl (lv_at hl 1 rfl) ?_
  obtain ⟨z30, e28, t29⟩ := x_add (x := (30 : Int32)) (y := i) (a := 30) (b := (i).toInt) rfl rfl (by omega) (by omega)
  refine o_iadd (z := z30) hx hb dX9_goLadle_22 e28 ?_
  obtain ⟨v31, e32⟩ : ∃ z : Int32, g16 (z30).toNatClampNeg = z := ⟨_, rfl⟩
  refine o_iald (v := v31) X h o 0 (isO.lt ho) rfl f21 rfl (in_of (by omega) (by omega)) e32 dX9_goLadle_23 ?_
  refine n_Si (na := 4) (As := [.ref (ad o), .int j, .int r24, .int v31]) (rest := []) X hD hN h (c_M_goIn l G cI cB cZ cO ad w19 o ho ok22 j r24 v31 (by omega) (by omega) ) ⟨kv_486, kv_487, kv_470, kv_488⟩ ⟨by decide, by decide, by decide⟩ ⟨Nat.le_of_ble_eq_true rfl, Nat.le_of_ble_eq_true rfl⟩ ⟨Nat.zero_le _, Nat.zero_le _⟩ rfl hl.1 rfl (Nat.le_of_ble_eq_true rfl) dX9_goLadle_24 (fun r34 w35 H locs hp36 h => ?_)
  obtain ⟨ok38, kk39, hr37⟩ := hp36
  have kx40 : KO o w w35 := KO.tr kx23 kk39
  exact e_i X h hr hlk dX9_goLadle_27 ⟨ok38, kx40, trivial⟩

set_option maxHeartbeats 4000000 in
set_option maxRecDepth 100000 in
theorem c_M_goPour (l : Launch) (G : va_G) (cI cB cZ cO : ClassId) (ad : Nat → Nat) (w : Nat → va_E) (o : Nat) (ho : isO o) (ok : OK cI cB cZ cO ad w) (j : Int32) (k : Int32) (hl_j : 0 ≤ j.toInt) (hh_j : j.toInt ≤ 3) (hl_k : 0 ≤ k.toInt) (hh_k : k.toInt ≤ 3)  : NI l G (tyq cI cB cZ cO) yX9_goPour cX9_goPour 4 (some .int) 1 25 74 ad w [.ref (ad o), .int j, .int k] (fun r w1 => OK cI cB cZ cO ad w1 ∧ KO o w w1 ∧ True) := by
  refine nk_i (own := "NoonShadeModel") rfl (by decide) (Nat.le_of_ble_eq_true rfl) ?_
  intro p e s m below meth c ls X hD hN hr hlk h hl
  have hx := X.1.1
  have hb := X.1.2.1
  have hown := X.1.2.2.2.1
  have hts := X.1.2.2.2.2
  have hl : lv_has ls 4 [(0, .ref (ad o)), (1, .int j), (2, .int k)] := hl
  refine lv_aload_n hx hb dX9_goPour_0 rfl (lv_at hl 0 rfl) ?_
  refine lv_iload_n hx hb dX9_goPour_1 rfl (lv_at hl 2 rfl) ?_
  refine lv_aload_n hx hb dX9_goPour_2 rfl (lv_at hl 0 rfl) ?_
  refine lv_bipush (v := 8) hx hb dX9_goPour_3 (by decide) ?_
  refine lv_iload_n hx hb dX9_goPour_5 rfl (lv_at hl 1 rfl) ?_
  obtain ⟨z3, e1, t2⟩ := x_add (x := (8 : Int32)) (y := j) (a := 8) (b := (j).toInt) rfl rfl (by omega) (by omega)
  refine o_iadd (z := z3) hx hb dX9_goPour_6 e1 ?_
  obtain ⟨N5, g6, f4, h8, p7⟩ := OK.o ok ho
  have f9 : w o = .inl (cI, N5, .inl g6) := f4
  obtain ⟨v10, e11⟩ : ∃ z : Int32, g6 (z3).toNatClampNeg = z := ⟨_, rfl⟩
  refine o_iald (v := v10) X h o 0 (isO.lt ho) rfl f9 rfl (in_of (by omega) (by omega)) e11 dX9_goPour_7 ?_
  refine lv_aload_n hx hb dX9_goPour_8 rfl (lv_at hl 0 rfl) ?_
  refine lv_bipush (v := 12) hx hb dX9_goPour_9 (by decide) ?_
  refine lv_iload_n hx hb dX9_goPour_11 rfl (lv_at hl 1 rfl) ?_
  obtain ⟨z15, e13, t14⟩ := x_add (x := (12 : Int32)) (y := j) (a := 12) (b := (j).toInt) rfl rfl (by omega) (by omega)
  refine o_iadd (z := z15) hx hb dX9_goPour_12 e13 ?_
  obtain ⟨v16, e17⟩ : ∃ z : Int32, g6 (z15).toNatClampNeg = z := ⟨_, rfl⟩
  refine o_iald (v := v16) X h o 0 (isO.lt ho) rfl f9 rfl (in_of (by omega) (by omega)) e17 dX9_goPour_13 ?_
  refine n_Si (na := 4) (As := [.ref (ad o), .int k, .int v10, .int v16]) (rest := []) X hD hN h (c_M_goIn l G cI cB cZ cO ad w o ho ok k v10 v16 (by omega) (by omega) ) ⟨kv_486, kv_487, kv_470, kv_488⟩ ⟨by decide, by decide, by decide⟩ ⟨Nat.le_of_ble_eq_true rfl, Nat.le_of_ble_eq_true rfl⟩ ⟨Nat.zero_le _, Nat.zero_le _⟩ rfl hl.1 rfl (Nat.le_of_ble_eq_true rfl) dX9_goPour_14 (fun r19 w20 H locs hp21 h => ?_)
  obtain ⟨ok23, kk24, hr22⟩ := hp21
  have kx25 : KO o w w20 := kk24
  refine lv_istore_n (lv' := [(3, .int r19), (0, .ref (ad o)), (1, .int j), (2, .int k)]) hx hb dX9_goPour_17 rfl hl (by decide) rfl (fun ls hl => ?_)
  refine lv_aload_n hx hb dX9_goPour_18 rfl (lv_at hl 1 rfl) ?_
  refine lv_bipush (v := 8) hx hb dX9_goPour_19 (by decide) ?_
  refine lv_iload_n hx hb dX9_goPour_21 rfl (lv_at hl 2 rfl) ?_
  obtain ⟨z28, e26, t27⟩ := x_add (x := (8 : Int32)) (y := j) (a := 8) (b := (j).toInt) rfl rfl (by omega) (by omega)
  refine o_iadd (z := z28) hx hb dX9_goPour_22 e26 ?_
  refine lv_dup2_11 hx hb dX9_goPour_23 rfl rfl ?_
  obtain ⟨N30, g31, f29, h33, p32⟩ := OK.o ok23 ho
  have f34 : w20 o = .inl (cI, N30, .inl g31) := f29
  obtain ⟨v35, e36⟩ : ∃ z : Int32, g31 (z28).toNatClampNeg = z := ⟨_, rfl⟩
  refine o_iald (v := v35) X h o 0 (isO.lt ho) rfl f34 rfl (in_of (by omega) (by omega)) e36 dX9_goPour_24 ?_
  refine lv_iload_n hx hb dX9_goPour_25 rfl (lv_at hl 0 rfl) ?_
  obtain ⟨z40, e38⟩ : ∃ z : Int32, v35 - r19 = z := ⟨_, rfl⟩
  refine o_isub (z := z40) hx hb dX9_goPour_26 e38 ?_
  obtain ⟨g41, e42⟩ : ∃ z : Nat → Int32, upd g31 (z28).toNatClampNeg z40 = z := ⟨_, rfl⟩
  have p43 : alA g41 := alA_upd p32 e42 (by have := cl_of (x := z28) (by omega); omega)
  refine o_iast (f1 := g41) X hD h o 0 (isO.lt ho) rfl f34 rfl (in_of (by omega) (by omega)) e42 dX9_goPour_27 (fun H locs w44 e45 h => ?_)
  have f46 : w44 o = .inl (cI, N30, .inl g41) := (congrFun e45 _).trans (va_up_self _ _ _)
  have ok47 : OK cI cB cZ cO ad w44 := OK.upO ok23 ho f34 e45 p43
  have kx48 : KO o w w44 := KO.up kx25 e45 f34 (kmO ho e42 (by have := cl_of (x := z28) (by omega); omega))
  refine lv_iload_n hx hb dX9_goPour_28 rfl (lv_at hl 0 rfl) ?_
  exact e_i X h hr hlk dX9_goPour_29 ⟨ok47, kx48, trivial⟩

set_option maxHeartbeats 4000000 in
set_option maxRecDepth 100000 in
theorem c_M_goHour (l : Launch) (G : va_G) (cI cB cZ cO : ClassId) (ad : Nat → Nat) (w : Nat → va_E) (o : Nat) (ho : isO o) (ok : OK cI cB cZ cO ad w)    : NV l G (tyq cI cB cZ cO) yX9_goHour cX9_goHour 2 2 46 74 ad w [.ref (ad o)] (fun w1 => OK cI cB cZ cO ad w1 ∧ KO o w w1 ∧ True) := by
  refine nk_v (own := "NoonShadeModel") rfl (by decide) (Nat.le_of_ble_eq_true rfl) ?_
  intro p e s m below meth c ls X hD hN hr hlk h hl
  have hx := X.1.1
  have hb := X.1.2.1
  have hown := X.1.2.2.2.1
  have hts := X.1.2.2.2.2
  have hl : lv_has ls 2 [(0, .ref (ad o))] := hl
  refine lv_iconst (v := 0) hx hb dX9_goHour_0 (by decide) ?_
  refine lv_istore_n (lv' := [(1, .int 0), (0, .ref (ad o))]) hx hb dX9_goHour_1 rfl hl (by decide) rfl (fun ls hl => ?_)
  have hloop3 : ∀ (d4 : Nat) (L1 : Int32) (wL2 : Nat → va_E) (H : Heap) (locs : List Loc) (ls : Array Slot), 0 ≤ L1.toInt → L1.toInt ≤ 4 → OK cI cB cZ cO ad wL2 → KO o w wL2 → 4 - L1.toInt < (d4 : Int) → St G 74 ad (wA 74 ad s.heap.size) s.heap wL2 H locs → lv_has ls 2 [(1, .int L1), (0, .ref (ad o))] → W p l e { frames := 2, cells := 0, slots := 0, locals := 46 } s m [.ref (ad o)].toArray below meth c H locs 0 0 (MQ below (va_Qv (fun w1 => OK cI cB cZ cO ad w1 ∧ KO o w w1 ∧ True) (Aft G 74 ad) (wA 74 ad s.heap.size)) [.ref (ad o)].toArray s 0 0 (wA 74 ad s.heap.size)) (F0 m 2 ls []) := by
    intro d4
    induction d4 with
    | zero => intro L1 wL2 H locs ls hi7 hi8 ok9 kx10 hm6 h hl; exfalso; omega
    | succ d4 ih5 =>
      intro L1 wL2 H locs ls hi7 hi8 ok9 kx10 hm6 h hl
      refine lv_iload_n hx hb dX9_goHour_2 rfl (lv_at hl 0 rfl) ?_
      refine lv_aload_n hx hb dX9_goHour_3 rfl (lv_at hl 1 rfl) ?_
      refine lv_iconst (v := 1) hx hb dX9_goHour_4 (by decide) ?_
      obtain ⟨N13, g14, f12, h16, p15⟩ := OK.o ok9 ho
      have f17 : wL2 o = .inl (cI, N13, .inl g14) := f12
      obtain ⟨v18, e19⟩ : ∃ z : Int32, g14 1 = z := ⟨_, rfl⟩
      have h20 := (alA_rd p15 e19).2.1 rfl
      refine o_iald (v := v18) X h o 0 (isO.lt ho) rfl f17 rfl (in_of (by decide) (by show (1 : Int) < _; omega)) e19 dX9_goHour_5 ?_
      refine lv_icmp_ge (tgt := 29) hx hb dX9_goHour_6 (by decide) (fun hc21 => ?_) (fun hc21 => ?_)
      · have hc21 : (v18).toInt ≤ (L1).toInt := i_le hc21 rfl rfl
        refine lv_aload_n hx hb dX9_goHour_29 rfl (lv_at hl 1 rfl) ?_
        refine lv_iconst (v := 5) hx hb dX9_goHour_30 (by decide) ?_
        refine lv_dup2_11 hx hb dX9_goHour_31 rfl rfl ?_
        obtain ⟨v22, e23⟩ : ∃ z : Int32, g14 5 = z := ⟨_, rfl⟩
        refine o_iald (v := v22) X h o 0 (isO.lt ho) rfl f17 rfl (in_of (by decide) (by show (5 : Int) < _; omega)) e23 dX9_goHour_32 ?_
        refine lv_iconst (v := 1) hx hb dX9_goHour_33 (by decide) ?_
        obtain ⟨z27, e25⟩ : ∃ z : Int32, v22 + (1 : Int32) = z := ⟨_, rfl⟩
        refine o_iadd (z := z27) hx hb dX9_goHour_34 e25 ?_
        obtain ⟨g28, e29⟩ : ∃ z : Nat → Int32, upd g14 5 z27 = z := ⟨_, rfl⟩
        have p30 : alA g28 := alA_upd p15 e29 (by decide)
        refine o_iast (f1 := g28) X hD h o 0 (isO.lt ho) rfl f17 rfl (in_of (by decide) (by show (5 : Int) < _; omega)) e29 dX9_goHour_35 (fun H locs w31 e32 h => ?_)
        have f33 : w31 o = .inl (cI, N13, .inl g28) := (congrFun e32 _).trans (va_up_self _ _ _)
        have ok34 : OK cI cB cZ cO ad w31 := OK.upO ok9 ho f17 e32 p30
        have kx35 : KO o w w31 := KO.up kx10 e32 f17 (kmO ho e29 (by decide))
        refine lv_aload_n hx hb dX9_goHour_36 rfl (lv_at hl 1 rfl) ?_
        refine lv_bipush (v := 7) hx hb dX9_goHour_37 (by decide) ?_
        refine lv_iconst (v := 0) hx hb dX9_goHour_39 (by decide) ?_
        obtain ⟨g36, e37⟩ : ∃ z : Nat → Int32, upd g28 7 (0 : Int32) = z := ⟨_, rfl⟩
        have p38 : alA g36 := alA_upd p30 e37 (by decide)
        refine o_iast (f1 := g36) X hD h o 0 (isO.lt ho) rfl f33 rfl (in_of (by decide) (by show (7 : Int) < _; omega)) e37 dX9_goHour_40 (fun H locs w39 e40 h => ?_)
        have f41 : w39 o = .inl (cI, N13, .inl g36) := (congrFun e40 _).trans (va_up_self _ _ _)
        have ok42 : OK cI cB cZ cO ad w39 := OK.upO ok34 ho f33 e40 p38
        have kx43 : KO o w w39 := KO.up kx35 e40 f33 (kmO ho e37 (by decide))
        exact e_v X h hr hlk dX9_goHour_41 ⟨ok42, kx43, trivial⟩
      · have hc21 : ¬ (v18).toInt ≤ (L1).toInt := i_nle hc21 rfl rfl
        refine lv_aload_n hx hb dX9_goHour_9 rfl (lv_at hl 1 rfl) ?_
        refine lv_bipush (v := 8) hx hb dX9_goHour_10 (by decide) ?_
        refine lv_iload_n hx hb dX9_goHour_12 rfl (lv_at hl 0 rfl) ?_
        obtain ⟨z46, e44, t45⟩ := x_add (x := (8 : Int32)) (y := L1) (a := 8) (b := (L1).toInt) rfl rfl (by omega) (by omega)
        refine o_iadd (z := z46) hx hb dX9_goHour_13 e44 ?_
        refine lv_dup2_11 hx hb dX9_goHour_14 rfl rfl ?_
        obtain ⟨v47, e48⟩ : ∃ z : Int32, g14 (z46).toNatClampNeg = z := ⟨_, rfl⟩
        refine o_iald (v := v47) X h o 0 (isO.lt ho) rfl f17 rfl (in_of (by omega) (by omega)) e48 dX9_goHour_15 ?_
        refine lv_aload_n hx hb dX9_goHour_16 rfl (lv_at hl 1 rfl) ?_
        refine lv_iload_n hx hb dX9_goHour_17 rfl (lv_at hl 0 rfl) ?_
        refine n_Si (na := 2) (As := [.ref (ad o), .int L1]) (rest := [.int v47, .int z46, .ref (ad o)]) X hD hN h (c_M_losesOf l G cI cB cZ cO ad wL2 o ho ok9 L1 (by omega) (by omega) ) ⟨kv_489, kv_490, kv_470, kv_491⟩ ⟨by decide, by decide, by decide⟩ ⟨Nat.le_of_ble_eq_true rfl, Nat.le_of_ble_eq_true rfl⟩ ⟨Nat.zero_le _, Nat.zero_le _⟩ rfl hl.1 rfl (Nat.le_of_ble_eq_true rfl) dX9_goHour_18 (fun r50 w51 H locs hp52 h => ?_)
        obtain ⟨rfl, hr53⟩ := hp52
        obtain ⟨z56, e54⟩ : ∃ z : Int32, v47 - r50 = z := ⟨_, rfl⟩
        refine o_isub (z := z56) hx hb dX9_goHour_21 e54 ?_
        obtain ⟨g57, e58⟩ : ∃ z : Nat → Int32, upd g14 (z46).toNatClampNeg z56 = z := ⟨_, rfl⟩
        have p59 : alA g57 := alA_upd p15 e58 (by have := cl_of (x := z46) (by omega); omega)
        refine o_iast (f1 := g57) X hD h o 0 (isO.lt ho) rfl f17 rfl (in_of (by omega) (by omega)) e58 dX9_goHour_22 (fun H locs w60 e61 h => ?_)
        have f62 : w60 o = .inl (cI, N13, .inl g57) := (congrFun e61 _).trans (va_up_self _ _ _)
        have ok63 : OK cI cB cZ cO ad w60 := OK.upO ok9 ho f17 e61 p59
        have kx64 : KO o w w60 := KO.up kx10 e61 f17 (kmO ho e58 (by have := cl_of (x := z46) (by omega); omega))
        obtain ⟨z65, e66, t67⟩ := x_add (x := L1) (y := 1) (a := L1.toInt) (b := 1) rfl rfl (by omega) (by omega)
        refine lv_iinc (v := z65) (lv' := [(1, .int z65), (0, .ref (ad o))]) hx hb dX9_goHour_23 hl (k := 0) rfl e66 (by decide) rfl (fun ls hl => ?_)
        refine lv_goto (tgt := 2) hx hb dX9_goHour_26 (by decide) ?_
        exact ih5  z65 w60 _ _ _ (by omega) (by omega) ok63 kx64 (by omega) h (lv_sub hl [0, 1] rfl)
  exact hloop3 5 (0 : Int32) w _ _ _ (by have q0 : (0 : Int32).toInt = 0 := rfl; omega) (by have q0 : (0 : Int32).toInt = 0 := rfl; omega) ok KO.rf (by have q0 : (0 : Int32).toInt = 0 := rfl; omega) h (lv_sub hl [0, 1] rfl)

set_option maxHeartbeats 4000000 in
set_option maxRecDepth 100000 in
theorem c_M_goHours (l : Launch) (G : va_G) (cI cB cZ cO : ClassId) (ad : Nat → Nat) (w : Nat → va_E) (o : Nat) (ho : isO o) (ok : OK cI cB cZ cO ad w) (n : Int32)   : NV l G (tyq cI cB cZ cO) yX9_goHours cX9_goHours 3 3 67 74 ad w [.ref (ad o), .int n] (fun w1 => OK cI cB cZ cO ad w1 ∧ KO o w w1 ∧ True) := by
  refine nk_v (own := "NoonShadeModel") rfl (by decide) (Nat.le_of_ble_eq_true rfl) ?_
  intro p e s m below meth c ls X hD hN hr hlk h hl
  have hx := X.1.1
  have hb := X.1.2.1
  have hown := X.1.2.2.2.1
  have hts := X.1.2.2.2.2
  have hl : lv_has ls 3 [(0, .ref (ad o)), (1, .int n)] := hl
  have lo_n := ilo n
  have hi_n := ihi n
  refine lv_iconst (v := 0) hx hb dX9_goHours_0 (by decide) ?_
  refine lv_istore_n (lv' := [(2, .int 0), (0, .ref (ad o)), (1, .int n)]) hx hb dX9_goHours_1 rfl hl (by decide) rfl (fun ls hl => ?_)
  have hloop3 : ∀ (d4 : Nat) (L1 : Int32) (wL2 : Nat → va_E) (H : Heap) (locs : List Loc) (ls : Array Slot), 0 ≤ L1.toInt → L1.toInt ≤ 2147483647 → OK cI cB cZ cO ad wL2 → KO o w wL2 → 2147483647 - L1.toInt < (d4 : Int) → St G 74 ad (wA 74 ad s.heap.size) s.heap wL2 H locs → lv_has ls 3 [(2, .int L1), (0, .ref (ad o)), (1, .int n)] → W p l e { frames := 3, cells := 0, slots := 0, locals := 67 } s m [.ref (ad o), .int n].toArray below meth c H locs 0 0 (MQ below (va_Qv (fun w1 => OK cI cB cZ cO ad w1 ∧ KO o w w1 ∧ True) (Aft G 74 ad) (wA 74 ad s.heap.size)) [.ref (ad o), .int n].toArray s 0 0 (wA 74 ad s.heap.size)) (F0 m 2 ls []) := by
    intro d4
    induction d4 with
    | zero => intro L1 wL2 H locs ls hi7 hi8 ok9 kx10 hm6 h hl; exfalso; omega
    | succ d4 ih5 =>
      intro L1 wL2 H locs ls hi7 hi8 ok9 kx10 hm6 h hl
      refine lv_iload_n hx hb dX9_goHours_2 rfl (lv_at hl 0 rfl) ?_
      refine lv_iload_n hx hb dX9_goHours_3 rfl (lv_at hl 2 rfl) ?_
      refine lv_icmp_ge (tgt := 26) hx hb dX9_goHours_4 (by decide) (fun hc12 => ?_) (fun hc12 => ?_)
      · have hc12 : (n).toInt ≤ (L1).toInt := i_le hc12 rfl rfl
        exact e_v X h hr hlk dX9_goHours_26 ⟨ok9, kx10, trivial⟩
      · have hc12 : ¬ (n).toInt ≤ (L1).toInt := i_nle hc12 rfl rfl
        refine lv_aload_n hx hb dX9_goHours_7 rfl (lv_at hl 1 rfl) ?_
        refine lv_iconst (v := 5) hx hb dX9_goHours_8 (by decide) ?_
        obtain ⟨N14, g15, f13, h17, p16⟩ := OK.o ok9 ho
        have f18 : wL2 o = .inl (cI, N14, .inl g15) := f13
        obtain ⟨v19, e20⟩ : ∃ z : Int32, g15 5 = z := ⟨_, rfl⟩
        refine o_iald (v := v19) X h o 0 (isO.lt ho) rfl f18 rfl (in_of (by decide) (by show (5 : Int) < _; omega)) e20 dX9_goHours_9 ?_
        refine lv_sipush (v := 9999) hx hb dX9_goHours_10 (by decide) ?_
        refine lv_icmp_ge (tgt := 26) hx hb dX9_goHours_13 (by decide) (fun hc22 => ?_) (fun hc22 => ?_)
        · have hc22 : 9999 ≤ (v19).toInt := i_le hc22 rfl rfl
          exact e_v X h hr hlk dX9_goHours_26 ⟨ok9, kx10, trivial⟩
        · have hc22 : ¬ 9999 ≤ (v19).toInt := i_nle hc22 rfl rfl
          refine lv_aload_n hx hb dX9_goHours_16 rfl (lv_at hl 1 rfl) ?_
          refine n_Sv (na := 1) (As := [.ref (ad o)]) (rest := []) X hD hN h (c_M_goHour l G cI cB cZ cO ad wL2 o ho ok9   ) ⟨kv_492, kv_493, kv_470, kv_494⟩ ⟨by decide, by decide, by decide⟩ ⟨Nat.le_of_ble_eq_true rfl, Nat.le_of_ble_eq_true rfl⟩ ⟨Nat.zero_le _, Nat.zero_le _⟩ rfl hl.1 rfl (Nat.le_of_ble_eq_true rfl) dX9_goHours_17 (fun w24 H locs hp25 h => ?_)
          obtain ⟨ok27, kk28, hr26⟩ := hp25
          have kx29 : KO o w w24 := KO.tr kx10 kk28
          obtain ⟨z30, e31, t32⟩ := x_add (x := L1) (y := 1) (a := L1.toInt) (b := 1) rfl rfl (by omega) (by omega)
          refine lv_iinc (v := z30) (lv' := [(2, .int z30), (0, .ref (ad o)), (1, .int n)]) hx hb dX9_goHours_20 hl (k := 0) rfl e31 (by decide) rfl (fun ls hl => ?_)
          refine lv_goto (tgt := 2) hx hb dX9_goHours_23 (by decide) ?_
          exact ih5  z30 w24 _ _ _ (by omega) (by omega) ok27 kx29 (by omega) h (lv_sub hl [0, 1, 2] rfl)
  exact hloop3 2147483648 (0 : Int32) w _ _ _ (by have q0 : (0 : Int32).toInt = 0 := rfl; omega) (by have q0 : (0 : Int32).toInt = 0 := rfl; omega) ok KO.rf (by have q0 : (0 : Int32).toInt = 0 := rfl; omega) h (lv_sub hl [0, 1, 2] rfl)

set_option maxHeartbeats 4000000 in
set_option maxRecDepth 100000 in
theorem c_M_save (l : Launch) (G : va_G) (cI cB cZ cO : ClassId) (ad : Nat → Nat) (w : Nat → va_E)  (ok : OK cI cB cZ cO ad w)    : NV l G (tyq cI cB cZ cO) yX9_save cX9_save 2 0 0 74 ad w [.ref (ad 64)] (fun w1 => OK cI cB cZ cO ad w1 ∧ KM w w1 ∧ True) := by
  refine nk_v (own := "NoonShadeModel") rfl (by decide) (Nat.le_of_ble_eq_true rfl) ?_
  intro p e s m below meth c ls X hD hN hr hlk h hl
  have hx := X.1.1
  have hb := X.1.2.1
  have hown := X.1.2.2.2.1
  have hts := X.1.2.2.2.2
  have hl : lv_has ls 2 [(0, .ref (ad 64))] := hl
  refine lv_aload_n hx hb dX9_save_0 rfl (lv_at hl 0 rfl) ?_
  obtain ⟨x2, x3, t4, t5, t6, t7, t8, t9, f1, h10, h11⟩ := (show sM ad (w 64) from ok 64 (by decide))
  have f12 : w 64 = .inr (7, [.ref (ad 65), .ref (ad 66), .ref (ad 67), .ref (ad 68), .long x2, .long x3, .ref (ad 69), .int t4, .ref (ad 70), .ref (ad 71), .int t5, .int t6, .int t7, .int t8, .int t9, .ref (ad 72), .ref (ad 73)]) := f1
  refine r_get kc9 X h 64 0 (by decide) rfl f12 (by decide) kv_467 rfl dX9_save_1 ?_
  refine lv_iconst (v := 4) hx hb dX9_save_4 (by decide) ?_
  obtain ⟨g14, f13, p15⟩ := (show sA cI 177 (alA) (w 65) from ok 65 (by decide))
  have f16 : w 65 = .inl (cI, 177, .inl g14) := f13
  obtain ⟨v17, e18⟩ : ∃ z : Int32, g14 4 = z := ⟨_, rfl⟩
  have h19 := (alA_rd p15 e18).2.2.2.2 rfl
  refine o_iald (v := v17) X h 65 0 (by decide) rfl f16 rfl (by unfold vp_in; decide) e18 dX9_save_5 ?_
  refine lv_bipush (v := 8) hx hb dX9_save_6 (by decide) ?_
  refine lv_icmp_ne (tgt := 51) hx hb dX9_save_8 (by decide) (fun hc20 => ?_) (fun hc20 => ?_)
  · have hc20 : ¬ (v17).toInt = 8 := i_ne hc20 rfl rfl
    refine lv_iconst (v := 0) hx hb dX9_save_51 (by decide) ?_
    refine lv_istore_n (lv' := [(1, .int 0), (0, .ref (ad 64))]) hx hb dX9_save_52 rfl hl (by decide) rfl (fun ls hl => ?_)
    have hloop23 : ∀ (d24 : Nat) (L21 : Int32) (wL22 : Nat → va_E) (H : Heap) (locs : List Loc) (ls : Array Slot), 0 ≤ L21.toInt → L21.toInt ≤ 11 → OK cI cB cZ cO ad wL22 → KM w wL22 → U7 cI wL22 → 11 - L21.toInt < (d24 : Int) → St G 74 ad (wA 74 ad s.heap.size) s.heap wL22 H locs → lv_has ls 2 [(1, .int L21), (0, .ref (ad 64))] → W p l e { frames := 0, cells := 0, slots := 0, locals := 0 } s m [.ref (ad 64)].toArray below meth c H locs 0 0 (MQ below (va_Qv (fun w1 => OK cI cB cZ cO ad w1 ∧ KM w w1 ∧ True) (Aft G 74 ad) (wA 74 ad s.heap.size)) [.ref (ad 64)].toArray s 0 0 (wA 74 ad s.heap.size)) (F0 m 53 ls []) := by
      intro d24
      induction d24 with
      | zero => intro L21 wL22 H locs ls hi27 hi28 ok29 kx30 wp32 hm26 h hl; exfalso; omega
      | succ d24 ih25 =>
        intro L21 wL22 H locs ls hi27 hi28 ok29 kx30 wp32 hm26 h hl
        obtain ⟨g33, f34, p35, h36⟩ := wp32
        obtain ⟨v37, e38⟩ : ∃ z : Int32, g33 4 = z := ⟨_, rfl⟩
        rw [e38] at h36
        have h39 := (alA_rd p35 e38).2.2.2.2 rfl
        refine lv_iload_n hx hb dX9_save_53 rfl (lv_at hl 0 rfl) ?_
        refine lv_bipush (v := 11) hx hb dX9_save_54 (by decide) ?_
        refine lv_icmp_ge (tgt := 92) hx hb dX9_save_56 (by decide) (fun hc40 => ?_) (fun hc40 => ?_)
        · have hc40 : 11 ≤ (L21).toInt := i_le hc40 rfl rfl
          refine lv_aload_n hx hb dX9_save_92 rfl (lv_at hl 1 rfl) ?_
          obtain ⟨x42, x43, t44, t45, t46, t47, t48, t49, f41, h50, h51⟩ := (show sM ad (wL22 64) from ok29 64 (by decide))
          have f52 : wL22 64 = .inr (7, [.ref (ad 65), .ref (ad 66), .ref (ad 67), .ref (ad 68), .long x42, .long x43, .ref (ad 69), .int t44, .ref (ad 70), .ref (ad 71), .int t45, .int t46, .int t47, .int t48, .int t49, .ref (ad 72), .ref (ad 73)]) := f41
          refine r_get kc9 X h 64 0 (by decide) rfl f52 (by decide) kv_467 rfl dX9_save_93 ?_
          refine lv_iconst (v := 4) hx hb dX9_save_96 (by decide) ?_
          refine lv_dup2_11 hx hb dX9_save_97 rfl rfl ?_
          refine o_iald (v := v37) X h 65 0 (by decide) rfl f34 rfl (by unfold vp_in; decide) e38 dX9_save_98 ?_
          refine lv_iconst (v := 1) hx hb dX9_save_99 (by decide) ?_
          obtain ⟨z55, e53, t54⟩ := x_add (x := v37) (y := (1 : Int32)) (a := (v37).toInt) (b := 1) rfl rfl (by omega) (by omega)
          refine o_iadd (z := z55) hx hb dX9_save_100 e53 ?_
          obtain ⟨g56, e57⟩ : ∃ z : Nat → Int32, upd g33 4 z55 = z := ⟨_, rfl⟩
          have p58 : alA g56 := alA_upd5 p35 e57 (by omega) (by first | omega | (simp; omega))
          refine o_iast (f1 := g56) X hD h 65 0 (by decide) rfl f34 rfl (by unfold vp_in; decide) e57 dX9_save_101 (fun H locs w59 e60 h => ?_)
          have f61 : w59 65 = .inl (cI, 177, .inl g56) := (congrFun e60 _).trans (va_up_self _ _ _)
          have ok62 : OK cI cB cZ cO ad w59 := OK.up ok29 e60 (sA_mk p58)
          have kx63 : KM w w59 := KM.up kx30 e60 f34 (kmA e57 (by decide))
          exact e_v X h hr hlk dX9_save_102 ⟨ok62, kx63, trivial⟩
        · have hc40 : ¬ 11 ≤ (L21).toInt := i_nle hc40 rfl rfl
          refine lv_aload_n hx hb dX9_save_59 rfl (lv_at hl 1 rfl) ?_
          obtain ⟨x65, x66, t67, t68, t69, t70, t71, t72, f64, h73, h74⟩ := (show sM ad (wL22 64) from ok29 64 (by decide))
          have f75 : wL22 64 = .inr (7, [.ref (ad 65), .ref (ad 66), .ref (ad 67), .ref (ad 68), .long x65, .long x66, .ref (ad 69), .int t67, .ref (ad 70), .ref (ad 71), .int t68, .int t69, .int t70, .int t71, .int t72, .ref (ad 72), .ref (ad 73)]) := f64
          refine r_get kc9 X h 64 0 (by decide) rfl f75 (by decide) kv_467 rfl dX9_save_60 ?_
          refine lv_bipush (v := 89) hx hb dX9_save_63 (by decide) ?_
          refine lv_bipush (v := 11) hx hb dX9_save_65 (by decide) ?_
          refine lv_aload_n hx hb dX9_save_67 rfl (lv_at hl 1 rfl) ?_
          refine r_get kc9 X h 64 0 (by decide) rfl f75 (by decide) kv_467 rfl dX9_save_68 ?_
          refine lv_iconst (v := 4) hx hb dX9_save_71 (by decide) ?_
          refine o_iald (v := v37) X h 65 0 (by decide) rfl f34 rfl (by unfold vp_in; decide) e38 dX9_save_72 ?_
          obtain ⟨z78, e76, t77⟩ := x_mul (x := (11 : Int32)) (y := v37) (a := 11) (b := (v37).toInt) rfl rfl (by omega) (by omega)
          refine o_imul (z := z78) hx hb dX9_save_73 e76 ?_
          obtain ⟨z81, e79, t80⟩ := x_add (x := (89 : Int32)) (y := z78) (a := 89) (b := (z78).toInt) rfl rfl (by omega) (by omega)
          refine o_iadd (z := z81) hx hb dX9_save_74 e79 ?_
          refine lv_iload_n hx hb dX9_save_75 rfl (lv_at hl 0 rfl) ?_
          obtain ⟨z84, e82, t83⟩ := x_add (x := z81) (y := L21) (a := (z81).toInt) (b := (L21).toInt) rfl rfl (by omega) (by omega)
          refine o_iadd (z := z84) hx hb dX9_save_76 e82 ?_
          refine lv_aload_n hx hb dX9_save_77 rfl (lv_at hl 1 rfl) ?_
          refine r_get kc9 X h 64 0 (by decide) rfl f75 (by decide) kv_467 rfl dX9_save_78 ?_
          refine lv_iconst (v := 5) hx hb dX9_save_81 (by decide) ?_
          refine lv_iload_n hx hb dX9_save_82 rfl (lv_at hl 0 rfl) ?_
          obtain ⟨z87, e85, t86⟩ := x_add (x := (5 : Int32)) (y := L21) (a := 5) (b := (L21).toInt) rfl rfl (by omega) (by omega)
          refine o_iadd (z := z87) hx hb dX9_save_83 e85 ?_
          obtain ⟨v88, e89⟩ : ∃ z : Int32, g33 (z87).toNatClampNeg = z := ⟨_, rfl⟩
          refine o_iald (v := v88) X h 65 0 (by decide) rfl f34 rfl (in_of (by omega) (by omega)) e89 dX9_save_84 ?_
          obtain ⟨g91, e92⟩ : ∃ z : Nat → Int32, upd g33 (z84).toNatClampNeg v88 = z := ⟨_, rfl⟩
          have p93 : alA g91 := alA_upd p35 e92 (by have := cl_of (x := z84) (by omega); omega)
          refine o_iast (f1 := g91) X hD h 65 0 (by decide) rfl f34 rfl (in_of (by omega) (by omega)) e92 dX9_save_85 (fun H locs w94 e95 h => ?_)
          have f96 : w94 65 = .inl (cI, 177, .inl g91) := (congrFun e95 _).trans (va_up_self _ _ _)
          have ok97 : OK cI cB cZ cO ad w94 := OK.up ok29 e95 (sA_mk p93)
          have kx98 : KM w w94 := KM.up kx30 e95 f34 (kmA e92 (by have := cl_of (x := z84) (by omega); omega))
          obtain ⟨z99, e100, t101⟩ := x_add (x := L21) (y := 1) (a := L21.toInt) (b := 1) rfl rfl (by omega) (by omega)
          refine lv_iinc (v := z99) (lv' := [(1, .int z99), (0, .ref (ad 64))]) hx hb dX9_save_86 hl (k := 0) rfl e100 (by decide) rfl (fun ls hl => ?_)
          refine lv_goto (tgt := 53) hx hb dX9_save_89 (by decide) ?_
          have e102 : g91 4 = v37 := by rw [← e92, pk_un (by have := cl_of (x := z84) (by omega); omega)]; exact e38
          exact ih25  z99 w94 _ _ _ (by omega) (by omega) ok97 kx98 ⟨g91, f96, p93, by rw [e102]; first | omega | decide⟩ (by omega) h (lv_sub hl [0, 1] rfl)
    exact hloop23 12 (0 : Int32) w _ _ _ (by have q0 : (0 : Int32).toInt = 0 := rfl; omega) (by have q0 : (0 : Int32).toInt = 0 := rfl; omega) ok KM.rf ⟨g14, f16, p15, by rw [e18]; first | omega | decide⟩ (by have q0 : (0 : Int32).toInt = 0 := rfl; omega) h (lv_sub hl [0, 1] rfl)
  · have hc20 : (v17).toInt = 8 := i_eq hc20 rfl rfl
    refine lv_iconst (v := 0) hx hb dX9_save_11 (by decide) ?_
    refine lv_istore_n (lv' := [(1, .int 0), (0, .ref (ad 64))]) hx hb dX9_save_12 rfl hl (by decide) rfl (fun ls hl => ?_)
    have hloop105 : ∀ (d106 : Nat) (L103 : Int32) (wL104 : Nat → va_E) (H : Heap) (locs : List Loc) (ls : Array Slot), 0 ≤ L103.toInt → L103.toInt ≤ 77 → OK cI cB cZ cO ad wL104 → KM w wL104 → 77 - L103.toInt < (d106 : Int) → St G 74 ad (wA 74 ad s.heap.size) s.heap wL104 H locs → lv_has ls 2 [(1, .int L103), (0, .ref (ad 64))] → W p l e { frames := 0, cells := 0, slots := 0, locals := 0 } s m [.ref (ad 64)].toArray below meth c H locs 0 0 (MQ below (va_Qv (fun w1 => OK cI cB cZ cO ad w1 ∧ KM w w1 ∧ True) (Aft G 74 ad) (wA 74 ad s.heap.size)) [.ref (ad 64)].toArray s 0 0 (wA 74 ad s.heap.size)) (F0 m 13 ls []) := by
      intro d106
      induction d106 with
      | zero => intro L103 wL104 H locs ls hi109 hi110 ok111 kx112 hm108 h hl; exfalso; omega
      | succ d106 ih107 =>
        intro L103 wL104 H locs ls hi109 hi110 ok111 kx112 hm108 h hl
        refine lv_iload_n hx hb dX9_save_13 rfl (lv_at hl 0 rfl) ?_
        refine lv_bipush (v := 77) hx hb dX9_save_14 (by decide) ?_
        refine lv_icmp_ge (tgt := 43) hx hb dX9_save_16 (by decide) (fun hc114 => ?_) (fun hc114 => ?_)
        · have hc114 : 77 ≤ (L103).toInt := i_le hc114 rfl rfl
          refine lv_aload_n hx hb dX9_save_43 rfl (lv_at hl 1 rfl) ?_
          obtain ⟨x116, x117, t118, t119, t120, t121, t122, t123, f115, h124, h125⟩ := (show sM ad (wL104 64) from ok111 64 (by decide))
          have f126 : wL104 64 = .inr (7, [.ref (ad 65), .ref (ad 66), .ref (ad 67), .ref (ad 68), .long x116, .long x117, .ref (ad 69), .int t118, .ref (ad 70), .ref (ad 71), .int t119, .int t120, .int t121, .int t122, .int t123, .ref (ad 72), .ref (ad 73)]) := f115
          refine r_get kc9 X h 64 0 (by decide) rfl f126 (by decide) kv_467 rfl dX9_save_44 ?_
          refine lv_iconst (v := 4) hx hb dX9_save_47 (by decide) ?_
          refine lv_bipush (v := 7) hx hb dX9_save_48 (by decide) ?_
          obtain ⟨g128, f127, p129⟩ := (show sA cI 177 (alA) (wL104 65) from ok111 65 (by decide))
          have f130 : wL104 65 = .inl (cI, 177, .inl g128) := f127
          obtain ⟨g131, e132⟩ : ∃ z : Nat → Int32, upd g128 4 (7 : Int32) = z := ⟨_, rfl⟩
          have p133 : alA g131 := alA_upd5 p129 e132 (by decide) (by decide)
          refine o_iast (f1 := g131) X hD h 65 0 (by decide) rfl f130 rfl (by unfold vp_in; decide) e132 dX9_save_50 (fun H locs w134 e135 h => ?_)
          have f136 : w134 65 = .inl (cI, 177, .inl g131) := (congrFun e135 _).trans (va_up_self _ _ _)
          have ok137 : OK cI cB cZ cO ad w134 := OK.up ok111 e135 (sA_mk p133)
          have kx138 : KM w w134 := KM.up kx112 e135 f130 (kmA e132 (by decide))
          refine lv_iconst (v := 0) hx hb dX9_save_51 (by decide) ?_
          refine lv_istore_n (lv' := [(1, .int 0), (0, .ref (ad 64))]) hx hb dX9_save_52 rfl hl (by decide) rfl (fun ls hl => ?_)
          have hloop141 : ∀ (d142 : Nat) (L139 : Int32) (wL140 : Nat → va_E) (H : Heap) (locs : List Loc) (ls : Array Slot), 0 ≤ L139.toInt → L139.toInt ≤ 11 → OK cI cB cZ cO ad wL140 → KM w wL140 → U7 cI wL140 → 11 - L139.toInt < (d142 : Int) → St G 74 ad (wA 74 ad s.heap.size) s.heap wL140 H locs → lv_has ls 2 [(1, .int L139), (0, .ref (ad 64))] → W p l e { frames := 0, cells := 0, slots := 0, locals := 0 } s m [.ref (ad 64)].toArray below meth c H locs 0 0 (MQ below (va_Qv (fun w1 => OK cI cB cZ cO ad w1 ∧ KM w w1 ∧ True) (Aft G 74 ad) (wA 74 ad s.heap.size)) [.ref (ad 64)].toArray s 0 0 (wA 74 ad s.heap.size)) (F0 m 53 ls []) := by
            intro d142
            induction d142 with
            | zero => intro L139 wL140 H locs ls hi145 hi146 ok147 kx148 wp150 hm144 h hl; exfalso; omega
            | succ d142 ih143 =>
              intro L139 wL140 H locs ls hi145 hi146 ok147 kx148 wp150 hm144 h hl
              obtain ⟨g151, f152, p153, h154⟩ := wp150
              obtain ⟨v155, e156⟩ : ∃ z : Int32, g151 4 = z := ⟨_, rfl⟩
              rw [e156] at h154
              have h157 := (alA_rd p153 e156).2.2.2.2 rfl
              refine lv_iload_n hx hb dX9_save_53 rfl (lv_at hl 0 rfl) ?_
              refine lv_bipush (v := 11) hx hb dX9_save_54 (by decide) ?_
              refine lv_icmp_ge (tgt := 92) hx hb dX9_save_56 (by decide) (fun hc158 => ?_) (fun hc158 => ?_)
              · have hc158 : 11 ≤ (L139).toInt := i_le hc158 rfl rfl
                refine lv_aload_n hx hb dX9_save_92 rfl (lv_at hl 1 rfl) ?_
                obtain ⟨x160, x161, t162, t163, t164, t165, t166, t167, f159, h168, h169⟩ := (show sM ad (wL140 64) from ok147 64 (by decide))
                have f170 : wL140 64 = .inr (7, [.ref (ad 65), .ref (ad 66), .ref (ad 67), .ref (ad 68), .long x160, .long x161, .ref (ad 69), .int t162, .ref (ad 70), .ref (ad 71), .int t163, .int t164, .int t165, .int t166, .int t167, .ref (ad 72), .ref (ad 73)]) := f159
                refine r_get kc9 X h 64 0 (by decide) rfl f170 (by decide) kv_467 rfl dX9_save_93 ?_
                refine lv_iconst (v := 4) hx hb dX9_save_96 (by decide) ?_
                refine lv_dup2_11 hx hb dX9_save_97 rfl rfl ?_
                refine o_iald (v := v155) X h 65 0 (by decide) rfl f152 rfl (by unfold vp_in; decide) e156 dX9_save_98 ?_
                refine lv_iconst (v := 1) hx hb dX9_save_99 (by decide) ?_
                obtain ⟨z173, e171, t172⟩ := x_add (x := v155) (y := (1 : Int32)) (a := (v155).toInt) (b := 1) rfl rfl (by omega) (by omega)
                refine o_iadd (z := z173) hx hb dX9_save_100 e171 ?_
                obtain ⟨g174, e175⟩ : ∃ z : Nat → Int32, upd g151 4 z173 = z := ⟨_, rfl⟩
                have p176 : alA g174 := alA_upd5 p153 e175 (by omega) (by first | omega | (simp; omega))
                refine o_iast (f1 := g174) X hD h 65 0 (by decide) rfl f152 rfl (by unfold vp_in; decide) e175 dX9_save_101 (fun H locs w177 e178 h => ?_)
                have f179 : w177 65 = .inl (cI, 177, .inl g174) := (congrFun e178 _).trans (va_up_self _ _ _)
                have ok180 : OK cI cB cZ cO ad w177 := OK.up ok147 e178 (sA_mk p176)
                have kx181 : KM w w177 := KM.up kx148 e178 f152 (kmA e175 (by decide))
                exact e_v X h hr hlk dX9_save_102 ⟨ok180, kx181, trivial⟩
              · have hc158 : ¬ 11 ≤ (L139).toInt := i_nle hc158 rfl rfl
                refine lv_aload_n hx hb dX9_save_59 rfl (lv_at hl 1 rfl) ?_
                obtain ⟨x183, x184, t185, t186, t187, t188, t189, t190, f182, h191, h192⟩ := (show sM ad (wL140 64) from ok147 64 (by decide))
                have f193 : wL140 64 = .inr (7, [.ref (ad 65), .ref (ad 66), .ref (ad 67), .ref (ad 68), .long x183, .long x184, .ref (ad 69), .int t185, .ref (ad 70), .ref (ad 71), .int t186, .int t187, .int t188, .int t189, .int t190, .ref (ad 72), .ref (ad 73)]) := f182
                refine r_get kc9 X h 64 0 (by decide) rfl f193 (by decide) kv_467 rfl dX9_save_60 ?_
                refine lv_bipush (v := 89) hx hb dX9_save_63 (by decide) ?_
                refine lv_bipush (v := 11) hx hb dX9_save_65 (by decide) ?_
                refine lv_aload_n hx hb dX9_save_67 rfl (lv_at hl 1 rfl) ?_
                refine r_get kc9 X h 64 0 (by decide) rfl f193 (by decide) kv_467 rfl dX9_save_68 ?_
                refine lv_iconst (v := 4) hx hb dX9_save_71 (by decide) ?_
                refine o_iald (v := v155) X h 65 0 (by decide) rfl f152 rfl (by unfold vp_in; decide) e156 dX9_save_72 ?_
                obtain ⟨z196, e194, t195⟩ := x_mul (x := (11 : Int32)) (y := v155) (a := 11) (b := (v155).toInt) rfl rfl (by omega) (by omega)
                refine o_imul (z := z196) hx hb dX9_save_73 e194 ?_
                obtain ⟨z199, e197, t198⟩ := x_add (x := (89 : Int32)) (y := z196) (a := 89) (b := (z196).toInt) rfl rfl (by omega) (by omega)
                refine o_iadd (z := z199) hx hb dX9_save_74 e197 ?_
                refine lv_iload_n hx hb dX9_save_75 rfl (lv_at hl 0 rfl) ?_
                obtain ⟨z202, e200, t201⟩ := x_add (x := z199) (y := L139) (a := (z199).toInt) (b := (L139).toInt) rfl rfl (by omega) (by omega)
                refine o_iadd (z := z202) hx hb dX9_save_76 e200 ?_
                refine lv_aload_n hx hb dX9_save_77 rfl (lv_at hl 1 rfl) ?_
                refine r_get kc9 X h 64 0 (by decide) rfl f193 (by decide) kv_467 rfl dX9_save_78 ?_
                refine lv_iconst (v := 5) hx hb dX9_save_81 (by decide) ?_
                refine lv_iload_n hx hb dX9_save_82 rfl (lv_at hl 0 rfl) ?_
                obtain ⟨z205, e203, t204⟩ := x_add (x := (5 : Int32)) (y := L139) (a := 5) (b := (L139).toInt) rfl rfl (by omega) (by omega)
                refine o_iadd (z := z205) hx hb dX9_save_83 e203 ?_
                obtain ⟨v206, e207⟩ : ∃ z : Int32, g151 (z205).toNatClampNeg = z := ⟨_, rfl⟩
                refine o_iald (v := v206) X h 65 0 (by decide) rfl f152 rfl (in_of (by omega) (by omega)) e207 dX9_save_84 ?_
                obtain ⟨g209, e210⟩ : ∃ z : Nat → Int32, upd g151 (z202).toNatClampNeg v206 = z := ⟨_, rfl⟩
                have p211 : alA g209 := alA_upd p153 e210 (by have := cl_of (x := z202) (by omega); omega)
                refine o_iast (f1 := g209) X hD h 65 0 (by decide) rfl f152 rfl (in_of (by omega) (by omega)) e210 dX9_save_85 (fun H locs w212 e213 h => ?_)
                have f214 : w212 65 = .inl (cI, 177, .inl g209) := (congrFun e213 _).trans (va_up_self _ _ _)
                have ok215 : OK cI cB cZ cO ad w212 := OK.up ok147 e213 (sA_mk p211)
                have kx216 : KM w w212 := KM.up kx148 e213 f152 (kmA e210 (by have := cl_of (x := z202) (by omega); omega))
                obtain ⟨z217, e218, t219⟩ := x_add (x := L139) (y := 1) (a := L139.toInt) (b := 1) rfl rfl (by omega) (by omega)
                refine lv_iinc (v := z217) (lv' := [(1, .int z217), (0, .ref (ad 64))]) hx hb dX9_save_86 hl (k := 0) rfl e218 (by decide) rfl (fun ls hl => ?_)
                refine lv_goto (tgt := 53) hx hb dX9_save_89 (by decide) ?_
                have e220 : g209 4 = v155 := by rw [← e210, pk_un (by have := cl_of (x := z202) (by omega); omega)]; exact e156
                exact ih143  z217 w212 _ _ _ (by omega) (by omega) ok215 kx216 ⟨g209, f214, p211, by rw [e220]; first | omega | decide⟩ (by omega) h (lv_sub hl [0, 1] rfl)
          have e221 : g131 4 = 7 := by rw [← e132, pk_us]
          exact hloop141 12 (0 : Int32) w134 _ _ _ (by have q0 : (0 : Int32).toInt = 0 := rfl; omega) (by have q0 : (0 : Int32).toInt = 0 := rfl; omega) ok137 kx138 ⟨g131, f136, p133, by rw [e221]; first | omega | decide⟩ (by have q0 : (0 : Int32).toInt = 0 := rfl; omega) h (lv_sub hl [0, 1] rfl)
        · have hc114 : ¬ 77 ≤ (L103).toInt := i_nle hc114 rfl rfl
          refine lv_aload_n hx hb dX9_save_19 rfl (lv_at hl 1 rfl) ?_
          obtain ⟨x223, x224, t225, t226, t227, t228, t229, t230, f222, h231, h232⟩ := (show sM ad (wL104 64) from ok111 64 (by decide))
          have f233 : wL104 64 = .inr (7, [.ref (ad 65), .ref (ad 66), .ref (ad 67), .ref (ad 68), .long x223, .long x224, .ref (ad 69), .int t225, .ref (ad 70), .ref (ad 71), .int t226, .int t227, .int t228, .int t229, .int t230, .ref (ad 72), .ref (ad 73)]) := f222
          refine r_get kc9 X h 64 0 (by decide) rfl f233 (by decide) kv_467 rfl dX9_save_20 ?_
          refine lv_bipush (v := 89) hx hb dX9_save_23 (by decide) ?_
          refine lv_iload_n hx hb dX9_save_25 rfl (lv_at hl 0 rfl) ?_
          obtain ⟨z236, e234, t235⟩ := x_add (x := (89 : Int32)) (y := L103) (a := 89) (b := (L103).toInt) rfl rfl (by omega) (by omega)
          refine o_iadd (z := z236) hx hb dX9_save_26 e234 ?_
          refine lv_aload_n hx hb dX9_save_27 rfl (lv_at hl 1 rfl) ?_
          refine r_get kc9 X h 64 0 (by decide) rfl f233 (by decide) kv_467 rfl dX9_save_28 ?_
          refine lv_bipush (v := 100) hx hb dX9_save_31 (by decide) ?_
          refine lv_iload_n hx hb dX9_save_33 rfl (lv_at hl 0 rfl) ?_
          obtain ⟨z239, e237, t238⟩ := x_add (x := (100 : Int32)) (y := L103) (a := 100) (b := (L103).toInt) rfl rfl (by omega) (by omega)
          refine o_iadd (z := z239) hx hb dX9_save_34 e237 ?_
          obtain ⟨g241, f240, p242⟩ := (show sA cI 177 (alA) (wL104 65) from ok111 65 (by decide))
          have f243 : wL104 65 = .inl (cI, 177, .inl g241) := f240
          obtain ⟨v244, e245⟩ : ∃ z : Int32, g241 (z239).toNatClampNeg = z := ⟨_, rfl⟩
          refine o_iald (v := v244) X h 65 0 (by decide) rfl f243 rfl (in_of (by omega) (by omega)) e245 dX9_save_35 ?_
          obtain ⟨g247, e248⟩ : ∃ z : Nat → Int32, upd g241 (z236).toNatClampNeg v244 = z := ⟨_, rfl⟩
          have p249 : alA g247 := alA_upd p242 e248 (by have := cl_of (x := z236) (by omega); omega)
          refine o_iast (f1 := g247) X hD h 65 0 (by decide) rfl f243 rfl (in_of (by omega) (by omega)) e248 dX9_save_36 (fun H locs w250 e251 h => ?_)
          have f252 : w250 65 = .inl (cI, 177, .inl g247) := (congrFun e251 _).trans (va_up_self _ _ _)
          have ok253 : OK cI cB cZ cO ad w250 := OK.up ok111 e251 (sA_mk p249)
          have kx254 : KM w w250 := KM.up kx112 e251 f243 (kmA e248 (by have := cl_of (x := z236) (by omega); omega))
          obtain ⟨z255, e256, t257⟩ := x_add (x := L103) (y := 1) (a := L103.toInt) (b := 1) rfl rfl (by omega) (by omega)
          refine lv_iinc (v := z255) (lv' := [(1, .int z255), (0, .ref (ad 64))]) hx hb dX9_save_37 hl (k := 0) rfl e256 (by decide) rfl (fun ls hl => ?_)
          refine lv_goto (tgt := 13) hx hb dX9_save_40 (by decide) ?_
          exact ih107  z255 w250 _ _ _ (by omega) (by omega) ok253 kx254 (by omega) h (lv_sub hl [0, 1] rfl)
    exact hloop105 78 (0 : Int32) w _ _ _ (by have q0 : (0 : Int32).toInt = 0 := rfl; omega) (by have q0 : (0 : Int32).toInt = 0 := rfl; omega) ok KM.rf (by have q0 : (0 : Int32).toInt = 0 := rfl; omega) h (lv_sub hl [0, 1] rfl)

set_option maxHeartbeats 4000000 in
set_option maxRecDepth 100000 in
theorem c_M_layHand (l : Launch) (G : va_G) (cI cB cZ cO : ClassId) (ad : Nat → Nat) (w : Nat → va_E)  (ok : OK cI cB cZ cO ad w)    : NV l G (tyq cI cB cZ cO) yX9_layHand cX9_layHand 2 0 0 74 ad w [.ref (ad 64)] (fun w1 => OK cI cB cZ cO ad w1 ∧ KM w w1 ∧ True) := by
  refine nk_v (own := "NoonShadeModel") rfl (by decide) (Nat.le_of_ble_eq_true rfl) ?_
  intro p e s m below meth c ls X hD hN hr hlk h hl
  have hx := X.1.1
  have hb := X.1.2.1
  have hown := X.1.2.2.2.1
  have hts := X.1.2.2.2.2
  have hl : lv_has ls 2 [(0, .ref (ad 64))] := hl
  refine lv_iconst (v := 0) hx hb dX9_layHand_0 (by decide) ?_
  refine lv_istore_n (lv' := [(1, .int 0), (0, .ref (ad 64))]) hx hb dX9_layHand_1 rfl hl (by decide) rfl (fun ls hl => ?_)
  have hloop3 : ∀ (d4 : Nat) (L1 : Int32) (wL2 : Nat → va_E) (H : Heap) (locs : List Loc) (ls : Array Slot), 0 ≤ L1.toInt → L1.toInt ≤ 41 → OK cI cB cZ cO ad wL2 → KM w wL2 → 41 - L1.toInt < (d4 : Int) → St G 74 ad (wA 74 ad s.heap.size) s.heap wL2 H locs → lv_has ls 2 [(1, .int L1), (0, .ref (ad 64))] → W p l e { frames := 0, cells := 0, slots := 0, locals := 0 } s m [.ref (ad 64)].toArray below meth c H locs 0 0 (MQ below (va_Qv (fun w1 => OK cI cB cZ cO ad w1 ∧ KM w w1 ∧ True) (Aft G 74 ad) (wA 74 ad s.heap.size)) [.ref (ad 64)].toArray s 0 0 (wA 74 ad s.heap.size)) (F0 m 2 ls []) := by
    intro d4
    induction d4 with
    | zero => intro L1 wL2 H locs ls hi7 hi8 ok9 kx10 hm6 h hl; exfalso; omega
    | succ d4 ih5 =>
      intro L1 wL2 H locs ls hi7 hi8 ok9 kx10 hm6 h hl
      refine lv_iload_n hx hb dX9_layHand_2 rfl (lv_at hl 0 rfl) ?_
      refine lv_bipush (v := 41) hx hb dX9_layHand_3 (by decide) ?_
      refine lv_icmp_ge (tgt := 26) hx hb dX9_layHand_5 (by decide) (fun hc12 => ?_) (fun hc12 => ?_)
      · have hc12 : 41 ≤ (L1).toInt := i_le hc12 rfl rfl
        exact e_v X h hr hlk dX9_layHand_26 ⟨ok9, kx10, trivial⟩
      · have hc12 : ¬ 41 ≤ (L1).toInt := i_nle hc12 rfl rfl
        refine lv_aload_n hx hb dX9_layHand_8 rfl (lv_at hl 1 rfl) ?_
        obtain ⟨x14, x15, t16, t17, t18, t19, t20, t21, f13, h22, h23⟩ := (show sM ad (wL2 64) from ok9 64 (by decide))
        have f24 : wL2 64 = .inr (7, [.ref (ad 65), .ref (ad 66), .ref (ad 67), .ref (ad 68), .long x14, .long x15, .ref (ad 69), .int t16, .ref (ad 70), .ref (ad 71), .int t17, .int t18, .int t19, .int t20, .int t21, .ref (ad 72), .ref (ad 73)]) := f13
        refine r_get kc9 X h 64 6 (by decide) rfl f24 (by decide) kv_495 rfl dX9_layHand_9 ?_
        refine lv_iload_n hx hb dX9_layHand_12 rfl (lv_at hl 0 rfl) ?_
        refine lv_aload_n hx hb dX9_layHand_13 rfl (lv_at hl 1 rfl) ?_
        refine r_get kc9 X h 64 0 (by decide) rfl f24 (by decide) kv_467 rfl dX9_layHand_14 ?_
        refine lv_iload_n hx hb dX9_layHand_17 rfl (lv_at hl 0 rfl) ?_
        obtain ⟨g26, f25, p27⟩ := (show sA cI 177 (alA) (wL2 65) from ok9 65 (by decide))
        have f28 : wL2 65 = .inl (cI, 177, .inl g26) := f25
        obtain ⟨v29, e30⟩ : ∃ z : Int32, g26 (L1).toNatClampNeg = z := ⟨_, rfl⟩
        refine o_iald (v := v29) X h 65 0 (by decide) rfl f28 rfl (in_of (by omega) (by omega)) e30 dX9_layHand_18 ?_
        obtain ⟨g33, f32, p34⟩ := (show sA cI 41 (alA) (wL2 69) from ok9 69 (by decide))
        have f35 : wL2 69 = .inl (cI, 41, .inl g33) := f32
        obtain ⟨g36, e37⟩ : ∃ z : Nat → Int32, upd g33 (L1).toNatClampNeg v29 = z := ⟨_, rfl⟩
        have p38 : alA g36 := alA_updc p27 p34 e30 e37
        refine o_iast (f1 := g36) X hD h 69 0 (by decide) rfl f35 rfl (in_of (by omega) (by omega)) e37 dX9_layHand_19 (fun H locs w39 e40 h => ?_)
        have f41 : w39 69 = .inl (cI, 41, .inl g36) := (congrFun e40 _).trans (va_up_self _ _ _)
        have ok42 : OK cI cB cZ cO ad w39 := OK.up ok9 e40 (sA_mk p38)
        have kx43 : KM w w39 := KM.up kx10 e40 f35 rfl
        obtain ⟨z44, e45, t46⟩ := x_add (x := L1) (y := 1) (a := L1.toInt) (b := 1) rfl rfl (by omega) (by omega)
        refine lv_iinc (v := z44) (lv' := [(1, .int z44), (0, .ref (ad 64))]) hx hb dX9_layHand_20 hl (k := 0) rfl e45 (by decide) rfl (fun ls hl => ?_)
        refine lv_goto (tgt := 2) hx hb dX9_layHand_23 (by decide) ?_
        exact ih5  z44 w39 _ _ _ (by omega) (by omega) ok42 kx43 (by omega) h (lv_sub hl [0, 1] rfl)
  exact hloop3 42 (0 : Int32) w _ _ _ (by have q0 : (0 : Int32).toInt = 0 := rfl; omega) (by have q0 : (0 : Int32).toInt = 0 := rfl; omega) ok KM.rf (by have q0 : (0 : Int32).toInt = 0 := rfl; omega) h (lv_sub hl [0, 1] rfl)

set_option maxHeartbeats 4000000 in
set_option maxRecDepth 100000 in
theorem c_M_toldCaster (l : Launch) (G : va_G) (cI cB cZ cO : ClassId) (ad : Nat → Nat) (w : Nat → va_E)  (ok : OK cI cB cZ cO ad w) (i : Int32) (u : Int32) (hl_i : 0 ≤ i.toInt) (hh_i : i.toInt ≤ 6)  : NI l G (tyq cI cB cZ cO) yX9_toldCaster cX9_toldCaster 3 (some .int) 2 47 74 ad w [.ref (ad 64), .int i, .int u] (fun r w1 => w = w1 ∧ True) := by
  refine nk_i (own := "NoonShadeModel") rfl (by decide) (Nat.le_of_ble_eq_true rfl) ?_
  intro p e s m below meth c ls X hD hN hr hlk h hl
  have hx := X.1.1
  have hb := X.1.2.1
  have hown := X.1.2.2.2.1
  have hts := X.1.2.2.2.2
  have hl : lv_has ls 3 [(0, .ref (ad 64)), (1, .int i), (2, .int u)] := hl
  refine lv_iload_n hx hb dX9_toldCaster_0 rfl (lv_at hl 2 rfl) ?_
  by_cases hs1 : 0 ≤ (u).toInt ∧ (u).toInt ≤ 3
  · have ha2 : u = 0 ∨ u = 1 ∨ u = 2 ∨ u = 3 := by simp only [fa_eq]; have := hs1; simp only [show ((0 : Int32).toInt = 0) from rfl, show ((1 : Int32).toInt = 1) from rfl, show ((2 : Int32).toInt = 2) from rfl, show ((3 : Int32).toInt = 3) from rfl]; omega
    rcases ha2 with hq | hq | hq | hq
    · refine lv_tableIn (tgt := 32) (off := 31) hx hb dX9_toldCaster_1 (by rw [hq]; decide) (by rw [hq]; decide) (by rw [hq]; decide) (by decide) ?_
      refine lv_aload_n hx hb dX9_toldCaster_32 rfl (lv_at hl 0 rfl) ?_
      obtain ⟨x4, x5, t6, t7, t8, t9, t10, t11, f3, h12, h13⟩ := (show sM ad (w 64) from ok 64 (by decide))
      have f14 : w 64 = .inr (7, [.ref (ad 65), .ref (ad 66), .ref (ad 67), .ref (ad 68), .long x4, .long x5, .ref (ad 69), .int t6, .ref (ad 70), .ref (ad 71), .int t7, .int t8, .int t9, .int t10, .int t11, .ref (ad 72), .ref (ad 73)]) := f3
      refine r_get kc9 X h 64 0 (by decide) rfl f14 (by decide) kv_467 rfl dX9_toldCaster_33 ?_
      refine lv_bipush (v := 16) hx hb dX9_toldCaster_36 (by decide) ?_
      refine lv_iload_n hx hb dX9_toldCaster_38 rfl (lv_at hl 1 rfl) ?_
      obtain ⟨z17, e15, t16⟩ := x_add (x := (16 : Int32)) (y := i) (a := 16) (b := (i).toInt) rfl rfl (by omega) (by omega)
      refine o_iadd (z := z17) hx hb dX9_toldCaster_39 e15 ?_
      obtain ⟨g19, f18, p20⟩ := (show sA cI 177 (alA) (w 65) from ok 65 (by decide))
      have f21 : w 65 = .inl (cI, 177, .inl g19) := f18
      obtain ⟨v22, e23⟩ : ∃ z : Int32, g19 (z17).toNatClampNeg = z := ⟨_, rfl⟩
      refine o_iald (v := v22) X h 65 0 (by decide) rfl f21 rfl (in_of (by omega) (by omega)) e23 dX9_toldCaster_40 ?_
      exact e_i X h hr hlk dX9_toldCaster_41 ⟨rfl, trivial⟩
    · refine lv_tableIn (tgt := 42) (off := 41) hx hb dX9_toldCaster_1 (by rw [hq]; decide) (by rw [hq]; decide) (by rw [hq]; decide) (by decide) ?_
      refine lv_aload_n hx hb dX9_toldCaster_42 rfl (lv_at hl 0 rfl) ?_
      obtain ⟨x26, x27, t28, t29, t30, t31, t32, t33, f25, h34, h35⟩ := (show sM ad (w 64) from ok 64 (by decide))
      have f36 : w 64 = .inr (7, [.ref (ad 65), .ref (ad 66), .ref (ad 67), .ref (ad 68), .long x26, .long x27, .ref (ad 69), .int t28, .ref (ad 70), .ref (ad 71), .int t29, .int t30, .int t31, .int t32, .int t33, .ref (ad 72), .ref (ad 73)]) := f25
      refine r_get kc9 X h 64 0 (by decide) rfl f36 (by decide) kv_467 rfl dX9_toldCaster_43 ?_
      refine lv_bipush (v := 23) hx hb dX9_toldCaster_46 (by decide) ?_
      refine lv_iload_n hx hb dX9_toldCaster_48 rfl (lv_at hl 1 rfl) ?_
      obtain ⟨z39, e37, t38⟩ := x_add (x := (23 : Int32)) (y := i) (a := 23) (b := (i).toInt) rfl rfl (by omega) (by omega)
      refine o_iadd (z := z39) hx hb dX9_toldCaster_49 e37 ?_
      obtain ⟨g41, f40, p42⟩ := (show sA cI 177 (alA) (w 65) from ok 65 (by decide))
      have f43 : w 65 = .inl (cI, 177, .inl g41) := f40
      obtain ⟨v44, e45⟩ : ∃ z : Int32, g41 (z39).toNatClampNeg = z := ⟨_, rfl⟩
      refine o_iald (v := v44) X h 65 0 (by decide) rfl f43 rfl (in_of (by omega) (by omega)) e45 dX9_toldCaster_50 ?_
      exact e_i X h hr hlk dX9_toldCaster_51 ⟨rfl, trivial⟩
    · refine lv_tableIn (tgt := 52) (off := 51) hx hb dX9_toldCaster_1 (by rw [hq]; decide) (by rw [hq]; decide) (by rw [hq]; decide) (by decide) ?_
      refine lv_aload_n hx hb dX9_toldCaster_52 rfl (lv_at hl 0 rfl) ?_
      obtain ⟨x48, x49, t50, t51, t52, t53, t54, t55, f47, h56, h57⟩ := (show sM ad (w 64) from ok 64 (by decide))
      have f58 : w 64 = .inr (7, [.ref (ad 65), .ref (ad 66), .ref (ad 67), .ref (ad 68), .long x48, .long x49, .ref (ad 69), .int t50, .ref (ad 70), .ref (ad 71), .int t51, .int t52, .int t53, .int t54, .int t55, .ref (ad 72), .ref (ad 73)]) := f47
      refine r_get kc9 X h 64 0 (by decide) rfl f58 (by decide) kv_467 rfl dX9_toldCaster_53 ?_
      refine lv_bipush (v := 30) hx hb dX9_toldCaster_56 (by decide) ?_
      refine lv_iload_n hx hb dX9_toldCaster_58 rfl (lv_at hl 1 rfl) ?_
      obtain ⟨z61, e59, t60⟩ := x_add (x := (30 : Int32)) (y := i) (a := 30) (b := (i).toInt) rfl rfl (by omega) (by omega)
      refine o_iadd (z := z61) hx hb dX9_toldCaster_59 e59 ?_
      obtain ⟨g63, f62, p64⟩ := (show sA cI 177 (alA) (w 65) from ok 65 (by decide))
      have f65 : w 65 = .inl (cI, 177, .inl g63) := f62
      obtain ⟨v66, e67⟩ : ∃ z : Int32, g63 (z61).toNatClampNeg = z := ⟨_, rfl⟩
      refine o_iald (v := v66) X h 65 0 (by decide) rfl f65 rfl (in_of (by omega) (by omega)) e67 dX9_toldCaster_60 ?_
      exact e_i X h hr hlk dX9_toldCaster_61 ⟨rfl, trivial⟩
    · refine lv_tableIn (tgt := 62) (off := 61) hx hb dX9_toldCaster_1 (by rw [hq]; decide) (by rw [hq]; decide) (by rw [hq]; decide) (by decide) ?_
      refine lv_aload_n hx hb dX9_toldCaster_62 rfl (lv_at hl 0 rfl) ?_
      obtain ⟨x70, x71, t72, t73, t74, t75, t76, t77, f69, h78, h79⟩ := (show sM ad (w 64) from ok 64 (by decide))
      have f80 : w 64 = .inr (7, [.ref (ad 65), .ref (ad 66), .ref (ad 67), .ref (ad 68), .long x70, .long x71, .ref (ad 69), .int t72, .ref (ad 70), .ref (ad 71), .int t73, .int t74, .int t75, .int t76, .int t77, .ref (ad 72), .ref (ad 73)]) := f69
      refine r_get kc9 X h 64 0 (by decide) rfl f80 (by decide) kv_467 rfl dX9_toldCaster_63 ?_
      refine lv_bipush (v := 7) hx hb dX9_toldCaster_66 (by decide) ?_
      obtain ⟨g82, f81, p83⟩ := (show sA cI 177 (alA) (w 65) from ok 65 (by decide))
      have f84 : w 65 = .inl (cI, 177, .inl g82) := f81
      obtain ⟨v85, e86⟩ : ∃ z : Int32, g82 7 = z := ⟨_, rfl⟩
      refine o_iald (v := v85) X h 65 0 (by decide) rfl f84 rfl (by unfold vp_in; decide) e86 dX9_toldCaster_68 ?_
      refine lv_iload_n hx hb dX9_toldCaster_69 rfl (lv_at hl 1 rfl) ?_
      refine n_Si (na := 2) (As := [.int v85, .int i]) (rest := []) X hD hN h (c_M_has l G cI cB cZ cO ad w   v85 i  ) ⟨kv_496, kv_497, kv_470, kv_498⟩ ⟨by decide, by decide, by decide⟩ ⟨Nat.le_of_ble_eq_true rfl, Nat.le_of_ble_eq_true rfl⟩ ⟨Nat.zero_le _, Nat.zero_le _⟩ rfl hl.1 rfl (Nat.le_of_ble_eq_true rfl) dX9_toldCaster_70 (fun r88 w89 H locs hp90 h => ?_)
      obtain ⟨rfl, hr91⟩ := hp90
      rcases hr91 with rfl | rfl
      · refine lv_if_eq (tgt := 80) hx hb dX9_toldCaster_73 (by decide) (fun hc => absurd hc (by decide)) (fun _ => ?_)
        refine lv_iconst (v := 1) hx hb dX9_toldCaster_76 (by decide) ?_
        refine lv_goto (tgt := 81) hx hb dX9_toldCaster_77 (by decide) ?_
        exact e_i X h hr hlk dX9_toldCaster_81 ⟨rfl, trivial⟩
      · refine lv_if_eq (tgt := 80) hx hb dX9_toldCaster_73 (by decide) (fun _ => ?_) (fun hc => absurd (by decide) hc)
        refine lv_iconst (v := 0) hx hb dX9_toldCaster_80 (by decide) ?_
        exact e_i X h hr hlk dX9_toldCaster_81 ⟨rfl, trivial⟩
  · refine lv_tableOut (tgt := 82) hx hb dX9_toldCaster_1 (by omega) (by decide) ?_
    refine lv_aload_n hx hb dX9_toldCaster_82 rfl (lv_at hl 0 rfl) ?_
    obtain ⟨x93, x94, t95, t96, t97, t98, t99, t100, f92, h101, h102⟩ := (show sM ad (w 64) from ok 64 (by decide))
    have f103 : w 64 = .inr (7, [.ref (ad 65), .ref (ad 66), .ref (ad 67), .ref (ad 68), .long x93, .long x94, .ref (ad 69), .int t95, .ref (ad 70), .ref (ad 71), .int t96, .int t97, .int t98, .int t99, .int t100, .ref (ad 72), .ref (ad 73)]) := f92
    refine r_get kc9 X h 64 0 (by decide) rfl f103 (by decide) kv_467 rfl dX9_toldCaster_83 ?_
    refine lv_iload_n hx hb dX9_toldCaster_86 rfl (lv_at hl 1 rfl) ?_
    refine lv_iconst (v := 0) hx hb dX9_toldCaster_87 (by decide) ?_
    refine n_Si (na := 3) (As := [.ref (ad 65), .int i, .int 0]) (rest := []) X hD hN h (c_M_givesOf l G cI cB cZ cO ad w 65 (Or.inl rfl) ok i (0 : Int32) (by omega) (by omega) ) ⟨kv_483, kv_484, kv_470, kv_485⟩ ⟨by decide, by decide, by decide⟩ ⟨Nat.le_of_ble_eq_true rfl, Nat.le_of_ble_eq_true rfl⟩ ⟨Nat.zero_le _, Nat.zero_le _⟩ rfl hl.1 rfl (Nat.le_of_ble_eq_true rfl) dX9_toldCaster_88 (fun r104 w105 H locs hp106 h => ?_)
    obtain ⟨rfl, hr107⟩ := hp106
    exact e_i X h hr hlk dX9_toldCaster_91 ⟨rfl, trivial⟩

set_option maxHeartbeats 4000000 in
set_option maxRecDepth 100000 in
theorem c_M_toldJar (l : Launch) (G : va_G) (cI cB cZ cO : ClassId) (ad : Nat → Nat) (w : Nat → va_E)  (ok : OK cI cB cZ cO ad w) (j : Int32) (u : Int32) (hl_j : 0 ≤ j.toInt) (hh_j : j.toInt ≤ 3)  : NI l G (tyq cI cB cZ cO) yX9_toldJar cX9_toldJar 3 (some .int) 2 46 74 ad w [.ref (ad 64), .int j, .int u] (fun r w1 => w = w1 ∧ True) := by
  refine nk_i (own := "NoonShadeModel") rfl (by decide) (Nat.le_of_ble_eq_true rfl) ?_
  intro p e s m below meth c ls X hD hN hr hlk h hl
  have hx := X.1.1
  have hb := X.1.2.1
  have hown := X.1.2.2.2.1
  have hts := X.1.2.2.2.2
  have hl : lv_has ls 3 [(0, .ref (ad 64)), (1, .int j), (2, .int u)] := hl
  refine lv_iload_n hx hb dX9_toldJar_0 rfl (lv_at hl 2 rfl) ?_
  by_cases hs1 : 0 ≤ (u).toInt ∧ (u).toInt ≤ 2
  · have ha2 : u = 0 ∨ u = 1 ∨ u = 2 := by simp only [fa_eq]; have := hs1; simp only [show ((0 : Int32).toInt = 0) from rfl, show ((1 : Int32).toInt = 1) from rfl, show ((2 : Int32).toInt = 2) from rfl]; omega
    rcases ha2 with hq | hq | hq
    · refine lv_tableIn (tgt := 28) (off := 27) hx hb dX9_toldJar_1 (by rw [hq]; decide) (by rw [hq]; decide) (by rw [hq]; decide) (by decide) ?_
      refine lv_aload_n hx hb dX9_toldJar_28 rfl (lv_at hl 0 rfl) ?_
      obtain ⟨x4, x5, t6, t7, t8, t9, t10, t11, f3, h12, h13⟩ := (show sM ad (w 64) from ok 64 (by decide))
      have f14 : w 64 = .inr (7, [.ref (ad 65), .ref (ad 66), .ref (ad 67), .ref (ad 68), .long x4, .long x5, .ref (ad 69), .int t6, .ref (ad 70), .ref (ad 71), .int t7, .int t8, .int t9, .int t10, .int t11, .ref (ad 72), .ref (ad 73)]) := f3
      refine r_get kc9 X h 64 0 (by decide) rfl f14 (by decide) kv_467 rfl dX9_toldJar_29 ?_
      refine lv_bipush (v := 37) hx hb dX9_toldJar_32 (by decide) ?_
      refine lv_iload_n hx hb dX9_toldJar_34 rfl (lv_at hl 1 rfl) ?_
      obtain ⟨z17, e15, t16⟩ := x_add (x := (37 : Int32)) (y := j) (a := 37) (b := (j).toInt) rfl rfl (by omega) (by omega)
      refine o_iadd (z := z17) hx hb dX9_toldJar_35 e15 ?_
      obtain ⟨g19, f18, p20⟩ := (show sA cI 177 (alA) (w 65) from ok 65 (by decide))
      have f21 : w 65 = .inl (cI, 177, .inl g19) := f18
      obtain ⟨v22, e23⟩ : ∃ z : Int32, g19 (z17).toNatClampNeg = z := ⟨_, rfl⟩
      refine o_iald (v := v22) X h 65 0 (by decide) rfl f21 rfl (in_of (by omega) (by omega)) e23 dX9_toldJar_36 ?_
      exact e_i X h hr hlk dX9_toldJar_37 ⟨rfl, trivial⟩
    · refine lv_tableIn (tgt := 38) (off := 37) hx hb dX9_toldJar_1 (by rw [hq]; decide) (by rw [hq]; decide) (by rw [hq]; decide) (by decide) ?_
      refine lv_aload_n hx hb dX9_toldJar_38 rfl (lv_at hl 0 rfl) ?_
      obtain ⟨x26, x27, t28, t29, t30, t31, t32, t33, f25, h34, h35⟩ := (show sM ad (w 64) from ok 64 (by decide))
      have f36 : w 64 = .inr (7, [.ref (ad 65), .ref (ad 66), .ref (ad 67), .ref (ad 68), .long x26, .long x27, .ref (ad 69), .int t28, .ref (ad 70), .ref (ad 71), .int t29, .int t30, .int t31, .int t32, .int t33, .ref (ad 72), .ref (ad 73)]) := f25
      refine r_get kc9 X h 64 0 (by decide) rfl f36 (by decide) kv_467 rfl dX9_toldJar_39 ?_
      refine lv_bipush (v := 8) hx hb dX9_toldJar_42 (by decide) ?_
      refine lv_iload_n hx hb dX9_toldJar_44 rfl (lv_at hl 1 rfl) ?_
      obtain ⟨z39, e37, t38⟩ := x_add (x := (8 : Int32)) (y := j) (a := 8) (b := (j).toInt) rfl rfl (by omega) (by omega)
      refine o_iadd (z := z39) hx hb dX9_toldJar_45 e37 ?_
      obtain ⟨g41, f40, p42⟩ := (show sA cI 177 (alA) (w 65) from ok 65 (by decide))
      have f43 : w 65 = .inl (cI, 177, .inl g41) := f40
      obtain ⟨v44, e45⟩ : ∃ z : Int32, g41 (z39).toNatClampNeg = z := ⟨_, rfl⟩
      refine o_iald (v := v44) X h 65 0 (by decide) rfl f43 rfl (in_of (by omega) (by omega)) e45 dX9_toldJar_46 ?_
      exact e_i X h hr hlk dX9_toldJar_47 ⟨rfl, trivial⟩
    · refine lv_tableIn (tgt := 48) (off := 47) hx hb dX9_toldJar_1 (by rw [hq]; decide) (by rw [hq]; decide) (by rw [hq]; decide) (by decide) ?_
      refine lv_aload_n hx hb dX9_toldJar_48 rfl (lv_at hl 0 rfl) ?_
      obtain ⟨x48, x49, t50, t51, t52, t53, t54, t55, f47, h56, h57⟩ := (show sM ad (w 64) from ok 64 (by decide))
      have f58 : w 64 = .inr (7, [.ref (ad 65), .ref (ad 66), .ref (ad 67), .ref (ad 68), .long x48, .long x49, .ref (ad 69), .int t50, .ref (ad 70), .ref (ad 71), .int t51, .int t52, .int t53, .int t54, .int t55, .ref (ad 72), .ref (ad 73)]) := f47
      refine r_get kc9 X h 64 0 (by decide) rfl f58 (by decide) kv_467 rfl dX9_toldJar_49 ?_
      refine lv_bipush (v := 8) hx hb dX9_toldJar_52 (by decide) ?_
      refine lv_iload_n hx hb dX9_toldJar_54 rfl (lv_at hl 1 rfl) ?_
      obtain ⟨z61, e59, t60⟩ := x_add (x := (8 : Int32)) (y := j) (a := 8) (b := (j).toInt) rfl rfl (by omega) (by omega)
      refine o_iadd (z := z61) hx hb dX9_toldJar_55 e59 ?_
      obtain ⟨g63, f62, p64⟩ := (show sA cI 177 (alA) (w 65) from ok 65 (by decide))
      have f65 : w 65 = .inl (cI, 177, .inl g63) := f62
      obtain ⟨v66, e67⟩ : ∃ z : Int32, g63 (z61).toNatClampNeg = z := ⟨_, rfl⟩
      refine o_iald (v := v66) X h 65 0 (by decide) rfl f65 rfl (in_of (by omega) (by omega)) e67 dX9_toldJar_56 ?_
      refine lv_if_ne (tgt := 64) hx hb dX9_toldJar_57 (by decide) (fun hc69 => ?_) (fun hc69 => ?_)
      · have hc69 : ¬ (v66).toInt = 0 := i_ne hc69 rfl rfl
        refine lv_aload_n hx hb dX9_toldJar_64 rfl (lv_at hl 0 rfl) ?_
        refine r_get kc9 X h 64 0 (by decide) rfl f58 (by decide) kv_467 rfl dX9_toldJar_65 ?_
        refine lv_bipush (v := 12) hx hb dX9_toldJar_68 (by decide) ?_
        refine lv_iload_n hx hb dX9_toldJar_70 rfl (lv_at hl 1 rfl) ?_
        obtain ⟨z72, e70, t71⟩ := x_add (x := (12 : Int32)) (y := j) (a := 12) (b := (j).toInt) rfl rfl (by omega) (by omega)
        refine o_iadd (z := z72) hx hb dX9_toldJar_71 e70 ?_
        obtain ⟨v73, e74⟩ : ∃ z : Int32, g63 (z72).toNatClampNeg = z := ⟨_, rfl⟩
        refine o_iald (v := v73) X h 65 0 (by decide) rfl f65 rfl (in_of (by omega) (by omega)) e74 dX9_toldJar_72 ?_
        exact e_i X h hr hlk dX9_toldJar_73 ⟨rfl, trivial⟩
      · have hc69 : (v66).toInt = 0 := i_eq hc69 rfl rfl
        refine lv_iconst (v := (-1)) hx hb dX9_toldJar_60 (by decide) ?_
        refine lv_goto (tgt := 73) hx hb dX9_toldJar_61 (by decide) ?_
        exact e_i X h hr hlk dX9_toldJar_73 ⟨rfl, trivial⟩
  · refine lv_tableOut (tgt := 74) hx hb dX9_toldJar_1 (by omega) (by decide) ?_
    refine lv_aload_n hx hb dX9_toldJar_74 rfl (lv_at hl 0 rfl) ?_
    obtain ⟨x77, x78, t79, t80, t81, t82, t83, t84, f76, h85, h86⟩ := (show sM ad (w 64) from ok 64 (by decide))
    have f87 : w 64 = .inr (7, [.ref (ad 65), .ref (ad 66), .ref (ad 67), .ref (ad 68), .long x77, .long x78, .ref (ad 69), .int t79, .ref (ad 70), .ref (ad 71), .int t80, .int t81, .int t82, .int t83, .int t84, .ref (ad 72), .ref (ad 73)]) := f76
    refine r_get kc9 X h 64 0 (by decide) rfl f87 (by decide) kv_467 rfl dX9_toldJar_75 ?_
    refine lv_iload_n hx hb dX9_toldJar_78 rfl (lv_at hl 1 rfl) ?_
    refine n_Si (na := 2) (As := [.ref (ad 65), .int j]) (rest := []) X hD hN h (c_M_losesOf l G cI cB cZ cO ad w 65 (Or.inl rfl) ok j (by omega) (by omega) ) ⟨kv_489, kv_490, kv_470, kv_491⟩ ⟨by decide, by decide, by decide⟩ ⟨Nat.le_of_ble_eq_true rfl, Nat.le_of_ble_eq_true rfl⟩ ⟨Nat.zero_le _, Nat.zero_le _⟩ rfl hl.1 rfl (Nat.le_of_ble_eq_true rfl) dX9_toldJar_79 (fun r88 w89 H locs hp90 h => ?_)
    obtain ⟨rfl, hr91⟩ := hp90
    exact e_i X h hr hlk dX9_toldJar_82 ⟨rfl, trivial⟩

set_option maxHeartbeats 4000000 in
set_option maxRecDepth 100000 in
theorem c_M_power0 (l : Launch) (G : va_G) (cI cB cZ cO : ClassId) (ad : Nat → Nat) (w : Nat → va_E)   (x : Int32) (hl_x : 1 ≤ x.toInt) (hh_x : x.toInt ≤ 10)  : NI l G (tyq cI cB cZ cO) yX9_power cX9_power 4 (some .int) 0 0 74 ad w [.int x, .int 0] (fun r w1 => w = w1 ∧ 1 ≤ r.toInt ∧ r.toInt ≤ 10000) := by
  refine nk_i (own := "NoonShadeModel") rfl (by decide) (Nat.le_of_ble_eq_true rfl) ?_
  intro p e s m below meth c ls X hD hN hr hlk h hl
  have hx := X.1.1
  have hb := X.1.2.1
  have hown := X.1.2.2.2.1
  have hts := X.1.2.2.2.2
  have hl : lv_has ls 4 [(0, .int x), (1, .int 0)] := hl
  refine lv_iconst (v := 1) hx hb dX9_power_0 (by decide) ?_
  refine lv_istore_n (lv' := [(2, .int 1), (0, .int x), (1, .int 0)]) hx hb dX9_power_1 rfl hl (by decide) rfl (fun ls hl => ?_)
  refine lv_iconst (v := 0) hx hb dX9_power_2 (by decide) ?_
  refine lv_istore_n (lv' := [(3, .int 0), (2, .int 1), (0, .int x), (1, .int 0)]) hx hb dX9_power_3 rfl hl (by decide) rfl (fun ls hl => ?_)
  refine lv_iload_n hx hb dX9_power_4 rfl (lv_at hl 0 rfl) ?_
  refine lv_iload_n hx hb dX9_power_5 rfl (lv_at hl 3 rfl) ?_
  refine lv_icmp_ge (tgt := 19) hx hb dX9_power_6 (by decide) (fun _ => ?_) (fun hc => absurd (by decide) hc)
  refine lv_iload_n hx hb dX9_power_19 rfl (lv_at hl 1 rfl) ?_
  exact e_i X h hr hlk dX9_power_20 ⟨rfl, ⟨by decide, by decide⟩⟩

set_option maxHeartbeats 4000000 in
set_option maxRecDepth 100000 in
theorem c_M_power1 (l : Launch) (G : va_G) (cI cB cZ cO : ClassId) (ad : Nat → Nat) (w : Nat → va_E)   (x : Int32) (hl_x : 1 ≤ x.toInt) (hh_x : x.toInt ≤ 10)  : NI l G (tyq cI cB cZ cO) yX9_power cX9_power 4 (some .int) 0 0 74 ad w [.int x, .int 1] (fun r w1 => w = w1 ∧ 1 ≤ r.toInt ∧ r.toInt ≤ 10000) := by
  refine nk_i (own := "NoonShadeModel") rfl (by decide) (Nat.le_of_ble_eq_true rfl) ?_
  intro p e s m below meth c ls X hD hN hr hlk h hl
  have hx := X.1.1
  have hb := X.1.2.1
  have hown := X.1.2.2.2.1
  have hts := X.1.2.2.2.2
  have hl : lv_has ls 4 [(0, .int x), (1, .int 1)] := hl
  refine lv_iconst (v := 1) hx hb dX9_power_0 (by decide) ?_
  refine lv_istore_n (lv' := [(2, .int 1), (0, .int x), (1, .int 1)]) hx hb dX9_power_1 rfl hl (by decide) rfl (fun ls hl => ?_)
  refine lv_iconst (v := 0) hx hb dX9_power_2 (by decide) ?_
  refine lv_istore_n (lv' := [(3, .int 0), (2, .int 1), (0, .int x), (1, .int 1)]) hx hb dX9_power_3 rfl hl (by decide) rfl (fun ls hl => ?_)
  refine lv_iload_n hx hb dX9_power_4 rfl (lv_at hl 0 rfl) ?_
  refine lv_iload_n hx hb dX9_power_5 rfl (lv_at hl 3 rfl) ?_
  refine lv_icmp_ge (tgt := 19) hx hb dX9_power_6 (by decide) (fun hc => absurd hc (by decide)) (fun _ => ?_)
  refine lv_iload_n hx hb dX9_power_9 rfl (lv_at hl 1 rfl) ?_
  refine lv_iload_n hx hb dX9_power_10 rfl (lv_at hl 2 rfl) ?_
  obtain ⟨z3, e1, t2⟩ := x_mul (x := (1 : Int32)) (y := x) (a := 1) (b := (x).toInt) rfl rfl (by omega) (by omega)
  refine o_imul (z := z3) hx hb dX9_power_11 e1 ?_
  refine lv_istore_n (lv' := [(2, .int z3), (3, .int 0), (0, .int x), (1, .int 1)]) hx hb dX9_power_12 rfl hl (by decide) rfl (fun ls hl => ?_)
  refine lv_iinc (v := 1) (lv' := [(3, .int 1), (2, .int z3), (0, .int x), (1, .int 1)]) hx hb dX9_power_13 hl (k := 1) rfl rfl (by decide) rfl (fun ls hl => ?_)
  refine lv_goto (tgt := 4) hx hb dX9_power_16 (by decide) ?_
  refine lv_iload_n hx hb dX9_power_4 rfl (lv_at hl 0 rfl) ?_
  refine lv_iload_n hx hb dX9_power_5 rfl (lv_at hl 3 rfl) ?_
  refine lv_icmp_ge (tgt := 19) hx hb dX9_power_6 (by decide) (fun _ => ?_) (fun hc => absurd (by decide) hc)
  refine lv_iload_n hx hb dX9_power_19 rfl (lv_at hl 1 rfl) ?_
  exact e_i X h hr hlk dX9_power_20 ⟨rfl, ⟨by omega, by omega⟩⟩

set_option maxHeartbeats 4000000 in
set_option maxRecDepth 100000 in
theorem c_M_power2 (l : Launch) (G : va_G) (cI cB cZ cO : ClassId) (ad : Nat → Nat) (w : Nat → va_E)   (x : Int32) (hl_x : 1 ≤ x.toInt) (hh_x : x.toInt ≤ 10)  : NI l G (tyq cI cB cZ cO) yX9_power cX9_power 4 (some .int) 0 0 74 ad w [.int x, .int 2] (fun r w1 => w = w1 ∧ 1 ≤ r.toInt ∧ r.toInt ≤ 10000) := by
  refine nk_i (own := "NoonShadeModel") rfl (by decide) (Nat.le_of_ble_eq_true rfl) ?_
  intro p e s m below meth c ls X hD hN hr hlk h hl
  have hx := X.1.1
  have hb := X.1.2.1
  have hown := X.1.2.2.2.1
  have hts := X.1.2.2.2.2
  have hl : lv_has ls 4 [(0, .int x), (1, .int 2)] := hl
  refine lv_iconst (v := 1) hx hb dX9_power_0 (by decide) ?_
  refine lv_istore_n (lv' := [(2, .int 1), (0, .int x), (1, .int 2)]) hx hb dX9_power_1 rfl hl (by decide) rfl (fun ls hl => ?_)
  refine lv_iconst (v := 0) hx hb dX9_power_2 (by decide) ?_
  refine lv_istore_n (lv' := [(3, .int 0), (2, .int 1), (0, .int x), (1, .int 2)]) hx hb dX9_power_3 rfl hl (by decide) rfl (fun ls hl => ?_)
  refine lv_iload_n hx hb dX9_power_4 rfl (lv_at hl 0 rfl) ?_
  refine lv_iload_n hx hb dX9_power_5 rfl (lv_at hl 3 rfl) ?_
  refine lv_icmp_ge (tgt := 19) hx hb dX9_power_6 (by decide) (fun hc => absurd hc (by decide)) (fun _ => ?_)
  refine lv_iload_n hx hb dX9_power_9 rfl (lv_at hl 1 rfl) ?_
  refine lv_iload_n hx hb dX9_power_10 rfl (lv_at hl 2 rfl) ?_
  obtain ⟨z3, e1, t2⟩ := x_mul (x := (1 : Int32)) (y := x) (a := 1) (b := (x).toInt) rfl rfl (by omega) (by omega)
  refine o_imul (z := z3) hx hb dX9_power_11 e1 ?_
  refine lv_istore_n (lv' := [(2, .int z3), (3, .int 0), (0, .int x), (1, .int 2)]) hx hb dX9_power_12 rfl hl (by decide) rfl (fun ls hl => ?_)
  refine lv_iinc (v := 1) (lv' := [(3, .int 1), (2, .int z3), (0, .int x), (1, .int 2)]) hx hb dX9_power_13 hl (k := 1) rfl rfl (by decide) rfl (fun ls hl => ?_)
  refine lv_goto (tgt := 4) hx hb dX9_power_16 (by decide) ?_
  refine lv_iload_n hx hb dX9_power_4 rfl (lv_at hl 0 rfl) ?_
  refine lv_iload_n hx hb dX9_power_5 rfl (lv_at hl 3 rfl) ?_
  refine lv_icmp_ge (tgt := 19) hx hb dX9_power_6 (by decide) (fun hc => absurd hc (by decide)) (fun _ => ?_)
  refine lv_iload_n hx hb dX9_power_9 rfl (lv_at hl 1 rfl) ?_
  refine lv_iload_n hx hb dX9_power_10 rfl (lv_at hl 2 rfl) ?_
  obtain ⟨z6, e4, t5, t5b⟩ := x_mulp (x := z3) (y := x) (p := 10) (q := 10) (by omega) (by omega) (by omega) (by omega) (by decide)
  refine o_imul (z := z6) hx hb dX9_power_11 e4 ?_
  refine lv_istore_n (lv' := [(2, .int z6), (3, .int 1), (0, .int x), (1, .int 2)]) hx hb dX9_power_12 rfl hl (by decide) rfl (fun ls hl => ?_)
  refine lv_iinc (v := 2) (lv' := [(3, .int 2), (2, .int z6), (0, .int x), (1, .int 2)]) hx hb dX9_power_13 hl (k := 1) rfl rfl (by decide) rfl (fun ls hl => ?_)
  refine lv_goto (tgt := 4) hx hb dX9_power_16 (by decide) ?_
  refine lv_iload_n hx hb dX9_power_4 rfl (lv_at hl 0 rfl) ?_
  refine lv_iload_n hx hb dX9_power_5 rfl (lv_at hl 3 rfl) ?_
  refine lv_icmp_ge (tgt := 19) hx hb dX9_power_6 (by decide) (fun _ => ?_) (fun hc => absurd (by decide) hc)
  refine lv_iload_n hx hb dX9_power_19 rfl (lv_at hl 1 rfl) ?_
  exact e_i X h hr hlk dX9_power_20 ⟨rfl, ⟨by omega, by omega⟩⟩

set_option maxHeartbeats 4000000 in
set_option maxRecDepth 100000 in
theorem c_M_power3 (l : Launch) (G : va_G) (cI cB cZ cO : ClassId) (ad : Nat → Nat) (w : Nat → va_E)   (x : Int32) (hl_x : 1 ≤ x.toInt) (hh_x : x.toInt ≤ 10)  : NI l G (tyq cI cB cZ cO) yX9_power cX9_power 4 (some .int) 0 0 74 ad w [.int x, .int 3] (fun r w1 => w = w1 ∧ 1 ≤ r.toInt ∧ r.toInt ≤ 10000) := by
  refine nk_i (own := "NoonShadeModel") rfl (by decide) (Nat.le_of_ble_eq_true rfl) ?_
  intro p e s m below meth c ls X hD hN hr hlk h hl
  have hx := X.1.1
  have hb := X.1.2.1
  have hown := X.1.2.2.2.1
  have hts := X.1.2.2.2.2
  have hl : lv_has ls 4 [(0, .int x), (1, .int 3)] := hl
  refine lv_iconst (v := 1) hx hb dX9_power_0 (by decide) ?_
  refine lv_istore_n (lv' := [(2, .int 1), (0, .int x), (1, .int 3)]) hx hb dX9_power_1 rfl hl (by decide) rfl (fun ls hl => ?_)
  refine lv_iconst (v := 0) hx hb dX9_power_2 (by decide) ?_
  refine lv_istore_n (lv' := [(3, .int 0), (2, .int 1), (0, .int x), (1, .int 3)]) hx hb dX9_power_3 rfl hl (by decide) rfl (fun ls hl => ?_)
  refine lv_iload_n hx hb dX9_power_4 rfl (lv_at hl 0 rfl) ?_
  refine lv_iload_n hx hb dX9_power_5 rfl (lv_at hl 3 rfl) ?_
  refine lv_icmp_ge (tgt := 19) hx hb dX9_power_6 (by decide) (fun hc => absurd hc (by decide)) (fun _ => ?_)
  refine lv_iload_n hx hb dX9_power_9 rfl (lv_at hl 1 rfl) ?_
  refine lv_iload_n hx hb dX9_power_10 rfl (lv_at hl 2 rfl) ?_
  obtain ⟨z3, e1, t2⟩ := x_mul (x := (1 : Int32)) (y := x) (a := 1) (b := (x).toInt) rfl rfl (by omega) (by omega)
  refine o_imul (z := z3) hx hb dX9_power_11 e1 ?_
  refine lv_istore_n (lv' := [(2, .int z3), (3, .int 0), (0, .int x), (1, .int 3)]) hx hb dX9_power_12 rfl hl (by decide) rfl (fun ls hl => ?_)
  refine lv_iinc (v := 1) (lv' := [(3, .int 1), (2, .int z3), (0, .int x), (1, .int 3)]) hx hb dX9_power_13 hl (k := 1) rfl rfl (by decide) rfl (fun ls hl => ?_)
  refine lv_goto (tgt := 4) hx hb dX9_power_16 (by decide) ?_
  refine lv_iload_n hx hb dX9_power_4 rfl (lv_at hl 0 rfl) ?_
  refine lv_iload_n hx hb dX9_power_5 rfl (lv_at hl 3 rfl) ?_
  refine lv_icmp_ge (tgt := 19) hx hb dX9_power_6 (by decide) (fun hc => absurd hc (by decide)) (fun _ => ?_)
  refine lv_iload_n hx hb dX9_power_9 rfl (lv_at hl 1 rfl) ?_
  refine lv_iload_n hx hb dX9_power_10 rfl (lv_at hl 2 rfl) ?_
  obtain ⟨z6, e4, t5, t5b⟩ := x_mulp (x := z3) (y := x) (p := 10) (q := 10) (by omega) (by omega) (by omega) (by omega) (by decide)
  refine o_imul (z := z6) hx hb dX9_power_11 e4 ?_
  refine lv_istore_n (lv' := [(2, .int z6), (3, .int 1), (0, .int x), (1, .int 3)]) hx hb dX9_power_12 rfl hl (by decide) rfl (fun ls hl => ?_)
  refine lv_iinc (v := 2) (lv' := [(3, .int 2), (2, .int z6), (0, .int x), (1, .int 3)]) hx hb dX9_power_13 hl (k := 1) rfl rfl (by decide) rfl (fun ls hl => ?_)
  refine lv_goto (tgt := 4) hx hb dX9_power_16 (by decide) ?_
  refine lv_iload_n hx hb dX9_power_4 rfl (lv_at hl 0 rfl) ?_
  refine lv_iload_n hx hb dX9_power_5 rfl (lv_at hl 3 rfl) ?_
  refine lv_icmp_ge (tgt := 19) hx hb dX9_power_6 (by decide) (fun hc => absurd hc (by decide)) (fun _ => ?_)
  refine lv_iload_n hx hb dX9_power_9 rfl (lv_at hl 1 rfl) ?_
  refine lv_iload_n hx hb dX9_power_10 rfl (lv_at hl 2 rfl) ?_
  obtain ⟨z9, e7, t8, t8b⟩ := x_mulp (x := z6) (y := x) (p := 100) (q := 10) (by omega) (by omega) (by omega) (by omega) (by decide)
  refine o_imul (z := z9) hx hb dX9_power_11 e7 ?_
  refine lv_istore_n (lv' := [(2, .int z9), (3, .int 2), (0, .int x), (1, .int 3)]) hx hb dX9_power_12 rfl hl (by decide) rfl (fun ls hl => ?_)
  refine lv_iinc (v := 3) (lv' := [(3, .int 3), (2, .int z9), (0, .int x), (1, .int 3)]) hx hb dX9_power_13 hl (k := 1) rfl rfl (by decide) rfl (fun ls hl => ?_)
  refine lv_goto (tgt := 4) hx hb dX9_power_16 (by decide) ?_
  refine lv_iload_n hx hb dX9_power_4 rfl (lv_at hl 0 rfl) ?_
  refine lv_iload_n hx hb dX9_power_5 rfl (lv_at hl 3 rfl) ?_
  refine lv_icmp_ge (tgt := 19) hx hb dX9_power_6 (by decide) (fun _ => ?_) (fun hc => absurd (by decide) hc)
  refine lv_iload_n hx hb dX9_power_19 rfl (lv_at hl 1 rfl) ?_
  exact e_i X h hr hlk dX9_power_20 ⟨rfl, ⟨by omega, by omega⟩⟩

set_option maxHeartbeats 4000000 in
set_option maxRecDepth 100000 in
theorem c_M_power4 (l : Launch) (G : va_G) (cI cB cZ cO : ClassId) (ad : Nat → Nat) (w : Nat → va_E)   (x : Int32) (hl_x : 1 ≤ x.toInt) (hh_x : x.toInt ≤ 10)  : NI l G (tyq cI cB cZ cO) yX9_power cX9_power 4 (some .int) 0 0 74 ad w [.int x, .int 4] (fun r w1 => w = w1 ∧ 1 ≤ r.toInt ∧ r.toInt ≤ 10000) := by
  refine nk_i (own := "NoonShadeModel") rfl (by decide) (Nat.le_of_ble_eq_true rfl) ?_
  intro p e s m below meth c ls X hD hN hr hlk h hl
  have hx := X.1.1
  have hb := X.1.2.1
  have hown := X.1.2.2.2.1
  have hts := X.1.2.2.2.2
  have hl : lv_has ls 4 [(0, .int x), (1, .int 4)] := hl
  refine lv_iconst (v := 1) hx hb dX9_power_0 (by decide) ?_
  refine lv_istore_n (lv' := [(2, .int 1), (0, .int x), (1, .int 4)]) hx hb dX9_power_1 rfl hl (by decide) rfl (fun ls hl => ?_)
  refine lv_iconst (v := 0) hx hb dX9_power_2 (by decide) ?_
  refine lv_istore_n (lv' := [(3, .int 0), (2, .int 1), (0, .int x), (1, .int 4)]) hx hb dX9_power_3 rfl hl (by decide) rfl (fun ls hl => ?_)
  refine lv_iload_n hx hb dX9_power_4 rfl (lv_at hl 0 rfl) ?_
  refine lv_iload_n hx hb dX9_power_5 rfl (lv_at hl 3 rfl) ?_
  refine lv_icmp_ge (tgt := 19) hx hb dX9_power_6 (by decide) (fun hc => absurd hc (by decide)) (fun _ => ?_)
  refine lv_iload_n hx hb dX9_power_9 rfl (lv_at hl 1 rfl) ?_
  refine lv_iload_n hx hb dX9_power_10 rfl (lv_at hl 2 rfl) ?_
  obtain ⟨z3, e1, t2⟩ := x_mul (x := (1 : Int32)) (y := x) (a := 1) (b := (x).toInt) rfl rfl (by omega) (by omega)
  refine o_imul (z := z3) hx hb dX9_power_11 e1 ?_
  refine lv_istore_n (lv' := [(2, .int z3), (3, .int 0), (0, .int x), (1, .int 4)]) hx hb dX9_power_12 rfl hl (by decide) rfl (fun ls hl => ?_)
  refine lv_iinc (v := 1) (lv' := [(3, .int 1), (2, .int z3), (0, .int x), (1, .int 4)]) hx hb dX9_power_13 hl (k := 1) rfl rfl (by decide) rfl (fun ls hl => ?_)
  refine lv_goto (tgt := 4) hx hb dX9_power_16 (by decide) ?_
  refine lv_iload_n hx hb dX9_power_4 rfl (lv_at hl 0 rfl) ?_
  refine lv_iload_n hx hb dX9_power_5 rfl (lv_at hl 3 rfl) ?_
  refine lv_icmp_ge (tgt := 19) hx hb dX9_power_6 (by decide) (fun hc => absurd hc (by decide)) (fun _ => ?_)
  refine lv_iload_n hx hb dX9_power_9 rfl (lv_at hl 1 rfl) ?_
  refine lv_iload_n hx hb dX9_power_10 rfl (lv_at hl 2 rfl) ?_
  obtain ⟨z6, e4, t5, t5b⟩ := x_mulp (x := z3) (y := x) (p := 10) (q := 10) (by omega) (by omega) (by omega) (by omega) (by decide)
  refine o_imul (z := z6) hx hb dX9_power_11 e4 ?_
  refine lv_istore_n (lv' := [(2, .int z6), (3, .int 1), (0, .int x), (1, .int 4)]) hx hb dX9_power_12 rfl hl (by decide) rfl (fun ls hl => ?_)
  refine lv_iinc (v := 2) (lv' := [(3, .int 2), (2, .int z6), (0, .int x), (1, .int 4)]) hx hb dX9_power_13 hl (k := 1) rfl rfl (by decide) rfl (fun ls hl => ?_)
  refine lv_goto (tgt := 4) hx hb dX9_power_16 (by decide) ?_
  refine lv_iload_n hx hb dX9_power_4 rfl (lv_at hl 0 rfl) ?_
  refine lv_iload_n hx hb dX9_power_5 rfl (lv_at hl 3 rfl) ?_
  refine lv_icmp_ge (tgt := 19) hx hb dX9_power_6 (by decide) (fun hc => absurd hc (by decide)) (fun _ => ?_)
  refine lv_iload_n hx hb dX9_power_9 rfl (lv_at hl 1 rfl) ?_
  refine lv_iload_n hx hb dX9_power_10 rfl (lv_at hl 2 rfl) ?_
  obtain ⟨z9, e7, t8, t8b⟩ := x_mulp (x := z6) (y := x) (p := 100) (q := 10) (by omega) (by omega) (by omega) (by omega) (by decide)
  refine o_imul (z := z9) hx hb dX9_power_11 e7 ?_
  refine lv_istore_n (lv' := [(2, .int z9), (3, .int 2), (0, .int x), (1, .int 4)]) hx hb dX9_power_12 rfl hl (by decide) rfl (fun ls hl => ?_)
  refine lv_iinc (v := 3) (lv' := [(3, .int 3), (2, .int z9), (0, .int x), (1, .int 4)]) hx hb dX9_power_13 hl (k := 1) rfl rfl (by decide) rfl (fun ls hl => ?_)
  refine lv_goto (tgt := 4) hx hb dX9_power_16 (by decide) ?_
  refine lv_iload_n hx hb dX9_power_4 rfl (lv_at hl 0 rfl) ?_
  refine lv_iload_n hx hb dX9_power_5 rfl (lv_at hl 3 rfl) ?_
  refine lv_icmp_ge (tgt := 19) hx hb dX9_power_6 (by decide) (fun hc => absurd hc (by decide)) (fun _ => ?_)
  refine lv_iload_n hx hb dX9_power_9 rfl (lv_at hl 1 rfl) ?_
  refine lv_iload_n hx hb dX9_power_10 rfl (lv_at hl 2 rfl) ?_
  obtain ⟨z12, e10, t11, t11b⟩ := x_mulp (x := z9) (y := x) (p := 1000) (q := 10) (by omega) (by omega) (by omega) (by omega) (by decide)
  refine o_imul (z := z12) hx hb dX9_power_11 e10 ?_
  refine lv_istore_n (lv' := [(2, .int z12), (3, .int 3), (0, .int x), (1, .int 4)]) hx hb dX9_power_12 rfl hl (by decide) rfl (fun ls hl => ?_)
  refine lv_iinc (v := 4) (lv' := [(3, .int 4), (2, .int z12), (0, .int x), (1, .int 4)]) hx hb dX9_power_13 hl (k := 1) rfl rfl (by decide) rfl (fun ls hl => ?_)
  refine lv_goto (tgt := 4) hx hb dX9_power_16 (by decide) ?_
  refine lv_iload_n hx hb dX9_power_4 rfl (lv_at hl 0 rfl) ?_
  refine lv_iload_n hx hb dX9_power_5 rfl (lv_at hl 3 rfl) ?_
  refine lv_icmp_ge (tgt := 19) hx hb dX9_power_6 (by decide) (fun _ => ?_) (fun hc => absurd (by decide) hc)
  refine lv_iload_n hx hb dX9_power_19 rfl (lv_at hl 1 rfl) ?_
  exact e_i X h hr hlk dX9_power_20 ⟨rfl, ⟨by omega, by omega⟩⟩

theorem c_M_power (l : Launch) (G : va_G) (cI cB cZ cO : ClassId) (ad : Nat → Nat) (w : Nat → va_E) (x n : Int32) (h1 : 1 ≤ x.toInt) (h2 : x.toInt ≤ 10) (h3 : 0 ≤ n.toInt) (h4 : n.toInt ≤ 4) : NI l G (tyq cI cB cZ cO) yX9_power cX9_power 4 (some .int) 0 0 74 ad w [.int x, .int n] (fun r w1 => w = w1 ∧ 1 ≤ r.toInt ∧ r.toInt ≤ 10000) := by
  have ha : n = 0 ∨ n = 1 ∨ n = 2 ∨ n = 3 ∨ n = 4 := by
    simp only [fa_eq]; simp only [show ((0 : Int32).toInt = 0) from rfl, show ((1 : Int32).toInt = 1) from rfl, show ((2 : Int32).toInt = 2) from rfl, show ((3 : Int32).toInt = 3) from rfl, show ((4 : Int32).toInt = 4) from rfl]; omega
  rcases ha with rfl | rfl | rfl | rfl | rfl
  · exact c_M_power0 l G cI cB cZ cO ad w x h1 h2
  · exact c_M_power1 l G cI cB cZ cO ad w x h1 h2
  · exact c_M_power2 l G cI cB cZ cO ad w x h1 h2
  · exact c_M_power3 l G cI cB cZ cO ad w x h1 h2
  · exact c_M_power4 l G cI cB cZ cO ad w x h1 h2
