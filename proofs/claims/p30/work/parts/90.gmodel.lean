set_option maxHeartbeats 4000000 in
set_option maxRecDepth 100000 in
theorem c_MF_layCaster72 (l : Launch) (G : va_G) (cI cB cZ cO : ClassId) (ad : Nat → Nat) (w : Nat → va_E) (f : Nat → Int32) (ok : OK cI cB cZ cO ad w) (x : Int32) (y : Int32) (t : Int32)  (pf : w 72 = .inl (cI, 89, .inl f)) (pal : alA f) (hle : (f 0).toInt ≤ 6) : NV l G (tyq cI cB cZ cO) yX9_layCaster cX9_layCaster 4 0 0 74 ad w [.ref (ad 72), .int x, .int y, .int t] (fun w1 => OK cI cB cZ cO ad w1 ∧ KO 72 w w1 ∧ w1 72 = .inl (cI, 89, .inl (layCF f x y t))) := by
  refine nk_v (own := "NoonShadeModel") rfl (by decide) (Nat.le_of_ble_eq_true rfl) ?_
  intro p e s m below meth c ls X hD hN hr hlk h hl
  have hx := X.1.1
  have hb := X.1.2.1
  have hown := X.1.2.2.2.1
  have hts := X.1.2.2.2.2
  have hl : lv_has ls 4 [(0, .ref (ad 72)), (1, .int x), (2, .int y), (3, .int t)] := hl
  obtain ⟨v0, ev0⟩ : ∃ z : Int32, f 0 = z := ⟨_, rfl⟩
  have hv0 := (alA_rd pal ev0).1 rfl
  rw [ev0] at hle
  refine lv_aload_n hx hb dX9_layCaster_0 rfl (lv_at hl 0 rfl) ?_
  refine lv_bipush (v := 16) hx hb dX9_layCaster_1 (by decide) ?_
  refine lv_aload_n hx hb dX9_layCaster_3 rfl (lv_at hl 0 rfl) ?_
  refine lv_iconst (v := 0) hx hb dX9_layCaster_4 (by decide) ?_
  refine o_iald (v := v0) X h 72 0 (by decide) rfl pf rfl (by unfold vp_in; decide) ev0 dX9_layCaster_5 ?_
  obtain ⟨z3, e1, t2⟩ := x_add (x := (16 : Int32)) (y := v0) (a := 16) (b := (v0).toInt) rfl rfl (by omega) (by omega)
  have n4 : z3.toNatClampNeg = 16 + v0.toNatClampNeg := cl_addn (x := (16 : Int32)) (y := v0) rfl rfl t2 (by decide) (by omega)
  refine o_iadd (z := z3) hx hb dX9_layCaster_6 e1 ?_
  refine lv_iload_n hx hb dX9_layCaster_7 rfl (lv_at hl 1 rfl) ?_
  obtain ⟨g5, e6⟩ : ∃ z : Nat → Int32, upd f (16 + v0.toNatClampNeg) x = z := ⟨_, rfl⟩
  have p7 : alA g5 := alA_upd pal e6 (by omega)
  refine o_iast (f1 := g5) X hD h 72 0 (by decide) rfl pf rfl (in_of (by omega) (by omega)) (by rw [n4]; exact e6) dX9_layCaster_8 (fun H locs w8 e9 h => ?_)
  have f10 : w8 72 = .inl (cI, 89, .inl g5) := (congrFun e9 _).trans (va_up_self _ _ _)
  have ok11 : OK cI cB cZ cO ad w8 := OK.up ok e9 (sA_mk p7)
  have kx12 : KO 72 w w8 := KO.up KO.rf e9 pf rfl
  refine lv_aload_n hx hb dX9_layCaster_9 rfl (lv_at hl 0 rfl) ?_
  refine lv_bipush (v := 23) hx hb dX9_layCaster_10 (by decide) ?_
  refine lv_aload_n hx hb dX9_layCaster_12 rfl (lv_at hl 0 rfl) ?_
  refine lv_iconst (v := 0) hx hb dX9_layCaster_13 (by decide) ?_
  have e13 : g5 0 = v0 := by rw [← e6, pk_un (by have := cl_of (x := z3) (by omega); omega)]; exact ev0
  refine o_iald (v := v0) X h 72 0 (by decide) rfl f10 rfl (by unfold vp_in; decide) e13 dX9_layCaster_14 ?_
  obtain ⟨z16, e14, t15⟩ := x_add (x := (23 : Int32)) (y := v0) (a := 23) (b := (v0).toInt) rfl rfl (by omega) (by omega)
  have n17 : z16.toNatClampNeg = 23 + v0.toNatClampNeg := cl_addn (x := (23 : Int32)) (y := v0) rfl rfl t15 (by decide) (by omega)
  refine o_iadd (z := z16) hx hb dX9_layCaster_15 e14 ?_
  refine lv_iload_n hx hb dX9_layCaster_16 rfl (lv_at hl 2 rfl) ?_
  obtain ⟨g18, e19⟩ : ∃ z : Nat → Int32, upd g5 (23 + v0.toNatClampNeg) y = z := ⟨_, rfl⟩
  have p20 : alA g18 := alA_upd p7 e19 (by omega)
  refine o_iast (f1 := g18) X hD h 72 0 (by decide) rfl f10 rfl (in_of (by omega) (by omega)) (by rw [n17]; exact e19) dX9_layCaster_17 (fun H locs w21 e22 h => ?_)
  have f23 : w21 72 = .inl (cI, 89, .inl g18) := (congrFun e22 _).trans (va_up_self _ _ _)
  have ok24 : OK cI cB cZ cO ad w21 := OK.up ok11 e22 (sA_mk p20)
  have kx25 : KO 72 w w21 := KO.up kx12 e22 f10 rfl
  refine lv_aload_n hx hb dX9_layCaster_18 rfl (lv_at hl 0 rfl) ?_
  refine lv_bipush (v := 30) hx hb dX9_layCaster_19 (by decide) ?_
  refine lv_aload_n hx hb dX9_layCaster_21 rfl (lv_at hl 0 rfl) ?_
  refine lv_iconst (v := 0) hx hb dX9_layCaster_22 (by decide) ?_
  have e26 : g18 0 = v0 := by rw [← e19, pk_un (by have := cl_of (x := z16) (by omega); omega)]; exact e13
  refine o_iald (v := v0) X h 72 0 (by decide) rfl f23 rfl (by unfold vp_in; decide) e26 dX9_layCaster_23 ?_
  obtain ⟨z29, e27, t28⟩ := x_add (x := (30 : Int32)) (y := v0) (a := 30) (b := (v0).toInt) rfl rfl (by omega) (by omega)
  have n30 : z29.toNatClampNeg = 30 + v0.toNatClampNeg := cl_addn (x := (30 : Int32)) (y := v0) rfl rfl t28 (by decide) (by omega)
  refine o_iadd (z := z29) hx hb dX9_layCaster_24 e27 ?_
  refine lv_iload_n hx hb dX9_layCaster_25 rfl (lv_at hl 3 rfl) ?_
  obtain ⟨g31, e32⟩ : ∃ z : Nat → Int32, upd g18 (30 + v0.toNatClampNeg) t = z := ⟨_, rfl⟩
  have p33 : alA g31 := alA_upd p20 e32 (by omega)
  refine o_iast (f1 := g31) X hD h 72 0 (by decide) rfl f23 rfl (in_of (by omega) (by omega)) (by rw [n30]; exact e32) dX9_layCaster_26 (fun H locs w34 e35 h => ?_)
  have f36 : w34 72 = .inl (cI, 89, .inl g31) := (congrFun e35 _).trans (va_up_self _ _ _)
  have ok37 : OK cI cB cZ cO ad w34 := OK.up ok24 e35 (sA_mk p33)
  have kx38 : KO 72 w w34 := KO.up kx25 e35 f23 rfl
  refine lv_aload_n hx hb dX9_layCaster_27 rfl (lv_at hl 0 rfl) ?_
  refine lv_iconst (v := 0) hx hb dX9_layCaster_28 (by decide) ?_
  refine lv_dup2_11 hx hb dX9_layCaster_29 rfl rfl ?_
  have e39 : g31 0 = v0 := by rw [← e32, pk_un (by have := cl_of (x := z29) (by omega); omega)]; exact e26
  refine o_iald (v := v0) X h 72 0 (by decide) rfl f36 rfl (by unfold vp_in; decide) e39 dX9_layCaster_30 ?_
  refine lv_iconst (v := 1) hx hb dX9_layCaster_31 (by decide) ?_
  obtain ⟨z42, e40, t41⟩ := x_add (x := v0) (y := (1 : Int32)) (a := (v0).toInt) (b := 1) rfl rfl (by omega) (by omega)
  have n43 : z42.toNatClampNeg = v0.toNatClampNeg + 1 := cl_addn (x := v0) (y := (1 : Int32)) rfl rfl t41 (by omega) (by decide)
  refine o_iadd (z := z42) hx hb dX9_layCaster_32 e40 ?_
  obtain ⟨g44, e45⟩ : ∃ z : Nat → Int32, upd g31 0 z42 = z := ⟨_, rfl⟩
  have p46 : alA g44 := alA_upd5 p33 e45 (by omega) (by first | omega | (simp; omega))
  refine o_iast (f1 := g44) X hD h 72 0 (by decide) rfl f36 rfl (by unfold vp_in; decide) e45 dX9_layCaster_33 (fun H locs w47 e48 h => ?_)
  have f49 : w47 72 = .inl (cI, 89, .inl g44) := (congrFun e48 _).trans (va_up_self _ _ _)
  have ok50 : OK cI cB cZ cO ad w47 := OK.up ok37 e48 (sA_mk p46)
  have kx51 : KO 72 w w47 := KO.up kx38 e48 f36 rfl
  have hret52 : w47 72 = .inl (cI, 89, .inl (layCF f x y t)) := by
    rw [f49]
    subst e45; subst e40; subst e32; subst e27; subst e19; subst e14; subst e6; subst e1; subst ev0
    (try unfold layCF layJF)
    (repeat' split) <;> first | rfl | (exfalso; omega)
  exact e_v X h hr hlk dX9_layCaster_34 ⟨ok50, kx51, hret52⟩

set_option maxHeartbeats 4000000 in
set_option maxRecDepth 100000 in
theorem c_MF_layJar72 (l : Launch) (G : va_G) (cI cB cZ cO : ClassId) (ad : Nat → Nat) (w : Nat → va_E) (f : Nat → Int32) (ok : OK cI cB cZ cO ad w) (x : Int32)  (pf : w 72 = .inl (cI, 89, .inl f)) (pal : alA f) (hle : (f 1).toInt ≤ 3) : NV l G (tyq cI cB cZ cO) yX9_layJar cX9_layJar 2 0 0 74 ad w [.ref (ad 72), .int x] (fun w1 => OK cI cB cZ cO ad w1 ∧ KO 72 w w1 ∧ w1 72 = .inl (cI, 89, .inl (layJF f x))) := by
  refine nk_v (own := "NoonShadeModel") rfl (by decide) (Nat.le_of_ble_eq_true rfl) ?_
  intro p e s m below meth c ls X hD hN hr hlk h hl
  have hx := X.1.1
  have hb := X.1.2.1
  have hown := X.1.2.2.2.1
  have hts := X.1.2.2.2.2
  have hl : lv_has ls 2 [(0, .ref (ad 72)), (1, .int x)] := hl
  obtain ⟨v0, ev0⟩ : ∃ z : Int32, f 1 = z := ⟨_, rfl⟩
  have hv0 := (alA_rd pal ev0).2.1 rfl
  rw [ev0] at hle
  refine lv_aload_n hx hb dX9_layJar_0 rfl (lv_at hl 0 rfl) ?_
  refine lv_bipush (v := 37) hx hb dX9_layJar_1 (by decide) ?_
  refine lv_aload_n hx hb dX9_layJar_3 rfl (lv_at hl 0 rfl) ?_
  refine lv_iconst (v := 1) hx hb dX9_layJar_4 (by decide) ?_
  refine o_iald (v := v0) X h 72 0 (by decide) rfl pf rfl (by unfold vp_in; decide) ev0 dX9_layJar_5 ?_
  obtain ⟨z3, e1, t2⟩ := x_add (x := (37 : Int32)) (y := v0) (a := 37) (b := (v0).toInt) rfl rfl (by omega) (by omega)
  have n4 : z3.toNatClampNeg = 37 + v0.toNatClampNeg := cl_addn (x := (37 : Int32)) (y := v0) rfl rfl t2 (by decide) (by omega)
  refine o_iadd (z := z3) hx hb dX9_layJar_6 e1 ?_
  refine lv_iload_n hx hb dX9_layJar_7 rfl (lv_at hl 1 rfl) ?_
  obtain ⟨g5, e6⟩ : ∃ z : Nat → Int32, upd f (37 + v0.toNatClampNeg) x = z := ⟨_, rfl⟩
  have p7 : alA g5 := alA_upd pal e6 (by omega)
  refine o_iast (f1 := g5) X hD h 72 0 (by decide) rfl pf rfl (in_of (by omega) (by omega)) (by rw [n4]; exact e6) dX9_layJar_8 (fun H locs w8 e9 h => ?_)
  have f10 : w8 72 = .inl (cI, 89, .inl g5) := (congrFun e9 _).trans (va_up_self _ _ _)
  have ok11 : OK cI cB cZ cO ad w8 := OK.up ok e9 (sA_mk p7)
  have kx12 : KO 72 w w8 := KO.up KO.rf e9 pf rfl
  refine lv_aload_n hx hb dX9_layJar_9 rfl (lv_at hl 0 rfl) ?_
  refine lv_iconst (v := 1) hx hb dX9_layJar_10 (by decide) ?_
  refine lv_dup2_11 hx hb dX9_layJar_11 rfl rfl ?_
  have e13 : g5 1 = v0 := by rw [← e6, pk_un (by have := cl_of (x := z3) (by omega); omega)]; exact ev0
  refine o_iald (v := v0) X h 72 0 (by decide) rfl f10 rfl (by unfold vp_in; decide) e13 dX9_layJar_12 ?_
  refine lv_iconst (v := 1) hx hb dX9_layJar_13 (by decide) ?_
  obtain ⟨z16, e14, t15⟩ := x_add (x := v0) (y := (1 : Int32)) (a := (v0).toInt) (b := 1) rfl rfl (by omega) (by omega)
  have n17 : z16.toNatClampNeg = v0.toNatClampNeg + 1 := cl_addn (x := v0) (y := (1 : Int32)) rfl rfl t15 (by omega) (by decide)
  refine o_iadd (z := z16) hx hb dX9_layJar_14 e14 ?_
  obtain ⟨g18, e19⟩ : ∃ z : Nat → Int32, upd g5 1 z16 = z := ⟨_, rfl⟩
  have p20 : alA g18 := alA_upd5 p7 e19 (by omega) (by first | omega | (simp; omega))
  refine o_iast (f1 := g18) X hD h 72 0 (by decide) rfl f10 rfl (by unfold vp_in; decide) e19 dX9_layJar_15 (fun H locs w21 e22 h => ?_)
  have f23 : w21 72 = .inl (cI, 89, .inl g18) := (congrFun e22 _).trans (va_up_self _ _ _)
  have ok24 : OK cI cB cZ cO ad w21 := OK.up ok11 e22 (sA_mk p20)
  have kx25 : KO 72 w w21 := KO.up kx12 e22 f10 rfl
  have hret26 : w21 72 = .inl (cI, 89, .inl (layJF f x)) := by
    rw [f23]
    subst e19; subst e14; subst e6; subst e1; subst ev0
    (try unfold layCF layJF)
    (repeat' split) <;> first | rfl | (exfalso; omega)
  exact e_v X h hr hlk dX9_layJar_16 ⟨ok24, kx25, hret26⟩

