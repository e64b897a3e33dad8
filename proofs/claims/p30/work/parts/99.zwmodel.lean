set_option maxHeartbeats 4000000 in
set_option maxRecDepth 100000 in
theorem c_MF_begin65 (l : Launch) (G : va_G) (cI cB cZ cO : ClassId) (ad : Nat → Nat) (w : Nat → va_E) (f : Nat → Int32) (ok : OK cI cB cZ cO ad w) (t : Int32)  (pf : w 65 = .inl (cI, 177, .inl f)) (pal : alA f) : NV l G (tyq cI cB cZ cO) yX9_begin cX9_begin 3 0 0 74 ad w [.ref (ad 65), .int t] (fun w1 => OK cI cB cZ cO ad w1 ∧ F65 w w1 ∧ ∃ g : Nat → Int32, w1 65 = .inl (cI, 177, .inl g) ∧ ∀ k, k < 89 → g k = begF t k) := by
  refine nk_v (own := "NoonShadeModel") rfl (by decide) (Nat.le_of_ble_eq_true rfl) ?_
  intro p e s m below meth c ls X hD hN hr hlk h hl
  have hx := X.1.1
  have hb := X.1.2.1
  have hown := X.1.2.2.2.1
  have hts := X.1.2.2.2.2
  have hl : lv_has ls 3 [(0, .ref (ad 65)), (1, .int t)] := hl
  refine lv_iconst (v := 0) hx hb dX9_begin_0 (by decide) ?_
  refine lv_istore_n (lv' := [(2, .int 0), (0, .ref (ad 65)), (1, .int t)]) hx hb dX9_begin_1 rfl hl (by decide) rfl (fun ls hl => ?_)
  have hloop4 : ∀ (d5 : Nat) (L1 : Int32) (C2 : Nat → Int32) (wL3 : Nat → va_E) (H : Heap) (locs : List Loc) (ls : Array Slot), 0 ≤ L1.toInt → L1.toInt ≤ 89 → (∀ k, k < L1.toNatClampNeg → C2 k = 0) → OK cI cB cZ cO ad wL3 → F65 w wL3 → wL3 65 = .inl (cI, 177, .inl C2) → 89 - L1.toInt < (d5 : Int) → St G 74 ad (wA 74 ad s.heap.size) s.heap wL3 H locs → lv_has ls 3 [(2, .int L1), (0, .ref (ad 65)), (1, .int t)] → W p l e { frames := 0, cells := 0, slots := 0, locals := 0 } s m [.ref (ad 65), .int t].toArray below meth c H locs 0 0 (MQ below (va_Qv (fun w1 => OK cI cB cZ cO ad w1 ∧ F65 w w1 ∧ ∃ g : Nat → Int32, w1 65 = .inl (cI, 177, .inl g) ∧ ∀ k, k < 89 → g k = begF t k) (Aft G 74 ad) (wA 74 ad s.heap.size)) [.ref (ad 65), .int t].toArray s 0 0 (wA 74 ad s.heap.size)) (F0 m 2 ls []) := by
    intro d5
    induction d5 with
    | zero => intro L1 C2 wL3 H locs ls hi8 hi9 hi10 ok11 kx12 cf13 hm7 h hl; exfalso; omega
    | succ d5 ih6 =>
      intro L1 C2 wL3 H locs ls hi8 hi9 hi10 ok11 kx12 cf13 hm7 h hl
      have p14 : alA C2 := (alA_of65 ok11 (Or.inl rfl) cf13).1
      refine lv_iload_n hx hb dX9_begin_2 rfl (lv_at hl 0 rfl) ?_
      refine lv_bipush (v := 89) hx hb dX9_begin_3 (by decide) ?_
      refine lv_icmp_ge (tgt := 18) hx hb dX9_begin_5 (by decide) (fun hc15 => ?_) (fun hc15 => ?_)
      · have hc15 : 89 ≤ (L1).toInt := i_le hc15 rfl rfl
        refine lv_aload_n hx hb dX9_begin_18 rfl (lv_at hl 1 rfl) ?_
        refine lv_iconst (v := 5) hx hb dX9_begin_19 (by decide) ?_
        refine lv_iload_n hx hb dX9_begin_20 rfl (lv_at hl 2 rfl) ?_
        obtain ⟨g16, e17⟩ : ∃ z : Nat → Int32, upd C2 5 t = z := ⟨_, rfl⟩
        have p18 : alA g16 := alA_upd p14 e17 (by decide)
        refine o_iast (f1 := g16) X hD h 65 0 (by decide) rfl cf13 rfl (by unfold vp_in; decide) e17 dX9_begin_21 (fun H locs w19 e20 h => ?_)
        have f21 : w19 65 = .inl (cI, 177, .inl g16) := (congrFun e20 _).trans (va_up_self _ _ _)
        have ok22 : OK cI cB cZ cO ad w19 := OK.up ok11 e20 (sA_mk p18)
        have kx23 : F65 w w19 := F65.up kx12 e20
        exact e_v X h hr hlk dX9_begin_22 ⟨ok22, kx23, ⟨g16, f21, fun k hk => by rw [← e17]; unfold begF; by_cases q : k = 5; (subst q; rw [pk_us]; rfl); (rw [pk_un q, if_neg q]; exact hi10 k (by have := cl_of (x := L1) (by omega); omega))⟩⟩
      · have hc15 : ¬ 89 ≤ (L1).toInt := i_nle hc15 rfl rfl
        refine lv_aload_n hx hb dX9_begin_8 rfl (lv_at hl 1 rfl) ?_
        refine lv_iload_n hx hb dX9_begin_9 rfl (lv_at hl 0 rfl) ?_
        refine lv_iconst (v := 0) hx hb dX9_begin_10 (by decide) ?_
        obtain ⟨g24, e25⟩ : ∃ z : Nat → Int32, upd C2 L1.toNatClampNeg (0 : Int32) = z := ⟨_, rfl⟩
        have p26 : alA g24 := alA_upd0 p14 e25
        refine o_iast (f1 := g24) X hD h 65 0 (by decide) rfl cf13 rfl (in_of (by omega) (by omega)) e25 dX9_begin_11 (fun H locs w27 e28 h => ?_)
        have f29 : w27 65 = .inl (cI, 177, .inl g24) := (congrFun e28 _).trans (va_up_self _ _ _)
        have ok30 : OK cI cB cZ cO ad w27 := OK.up ok11 e28 (sA_mk p26)
        have kx31 : F65 w w27 := F65.up kx12 e28
        obtain ⟨z32, e33, t34⟩ := x_add (x := L1) (y := 1) (a := L1.toInt) (b := 1) rfl rfl (by omega) (by omega)
        have n35 : z32.toNatClampNeg = L1.toNatClampNeg + 1 := cl_addn (x := L1) (y := 1) rfl rfl t34 (by omega) (by decide)
        refine lv_iinc (v := z32) (lv' := [(2, .int z32), (0, .ref (ad 65)), (1, .int t)]) hx hb dX9_begin_12 hl (k := 0) rfl e33 (by decide) rfl (fun ls hl => ?_)
        refine lv_goto (tgt := 2) hx hb dX9_begin_15 (by decide) ?_
        exact ih6  z32 g24 w27 _ _ _ (by omega) (by omega) (fun k hk => by rw [n35] at hk; rw [← e25]; by_cases q : k = L1.toNatClampNeg; (subst q; exact pk_us); (rw [pk_un q]; exact hi10 k (by omega))) ok30 kx31 f29 (by omega) h (lv_sub hl [0, 1, 2] rfl)
  exact hloop4 90 (0 : Int32) f w _ _ _ (by have q0 : (0 : Int32).toInt = 0 := rfl; omega) (by have q0 : (0 : Int32).toInt = 0 := rfl; omega) (fun k hk => absurd hk (Nat.not_lt_zero _)) ok F65.rf pf (by have q0 : (0 : Int32).toInt = 0 := rfl; omega) h (lv_sub hl [0, 1, 2] rfl)

set_option maxHeartbeats 4000000 in
set_option maxRecDepth 100000 in
theorem c_MF_layCaster65 (l : Launch) (G : va_G) (cI cB cZ cO : ClassId) (ad : Nat → Nat) (w : Nat → va_E) (f : Nat → Int32) (ok : OK cI cB cZ cO ad w) (x : Int32) (y : Int32) (t : Int32)  (pf : w 65 = .inl (cI, 177, .inl f)) (pal : alA f) (hle : (f 0).toInt ≤ 6) : NV l G (tyq cI cB cZ cO) yX9_layCaster cX9_layCaster 4 0 0 74 ad w [.ref (ad 65), .int x, .int y, .int t] (fun w1 => OK cI cB cZ cO ad w1 ∧ F65 w w1 ∧ w1 65 = .inl (cI, 177, .inl (layCF f x y t))) := by
  refine nk_v (own := "NoonShadeModel") rfl (by decide) (Nat.le_of_ble_eq_true rfl) ?_
  intro p e s m below meth c ls X hD hN hr hlk h hl
  have hx := X.1.1
  have hb := X.1.2.1
  have hown := X.1.2.2.2.1
  have hts := X.1.2.2.2.2
  have hl : lv_has ls 4 [(0, .ref (ad 65)), (1, .int x), (2, .int y), (3, .int t)] := hl
  obtain ⟨v0, ev0⟩ : ∃ z : Int32, f 0 = z := ⟨_, rfl⟩
  have hv0 := (alA_rd pal ev0).1 rfl
  rw [ev0] at hle
  refine lv_aload_n hx hb dX9_layCaster_0 rfl (lv_at hl 0 rfl) ?_
  refine lv_bipush (v := 16) hx hb dX9_layCaster_1 (by decide) ?_
  refine lv_aload_n hx hb dX9_layCaster_3 rfl (lv_at hl 0 rfl) ?_
  refine lv_iconst (v := 0) hx hb dX9_layCaster_4 (by decide) ?_
  refine o_iald (v := v0) X h 65 0 (by decide) rfl pf rfl (by unfold vp_in; decide) ev0 dX9_layCaster_5 ?_
  obtain ⟨z3, e1, t2⟩ := x_add (x := (16 : Int32)) (y := v0) (a := 16) (b := (v0).toInt) rfl rfl (by omega) (by omega)
  have n4 : z3.toNatClampNeg = 16 + v0.toNatClampNeg := cl_addn (x := (16 : Int32)) (y := v0) rfl rfl t2 (by decide) (by omega)
  refine o_iadd (z := z3) hx hb dX9_layCaster_6 e1 ?_
  refine lv_iload_n hx hb dX9_layCaster_7 rfl (lv_at hl 1 rfl) ?_
  obtain ⟨g5, e6⟩ : ∃ z : Nat → Int32, upd f (16 + v0.toNatClampNeg) x = z := ⟨_, rfl⟩
  have p7 : alA g5 := alA_upd pal e6 (by omega)
  refine o_iast (f1 := g5) X hD h 65 0 (by decide) rfl pf rfl (in_of (by omega) (by omega)) (by rw [n4]; exact e6) dX9_layCaster_8 (fun H locs w8 e9 h => ?_)
  have f10 : w8 65 = .inl (cI, 177, .inl g5) := (congrFun e9 _).trans (va_up_self _ _ _)
  have ok11 : OK cI cB cZ cO ad w8 := OK.up ok e9 (sA_mk p7)
  have kx12 : F65 w w8 := F65.up F65.rf e9
  refine lv_aload_n hx hb dX9_layCaster_9 rfl (lv_at hl 0 rfl) ?_
  refine lv_bipush (v := 23) hx hb dX9_layCaster_10 (by decide) ?_
  refine lv_aload_n hx hb dX9_layCaster_12 rfl (lv_at hl 0 rfl) ?_
  refine lv_iconst (v := 0) hx hb dX9_layCaster_13 (by decide) ?_
  have e13 : g5 0 = v0 := by rw [← e6, pk_un (by have := cl_of (x := z3) (by omega); omega)]; exact ev0
  refine o_iald (v := v0) X h 65 0 (by decide) rfl f10 rfl (by unfold vp_in; decide) e13 dX9_layCaster_14 ?_
  obtain ⟨z16, e14, t15⟩ := x_add (x := (23 : Int32)) (y := v0) (a := 23) (b := (v0).toInt) rfl rfl (by omega) (by omega)
  have n17 : z16.toNatClampNeg = 23 + v0.toNatClampNeg := cl_addn (x := (23 : Int32)) (y := v0) rfl rfl t15 (by decide) (by omega)
  refine o_iadd (z := z16) hx hb dX9_layCaster_15 e14 ?_
  refine lv_iload_n hx hb dX9_layCaster_16 rfl (lv_at hl 2 rfl) ?_
  obtain ⟨g18, e19⟩ : ∃ z : Nat → Int32, upd g5 (23 + v0.toNatClampNeg) y = z := ⟨_, rfl⟩
  have p20 : alA g18 := alA_upd p7 e19 (by omega)
  refine o_iast (f1 := g18) X hD h 65 0 (by decide) rfl f10 rfl (in_of (by omega) (by omega)) (by rw [n17]; exact e19) dX9_layCaster_17 (fun H locs w21 e22 h => ?_)
  have f23 : w21 65 = .inl (cI, 177, .inl g18) := (congrFun e22 _).trans (va_up_self _ _ _)
  have ok24 : OK cI cB cZ cO ad w21 := OK.up ok11 e22 (sA_mk p20)
  have kx25 : F65 w w21 := F65.up kx12 e22
  refine lv_aload_n hx hb dX9_layCaster_18 rfl (lv_at hl 0 rfl) ?_
  refine lv_bipush (v := 30) hx hb dX9_layCaster_19 (by decide) ?_
  refine lv_aload_n hx hb dX9_layCaster_21 rfl (lv_at hl 0 rfl) ?_
  refine lv_iconst (v := 0) hx hb dX9_layCaster_22 (by decide) ?_
  have e26 : g18 0 = v0 := by rw [← e19, pk_un (by have := cl_of (x := z16) (by omega); omega)]; exact e13
  refine o_iald (v := v0) X h 65 0 (by decide) rfl f23 rfl (by unfold vp_in; decide) e26 dX9_layCaster_23 ?_
  obtain ⟨z29, e27, t28⟩ := x_add (x := (30 : Int32)) (y := v0) (a := 30) (b := (v0).toInt) rfl rfl (by omega) (by omega)
  have n30 : z29.toNatClampNeg = 30 + v0.toNatClampNeg := cl_addn (x := (30 : Int32)) (y := v0) rfl rfl t28 (by decide) (by omega)
  refine o_iadd (z := z29) hx hb dX9_layCaster_24 e27 ?_
  refine lv_iload_n hx hb dX9_layCaster_25 rfl (lv_at hl 3 rfl) ?_
  obtain ⟨g31, e32⟩ : ∃ z : Nat → Int32, upd g18 (30 + v0.toNatClampNeg) t = z := ⟨_, rfl⟩
  have p33 : alA g31 := alA_upd p20 e32 (by omega)
  refine o_iast (f1 := g31) X hD h 65 0 (by decide) rfl f23 rfl (in_of (by omega) (by omega)) (by rw [n30]; exact e32) dX9_layCaster_26 (fun H locs w34 e35 h => ?_)
  have f36 : w34 65 = .inl (cI, 177, .inl g31) := (congrFun e35 _).trans (va_up_self _ _ _)
  have ok37 : OK cI cB cZ cO ad w34 := OK.up ok24 e35 (sA_mk p33)
  have kx38 : F65 w w34 := F65.up kx25 e35
  refine lv_aload_n hx hb dX9_layCaster_27 rfl (lv_at hl 0 rfl) ?_
  refine lv_iconst (v := 0) hx hb dX9_layCaster_28 (by decide) ?_
  refine lv_dup2_11 hx hb dX9_layCaster_29 rfl rfl ?_
  have e39 : g31 0 = v0 := by rw [← e32, pk_un (by have := cl_of (x := z29) (by omega); omega)]; exact e26
  refine o_iald (v := v0) X h 65 0 (by decide) rfl f36 rfl (by unfold vp_in; decide) e39 dX9_layCaster_30 ?_
  refine lv_iconst (v := 1) hx hb dX9_layCaster_31 (by decide) ?_
  obtain ⟨z42, e40, t41⟩ := x_add (x := v0) (y := (1 : Int32)) (a := (v0).toInt) (b := 1) rfl rfl (by omega) (by omega)
  have n43 : z42.toNatClampNeg = v0.toNatClampNeg + 1 := cl_addn (x := v0) (y := (1 : Int32)) rfl rfl t41 (by omega) (by decide)
  refine o_iadd (z := z42) hx hb dX9_layCaster_32 e40 ?_
  obtain ⟨g44, e45⟩ : ∃ z : Nat → Int32, upd g31 0 z42 = z := ⟨_, rfl⟩
  have p46 : alA g44 := alA_upd5 p33 e45 (by omega) (by first | omega | (simp; omega))
  refine o_iast (f1 := g44) X hD h 65 0 (by decide) rfl f36 rfl (by unfold vp_in; decide) e45 dX9_layCaster_33 (fun H locs w47 e48 h => ?_)
  have f49 : w47 65 = .inl (cI, 177, .inl g44) := (congrFun e48 _).trans (va_up_self _ _ _)
  have ok50 : OK cI cB cZ cO ad w47 := OK.up ok37 e48 (sA_mk p46)
  have kx51 : F65 w w47 := F65.up kx38 e48
  have hret52 : w47 65 = .inl (cI, 177, .inl (layCF f x y t)) := by
    rw [f49]
    subst e45; subst e40; subst e32; subst e27; subst e19; subst e14; subst e6; subst e1; subst ev0
    (try unfold layCF layJF)
    (repeat' split) <;> first | rfl | (exfalso; omega)
  exact e_v X h hr hlk dX9_layCaster_34 ⟨ok50, kx51, hret52⟩

set_option maxHeartbeats 4000000 in
set_option maxRecDepth 100000 in
theorem c_MF_layJar65 (l : Launch) (G : va_G) (cI cB cZ cO : ClassId) (ad : Nat → Nat) (w : Nat → va_E) (f : Nat → Int32) (ok : OK cI cB cZ cO ad w) (x : Int32)  (pf : w 65 = .inl (cI, 177, .inl f)) (pal : alA f) (hle : (f 1).toInt ≤ 3) : NV l G (tyq cI cB cZ cO) yX9_layJar cX9_layJar 2 0 0 74 ad w [.ref (ad 65), .int x] (fun w1 => OK cI cB cZ cO ad w1 ∧ F65 w w1 ∧ w1 65 = .inl (cI, 177, .inl (layJF f x))) := by
  refine nk_v (own := "NoonShadeModel") rfl (by decide) (Nat.le_of_ble_eq_true rfl) ?_
  intro p e s m below meth c ls X hD hN hr hlk h hl
  have hx := X.1.1
  have hb := X.1.2.1
  have hown := X.1.2.2.2.1
  have hts := X.1.2.2.2.2
  have hl : lv_has ls 2 [(0, .ref (ad 65)), (1, .int x)] := hl
  obtain ⟨v0, ev0⟩ : ∃ z : Int32, f 1 = z := ⟨_, rfl⟩
  have hv0 := (alA_rd pal ev0).2.1 rfl
  rw [ev0] at hle
  refine lv_aload_n hx hb dX9_layJar_0 rfl (lv_at hl 0 rfl) ?_
  refine lv_bipush (v := 37) hx hb dX9_layJar_1 (by decide) ?_
  refine lv_aload_n hx hb dX9_layJar_3 rfl (lv_at hl 0 rfl) ?_
  refine lv_iconst (v := 1) hx hb dX9_layJar_4 (by decide) ?_
  refine o_iald (v := v0) X h 65 0 (by decide) rfl pf rfl (by unfold vp_in; decide) ev0 dX9_layJar_5 ?_
  obtain ⟨z3, e1, t2⟩ := x_add (x := (37 : Int32)) (y := v0) (a := 37) (b := (v0).toInt) rfl rfl (by omega) (by omega)
  have n4 : z3.toNatClampNeg = 37 + v0.toNatClampNeg := cl_addn (x := (37 : Int32)) (y := v0) rfl rfl t2 (by decide) (by omega)
  refine o_iadd (z := z3) hx hb dX9_layJar_6 e1 ?_
  refine lv_iload_n hx hb dX9_layJar_7 rfl (lv_at hl 1 rfl) ?_
  obtain ⟨g5, e6⟩ : ∃ z : Nat → Int32, upd f (37 + v0.toNatClampNeg) x = z := ⟨_, rfl⟩
  have p7 : alA g5 := alA_upd pal e6 (by omega)
  refine o_iast (f1 := g5) X hD h 65 0 (by decide) rfl pf rfl (in_of (by omega) (by omega)) (by rw [n4]; exact e6) dX9_layJar_8 (fun H locs w8 e9 h => ?_)
  have f10 : w8 65 = .inl (cI, 177, .inl g5) := (congrFun e9 _).trans (va_up_self _ _ _)
  have ok11 : OK cI cB cZ cO ad w8 := OK.up ok e9 (sA_mk p7)
  have kx12 : F65 w w8 := F65.up F65.rf e9
  refine lv_aload_n hx hb dX9_layJar_9 rfl (lv_at hl 0 rfl) ?_
  refine lv_iconst (v := 1) hx hb dX9_layJar_10 (by decide) ?_
  refine lv_dup2_11 hx hb dX9_layJar_11 rfl rfl ?_
  have e13 : g5 1 = v0 := by rw [← e6, pk_un (by have := cl_of (x := z3) (by omega); omega)]; exact ev0
  refine o_iald (v := v0) X h 65 0 (by decide) rfl f10 rfl (by unfold vp_in; decide) e13 dX9_layJar_12 ?_
  refine lv_iconst (v := 1) hx hb dX9_layJar_13 (by decide) ?_
  obtain ⟨z16, e14, t15⟩ := x_add (x := v0) (y := (1 : Int32)) (a := (v0).toInt) (b := 1) rfl rfl (by omega) (by omega)
  have n17 : z16.toNatClampNeg = v0.toNatClampNeg + 1 := cl_addn (x := v0) (y := (1 : Int32)) rfl rfl t15 (by omega) (by decide)
  refine o_iadd (z := z16) hx hb dX9_layJar_14 e14 ?_
  obtain ⟨g18, e19⟩ : ∃ z : Nat → Int32, upd g5 1 z16 = z := ⟨_, rfl⟩
  have p20 : alA g18 := alA_upd5 p7 e19 (by omega) (by first | omega | (simp; omega))
  refine o_iast (f1 := g18) X hD h 65 0 (by decide) rfl f10 rfl (by unfold vp_in; decide) e19 dX9_layJar_15 (fun H locs w21 e22 h => ?_)
  have f23 : w21 65 = .inl (cI, 177, .inl g18) := (congrFun e22 _).trans (va_up_self _ _ _)
  have ok24 : OK cI cB cZ cO ad w21 := OK.up ok11 e22 (sA_mk p20)
  have kx25 : F65 w w21 := F65.up kx12 e22
  have hret26 : w21 65 = .inl (cI, 177, .inl (layJF f x)) := by
    rw [f23]
    subst e19; subst e14; subst e6; subst e1; subst ev0
    (try unfold layCF layJF)
    (repeat' split) <;> first | rfl | (exfalso; omega)
  exact e_v X h hr hlk dX9_layJar_16 ⟨ok24, kx25, hret26⟩

set_option maxHeartbeats 4000000 in
set_option maxRecDepth 100000 in
theorem c_MF_island (l : Launch) (G : va_G) (cI cB cZ cO : ClassId) (ad : Nat → Nat) (w : Nat → va_E) (f : Nat → Int32) (ok : OK cI cB cZ cO ad w) (t : Int32)  (pf : w 65 = .inl (cI, 177, .inl f)) (pal : alA f) : NI l G (tyq cI cB cZ cO) yX9_island cX9_island 3 (some .int) 1 25 74 ad w [.ref (ad 64), .int t] (fun r w1 => OK cI cB cZ cO ad w1 ∧ KN w w1 ∧ ((¬ (0 ≤ t.toInt ∧ t.toInt ≤ 99) ∧ KM w w1 ∧ r = -2) ∨ ((0 ≤ t.toInt ∧ t.toInt ≤ 99) ∧ F65 w w1 ∧ f 0 = r ∧ ∃ g : Nat → Int32, w1 65 = .inl (cI, 177, .inl g) ∧ ∀ k, k < 89 → g k = begF t k))) := by
  refine nk_i (own := "NoonShadeModel") rfl (by decide) (Nat.le_of_ble_eq_true rfl) ?_
  intro p e s m below meth c ls X hD hN hr hlk h hl
  have hx := X.1.1
  have hb := X.1.2.1
  have hown := X.1.2.2.2.1
  have hts := X.1.2.2.2.2
  have hl : lv_has ls 3 [(0, .ref (ad 64)), (1, .int t)] := hl
  obtain ⟨v0, ev0⟩ : ∃ z : Int32, f 0 = z := ⟨_, rfl⟩
  have hv0 := (alA_rd pal ev0).1 rfl
  have hw0 := congrArg Int32.toInt ev0
  refine lv_iload_n hx hb dX9_island_0 rfl (lv_at hl 1 rfl) ?_
  obtain ⟨z1, e2⟩ : ∃ z : Int64, t.toInt64 = z := ⟨_, rfl⟩
  have tz1 : z1.toInt = (t).toInt := by rw [← e2]; exact Int32.toInt_toInt64 _
  refine lv_i2l (v := z1) hx hb dX9_island_1 e2 ?_
  refine lv_lconst (v := 0) hx hb dX9_island_2 (by decide) ?_
  refine lv_ldc2 (v := 99) hx hb hown (hts _ kv_631) dX9_island_3 ?_
  refine n_Si (na := 3) (As := [.long z1, .long 0, .long 99]) (rest := []) X hD hN h (c_M_in l G cI cB cZ cO ad w z1 (0 : Int64) (99 : Int64) ((t).toInt) 0 99 tz1 rfl rfl) ⟨kv_468, kv_469, kv_470, kv_471⟩ ⟨by decide, by decide, by decide⟩ ⟨Nat.le_of_ble_eq_true rfl, Nat.le_of_ble_eq_true rfl⟩ ⟨Nat.zero_le _, Nat.zero_le _⟩ rfl hl.1 rfl (Nat.le_of_ble_eq_true rfl) dX9_island_6 (fun r3 w4 H locs hp5 h => ?_)
  obtain ⟨rfl, hq6⟩ := hp5
  rcases hq6 with ⟨hq7, hq8, rfl⟩ | ⟨hq6, rfl⟩
  · refine lv_if_ne (tgt := 19) hx hb dX9_island_9 (by decide) (fun _ => ?_) (fun hc => absurd hc (by decide))
    refine lv_aload_n hx hb dX9_island_19 rfl (lv_at hl 0 rfl) ?_
    obtain ⟨x10, x11, t12, t13, t14, t15, t16, t17, f9, h18, h19⟩ := (show sM ad (w 64) from ok 64 (by decide))
    have f20 : w 64 = .inr (7, [.ref (ad 65), .ref (ad 66), .ref (ad 67), .ref (ad 68), .long x10, .long x11, .ref (ad 69), .int t12, .ref (ad 70), .ref (ad 71), .int t13, .int t14, .int t15, .int t16, .int t17, .ref (ad 72), .ref (ad 73)]) := f9
    refine r_get kc9 X h 64 0 (by decide) rfl f20 (by decide) kv_467 rfl dX9_island_20 ?_
    refine lv_iconst (v := 0) hx hb dX9_island_23 (by decide) ?_
    refine o_iald (v := v0) X h 65 0 (by decide) rfl pf rfl (by unfold vp_in; decide) ev0 dX9_island_24 ?_
    refine lv_istore_n (lv' := [(2, .int v0), (0, .ref (ad 64)), (1, .int t)]) hx hb dX9_island_25 rfl hl (by decide) rfl (fun ls hl => ?_)
    refine lv_aload_n hx hb dX9_island_26 rfl (lv_at hl 1 rfl) ?_
    refine r_get kc9 X h 64 0 (by decide) rfl f20 (by decide) kv_467 rfl dX9_island_27 ?_
    refine lv_iload_n hx hb dX9_island_30 rfl (lv_at hl 2 rfl) ?_
    refine n_Sv (na := 2) (As := [.ref (ad 65), .int t]) (rest := []) X hD hN h (c_MF_begin65 l G cI cB cZ cO ad w f ok t  pf pal) ⟨kv_632, kv_633, kv_470, kv_634⟩ ⟨by decide, by decide, by decide⟩ ⟨Nat.le_of_ble_eq_true rfl, Nat.le_of_ble_eq_true rfl⟩ ⟨Nat.zero_le _, Nat.zero_le _⟩ rfl hl.1 rfl (Nat.le_of_ble_eq_true rfl) dX9_island_31 (fun w22 H locs hp23 h => ?_)
    obtain ⟨ok24, kk25, hr26⟩ := hp23
    have kx27 : KN w w22 := (F65.n kk25)
    refine lv_iload_n hx hb dX9_island_34 rfl (lv_at hl 0 rfl) ?_
    exact e_i X h hr hlk dX9_island_35 ⟨ok24, kx27, Or.inr ⟨by omega, (F65.tr F65.rf kk25), ev0, hr26⟩⟩
  · refine lv_if_ne (tgt := 19) hx hb dX9_island_9 (by decide) (fun hc => absurd (by decide) hc) (fun _ => ?_)
    refine lv_aload_n hx hb dX9_island_12 rfl (lv_at hl 0 rfl) ?_
    refine lv_bipush (v := (-2)) hx hb dX9_island_13 (by decide) ?_
    obtain ⟨x32, x33, t34, t35, t36, t37, t38, t39, f31, h40, h41⟩ := (show sM ad (w 64) from ok 64 (by decide))
    have f42 : w 64 = .inr (7, [.ref (ad 65), .ref (ad 66), .ref (ad 67), .ref (ad 68), .long x32, .long x33, .ref (ad 69), .int t34, .ref (ad 70), .ref (ad 71), .int t35, .int t36, .int t37, .int t38, .int t39, .ref (ad 72), .ref (ad 73)]) := f31
    refine n_Vi (na := 1) (As := [.int (-2)]) (rest := []) X hD hN h rfl (c_M_bad l G cI cB cZ cO ad w  ok ((-2) : Int32)  ) ⟨kv_553, kv_554, kv_555, kv_470, kv_556⟩ rfl ⟨by decide, by decide, by decide⟩ ⟨Nat.le_of_ble_eq_true rfl, Nat.le_of_ble_eq_true rfl⟩ ⟨Nat.zero_le _, Nat.zero_le _⟩ (by decide) f42 rfl rfl hl.1 rfl (Nat.le_of_ble_eq_true rfl) dX9_island_15 (fun r28 w29 H locs hp30 h => ?_)
    have kM43 : KM w w29 := hp30.2.1
    obtain ⟨ok46, kk47, hr45⟩ := hp30
    have kx48 : KN w w29 := kk47.n
    subst hr45
    exact e_i X h hr hlk dX9_island_18 ⟨ok46, kx48, Or.inl ⟨by omega, kM43, rfl⟩⟩

set_option maxHeartbeats 4000000 in
set_option maxRecDepth 100000 in
theorem c_MF_caster (l : Launch) (G : va_G) (cI cB cZ cO : ClassId) (ad : Nat → Nat) (w : Nat → va_E) (f : Nat → Int32) (ok : OK cI cB cZ cO ad w) (k : Int32) (q : Int32) (t : Int32)  (pf : w 65 = .inl (cI, 177, .inl f)) (pal : alA f) : NI l G (tyq cI cB cZ cO) yX9_caster cX9_caster 4 (some .int) 2 45 74 ad w [.ref (ad 64), .int k, .int q, .int t] (fun r w1 => OK cI cB cZ cO ad w1 ∧ KN w w1 ∧ ((¬ ((0 ≤ k.toInt ∧ k.toInt ≤ 5) ∧ (1 ≤ q.toInt ∧ q.toInt ≤ 9) ∧ (0 ≤ t.toInt ∧ t.toInt ≤ 3)) ∧ KM w w1 ∧ r = -2) ∨ (((0 ≤ k.toInt ∧ k.toInt ≤ 5) ∧ (1 ≤ q.toInt ∧ q.toInt ≤ 9) ∧ (0 ≤ t.toInt ∧ t.toInt ≤ 3)) ∧ (f 0).toInt = 7 ∧ KM w w1 ∧ r = -4) ∨ (((0 ≤ k.toInt ∧ k.toInt ≤ 5) ∧ (1 ≤ q.toInt ∧ q.toInt ≤ 9) ∧ (0 ≤ t.toInt ∧ t.toInt ≤ 3)) ∧ ¬ (f 0).toInt = 7 ∧ F65 w w1 ∧ f 0 = r ∧ w1 65 = .inl (cI, 177, .inl (upd (layCF f k q t) 4 0))))) := by
  refine nk_i (own := "NoonShadeModel") rfl (by decide) (Nat.le_of_ble_eq_true rfl) ?_
  intro p e s m below meth c ls X hD hN hr hlk h hl
  have hx := X.1.1
  have hb := X.1.2.1
  have hown := X.1.2.2.2.1
  have hts := X.1.2.2.2.2
  have hl : lv_has ls 4 [(0, .ref (ad 64)), (1, .int k), (2, .int q), (3, .int t)] := hl
  obtain ⟨v0, ev0⟩ : ∃ z : Int32, f 0 = z := ⟨_, rfl⟩
  have hv0 := (alA_rd pal ev0).1 rfl
  have hw0 := congrArg Int32.toInt ev0
  refine lv_iload_n hx hb dX9_caster_0 rfl (lv_at hl 1 rfl) ?_
  refine n_Si (na := 1) (As := [.int k]) (rest := []) X hD hN h (c_M_isKind l G cI cB cZ cO ad w   k  ) ⟨kv_635, kv_636, kv_470, kv_637⟩ ⟨by decide, by decide, by decide⟩ ⟨Nat.le_of_ble_eq_true rfl, Nat.le_of_ble_eq_true rfl⟩ ⟨Nat.zero_le _, Nat.zero_le _⟩ rfl hl.1 rfl (Nat.le_of_ble_eq_true rfl) dX9_caster_1 (fun r1 w2 H locs hp3 h => ?_)
  obtain ⟨rfl, hr4⟩ := hp3
  rcases hr4 with ⟨hq5, hq6, rfl⟩ | ⟨hq7, rfl⟩
  · refine lv_if_eq (tgt := 21) hx hb dX9_caster_4 (by decide) (fun hc => absurd hc (by decide)) (fun _ => ?_)
    refine lv_iload_n hx hb dX9_caster_7 rfl (lv_at hl 2 rfl) ?_
    refine n_Si (na := 1) (As := [.int q]) (rest := []) X hD hN h (c_M_isHeight l G cI cB cZ cO ad w   q  ) ⟨kv_638, kv_639, kv_470, kv_640⟩ ⟨by decide, by decide, by decide⟩ ⟨Nat.le_of_ble_eq_true rfl, Nat.le_of_ble_eq_true rfl⟩ ⟨Nat.zero_le _, Nat.zero_le _⟩ rfl hl.1 rfl (Nat.le_of_ble_eq_true rfl) dX9_caster_8 (fun r8 w9 H locs hp10 h => ?_)
    obtain ⟨rfl, hr11⟩ := hp10
    rcases hr11 with ⟨hq12, hq13, rfl⟩ | ⟨hq14, rfl⟩
    · refine lv_if_eq (tgt := 21) hx hb dX9_caster_11 (by decide) (fun hc => absurd hc (by decide)) (fun _ => ?_)
      refine lv_iload_n hx hb dX9_caster_14 rfl (lv_at hl 3 rfl) ?_
      refine n_Si (na := 1) (As := [.int t]) (rest := []) X hD hN h (c_M_isTaste l G cI cB cZ cO ad w   t  ) ⟨kv_576, kv_577, kv_470, kv_578⟩ ⟨by decide, by decide, by decide⟩ ⟨Nat.le_of_ble_eq_true rfl, Nat.le_of_ble_eq_true rfl⟩ ⟨Nat.zero_le _, Nat.zero_le _⟩ rfl hl.1 rfl (Nat.le_of_ble_eq_true rfl) dX9_caster_15 (fun r15 w16 H locs hp17 h => ?_)
      obtain ⟨rfl, hr18⟩ := hp17
      rcases hr18 with ⟨hq19, hq20, rfl⟩ | ⟨hq21, rfl⟩
      · refine lv_if_ne (tgt := 28) hx hb dX9_caster_18 (by decide) (fun _ => ?_) (fun hc => absurd hc (by decide))
        refine lv_aload_n hx hb dX9_caster_28 rfl (lv_at hl 0 rfl) ?_
        obtain ⟨x23, x24, t25, t26, t27, t28, t29, t30, f22, h31, h32⟩ := (show sM ad (w 64) from ok 64 (by decide))
        have f33 : w 64 = .inr (7, [.ref (ad 65), .ref (ad 66), .ref (ad 67), .ref (ad 68), .long x23, .long x24, .ref (ad 69), .int t25, .ref (ad 70), .ref (ad 71), .int t26, .int t27, .int t28, .int t29, .int t30, .ref (ad 72), .ref (ad 73)]) := f22
        refine r_get kc9 X h 64 0 (by decide) rfl f33 (by decide) kv_467 rfl dX9_caster_29 ?_
        refine lv_iconst (v := 0) hx hb dX9_caster_32 (by decide) ?_
        refine o_iald (v := v0) X h 65 0 (by decide) rfl pf rfl (by unfold vp_in; decide) ev0 dX9_caster_33 ?_
        refine lv_bipush (v := 7) hx hb dX9_caster_34 (by decide) ?_
        refine lv_icmp_ne (tgt := 44) hx hb dX9_caster_36 (by decide) (fun hc34 => ?_) (fun hc34 => ?_)
        · have hc34 : ¬ (v0).toInt = 7 := i_ne hc34 rfl rfl
          refine lv_aload_n hx hb dX9_caster_44 rfl (lv_at hl 0 rfl) ?_
          refine r_get kc9 X h 64 0 (by decide) rfl f33 (by decide) kv_467 rfl dX9_caster_45 ?_
          refine lv_iload_n hx hb dX9_caster_48 rfl (lv_at hl 1 rfl) ?_
          refine lv_iload_n hx hb dX9_caster_49 rfl (lv_at hl 2 rfl) ?_
          refine lv_iload_n hx hb dX9_caster_50 rfl (lv_at hl 3 rfl) ?_
          refine n_Sv (na := 4) (As := [.ref (ad 65), .int k, .int q, .int t]) (rest := []) X hD hN h (c_MF_layCaster65 l G cI cB cZ cO ad w f ok k q t  pf pal (by rw [ev0]; omega)) ⟨kv_641, kv_642, kv_470, kv_643⟩ ⟨by decide, by decide, by decide⟩ ⟨Nat.le_of_ble_eq_true rfl, Nat.le_of_ble_eq_true rfl⟩ ⟨Nat.zero_le _, Nat.zero_le _⟩ rfl hl.1 rfl (Nat.le_of_ble_eq_true rfl) dX9_caster_51 (fun w36 H locs hp37 h => ?_)
          obtain ⟨ok38, kk39, hr40⟩ := hp37
          have kx41 : KN w w36 := (F65.n kk39)
          obtain ⟨g42, e43⟩ : ∃ z : Nat → Int32, layCF f k q t = z := ⟨_, rfl⟩
          rw [e43] at hr40
          have p44 : alA g42 := (alA_of65 ok38 (Or.inl rfl) hr40).1
          obtain ⟨x45, e46, t47⟩ := x_add (x := v0) (y := 1) (a := v0.toInt) (b := 1) rfl rfl (by omega) (by omega)
          have e48 : g42 0 = x45 := by rw [← e43, layCF_0, ev0]; exact e46
          refine lv_aload_n hx hb dX9_caster_54 rfl (lv_at hl 0 rfl) ?_
          have f49 : w36 64 = .inr (7, [.ref (ad 65), .ref (ad 66), .ref (ad 67), .ref (ad 68), .long x23, .long x24, .ref (ad 69), .int t25, .ref (ad 70), .ref (ad 71), .int t26, .int t27, .int t28, .int t29, .int t30, .ref (ad 72), .ref (ad 73)]) := (kk39 64 (by decide)).trans f33
          refine r_get kc9 X h 64 0 (by decide) rfl f49 (by decide) kv_467 rfl dX9_caster_55 ?_
          refine lv_iconst (v := 4) hx hb dX9_caster_58 (by decide) ?_
          refine lv_iconst (v := 0) hx hb dX9_caster_59 (by decide) ?_
          obtain ⟨g50, e51⟩ : ∃ z : Nat → Int32, upd g42 4 (0 : Int32) = z := ⟨_, rfl⟩
          have p52 : alA g50 := alA_upd5 p44 e51 (by decide) (by decide)
          refine o_iast (f1 := g50) X hD h 65 0 (by decide) rfl hr40 rfl (by unfold vp_in; decide) e51 dX9_caster_60 (fun H locs w53 e54 h => ?_)
          have f55 : w53 65 = .inl (cI, 177, .inl g50) := (congrFun e54 _).trans (va_up_self _ _ _)
          have ok56 : OK cI cB cZ cO ad w53 := OK.up ok38 e54 (sA_mk p52)
          have kx57 : KN w w53 := KN.up kx41 e54 hr40 rfl
          refine lv_aload_n hx hb dX9_caster_61 rfl (lv_at hl 0 rfl) ?_
          have f58 : w53 64 = .inr (7, [.ref (ad 65), .ref (ad 66), .ref (ad 67), .ref (ad 68), .long x23, .long x24, .ref (ad 69), .int t25, .ref (ad 70), .ref (ad 71), .int t26, .int t27, .int t28, .int t29, .int t30, .ref (ad 72), .ref (ad 73)]) := by rw [e54, va_up_ne _ _ (by decide)]; exact f49
          refine r_get kc9 X h 64 0 (by decide) rfl f58 (by decide) kv_467 rfl dX9_caster_62 ?_
          refine lv_iconst (v := 0) hx hb dX9_caster_65 (by decide) ?_
          have e59 : g50 0 = x45 := by rw [← e51, pk_un (by decide)]; exact e48
          refine o_iald (v := x45) X h 65 0 (by decide) rfl f55 rfl (by unfold vp_in; decide) e59 dX9_caster_66 ?_
          refine lv_iconst (v := 1) hx hb dX9_caster_67 (by decide) ?_
          obtain ⟨z62, e60, t61⟩ := x_sub (x := x45) (y := (1 : Int32)) (a := (x45).toInt) (b := 1) rfl rfl (by omega) (by omega)
          refine o_isub (z := z62) hx hb dX9_caster_68 e60 ?_
          exact e_i X h hr hlk dX9_caster_69 ⟨ok56, kx57, Or.inr (Or.inr ⟨by omega, by omega, (F65.up (F65.tr F65.rf kk39) e54), (fa_eq _ _).mpr (by omega), by rw [f55, ← e51, ← e43]⟩)⟩
        · have hc34 : (v0).toInt = 7 := i_eq hc34 rfl rfl
          refine lv_aload_n hx hb dX9_caster_39 rfl (lv_at hl 0 rfl) ?_
          refine n_Vi (na := 0) (As := []) (rest := []) X hD hN h rfl (c_M_full l G cI cB cZ cO ad w  ok   ) ⟨kv_644, kv_645, kv_646, kv_470, kv_647⟩ rfl ⟨by decide, by decide, by decide⟩ ⟨Nat.le_of_ble_eq_true rfl, Nat.le_of_ble_eq_true rfl⟩ ⟨Nat.zero_le _, Nat.zero_le _⟩ (by decide) f33 rfl rfl hl.1 rfl (Nat.le_of_ble_eq_true rfl) dX9_caster_40 (fun r63 w64 H locs hp65 h => ?_)
          have kM66 : KM w w64 := hp65.2.1
          obtain ⟨ok69, kk70, hr68⟩ := hp65
          have kx71 : KN w w64 := kk70.n
          subst hr68
          exact e_i X h hr hlk dX9_caster_43 ⟨ok69, kx71, Or.inr (Or.inl ⟨by omega, by omega, kM66, rfl⟩)⟩
      · refine lv_if_ne (tgt := 28) hx hb dX9_caster_18 (by decide) (fun hc => absurd (by decide) hc) (fun _ => ?_)
        refine lv_aload_n hx hb dX9_caster_21 rfl (lv_at hl 0 rfl) ?_
        refine lv_bipush (v := (-2)) hx hb dX9_caster_22 (by decide) ?_
        obtain ⟨x76, x77, t78, t79, t80, t81, t82, t83, f75, h84, h85⟩ := (show sM ad (w 64) from ok 64 (by decide))
        have f86 : w 64 = .inr (7, [.ref (ad 65), .ref (ad 66), .ref (ad 67), .ref (ad 68), .long x76, .long x77, .ref (ad 69), .int t78, .ref (ad 70), .ref (ad 71), .int t79, .int t80, .int t81, .int t82, .int t83, .ref (ad 72), .ref (ad 73)]) := f75
        refine n_Vi (na := 1) (As := [.int (-2)]) (rest := []) X hD hN h rfl (c_M_bad l G cI cB cZ cO ad w  ok ((-2) : Int32)  ) ⟨kv_553, kv_554, kv_555, kv_470, kv_556⟩ rfl ⟨by decide, by decide, by decide⟩ ⟨Nat.le_of_ble_eq_true rfl, Nat.le_of_ble_eq_true rfl⟩ ⟨Nat.zero_le _, Nat.zero_le _⟩ (by decide) f86 rfl rfl hl.1 rfl (Nat.le_of_ble_eq_true rfl) dX9_caster_24 (fun r72 w73 H locs hp74 h => ?_)
        have kM87 : KM w w73 := hp74.2.1
        obtain ⟨ok90, kk91, hr89⟩ := hp74
        have kx92 : KN w w73 := kk91.n
        subst hr89
        exact e_i X h hr hlk dX9_caster_27 ⟨ok90, kx92, Or.inl ⟨by omega, kM87, rfl⟩⟩
    · refine lv_if_eq (tgt := 21) hx hb dX9_caster_11 (by decide) (fun _ => ?_) (fun hc => absurd (by decide) hc)
      refine lv_aload_n hx hb dX9_caster_21 rfl (lv_at hl 0 rfl) ?_
      refine lv_bipush (v := (-2)) hx hb dX9_caster_22 (by decide) ?_
      obtain ⟨x97, x98, t99, t100, t101, t102, t103, t104, f96, h105, h106⟩ := (show sM ad (w 64) from ok 64 (by decide))
      have f107 : w 64 = .inr (7, [.ref (ad 65), .ref (ad 66), .ref (ad 67), .ref (ad 68), .long x97, .long x98, .ref (ad 69), .int t99, .ref (ad 70), .ref (ad 71), .int t100, .int t101, .int t102, .int t103, .int t104, .ref (ad 72), .ref (ad 73)]) := f96
      refine n_Vi (na := 1) (As := [.int (-2)]) (rest := []) X hD hN h rfl (c_M_bad l G cI cB cZ cO ad w  ok ((-2) : Int32)  ) ⟨kv_553, kv_554, kv_555, kv_470, kv_556⟩ rfl ⟨by decide, by decide, by decide⟩ ⟨Nat.le_of_ble_eq_true rfl, Nat.le_of_ble_eq_true rfl⟩ ⟨Nat.zero_le _, Nat.zero_le _⟩ (by decide) f107 rfl rfl hl.1 rfl (Nat.le_of_ble_eq_true rfl) dX9_caster_24 (fun r93 w94 H locs hp95 h => ?_)
      have kM108 : KM w w94 := hp95.2.1
      obtain ⟨ok111, kk112, hr110⟩ := hp95
      have kx113 : KN w w94 := kk112.n
      subst hr110
      exact e_i X h hr hlk dX9_caster_27 ⟨ok111, kx113, Or.inl ⟨by omega, kM108, rfl⟩⟩
  · refine lv_if_eq (tgt := 21) hx hb dX9_caster_4 (by decide) (fun _ => ?_) (fun hc => absurd (by decide) hc)
    refine lv_aload_n hx hb dX9_caster_21 rfl (lv_at hl 0 rfl) ?_
    refine lv_bipush (v := (-2)) hx hb dX9_caster_22 (by decide) ?_
    obtain ⟨x118, x119, t120, t121, t122, t123, t124, t125, f117, h126, h127⟩ := (show sM ad (w 64) from ok 64 (by decide))
    have f128 : w 64 = .inr (7, [.ref (ad 65), .ref (ad 66), .ref (ad 67), .ref (ad 68), .long x118, .long x119, .ref (ad 69), .int t120, .ref (ad 70), .ref (ad 71), .int t121, .int t122, .int t123, .int t124, .int t125, .ref (ad 72), .ref (ad 73)]) := f117
    refine n_Vi (na := 1) (As := [.int (-2)]) (rest := []) X hD hN h rfl (c_M_bad l G cI cB cZ cO ad w  ok ((-2) : Int32)  ) ⟨kv_553, kv_554, kv_555, kv_470, kv_556⟩ rfl ⟨by decide, by decide, by decide⟩ ⟨Nat.le_of_ble_eq_true rfl, Nat.le_of_ble_eq_true rfl⟩ ⟨Nat.zero_le _, Nat.zero_le _⟩ (by decide) f128 rfl rfl hl.1 rfl (Nat.le_of_ble_eq_true rfl) dX9_caster_24 (fun r114 w115 H locs hp116 h => ?_)
    have kM129 : KM w w115 := hp116.2.1
    obtain ⟨ok132, kk133, hr131⟩ := hp116
    have kx134 : KN w w115 := kk133.n
    subst hr131
    exact e_i X h hr hlk dX9_caster_27 ⟨ok132, kx134, Or.inl ⟨by omega, kM129, rfl⟩⟩

set_option maxHeartbeats 4000000 in
set_option maxRecDepth 100000 in
theorem c_MF_jar (l : Launch) (G : va_G) (cI cB cZ cO : ClassId) (ad : Nat → Nat) (w : Nat → va_E) (f : Nat → Int32) (ok : OK cI cB cZ cO ad w) (k : Int32)  (pf : w 65 = .inl (cI, 177, .inl f)) (pal : alA f) : NI l G (tyq cI cB cZ cO) yX9_jar cX9_jar 2 (some .int) 2 45 74 ad w [.ref (ad 64), .int k] (fun r w1 => OK cI cB cZ cO ad w1 ∧ KN w w1 ∧ ((¬ (0 ≤ k.toInt ∧ k.toInt ≤ 5) ∧ KM w w1 ∧ r = -2) ∨ ((0 ≤ k.toInt ∧ k.toInt ≤ 5) ∧ (f 1).toInt = 4 ∧ KM w w1 ∧ r = -4) ∨ ((0 ≤ k.toInt ∧ k.toInt ≤ 5) ∧ ¬ (f 1).toInt = 4 ∧ F65 w w1 ∧ f 1 = r ∧ w1 65 = .inl (cI, 177, .inl (upd (layJF f k) 4 0))))) := by
  refine nk_i (own := "NoonShadeModel") rfl (by decide) (Nat.le_of_ble_eq_true rfl) ?_
  intro p e s m below meth c ls X hD hN hr hlk h hl
  have hx := X.1.1
  have hb := X.1.2.1
  have hown := X.1.2.2.2.1
  have hts := X.1.2.2.2.2
  have hl : lv_has ls 2 [(0, .ref (ad 64)), (1, .int k)] := hl
  obtain ⟨v1, ev1⟩ : ∃ z : Int32, f 1 = z := ⟨_, rfl⟩
  have hv1 := (alA_rd pal ev1).2.1 rfl
  have hw1 := congrArg Int32.toInt ev1
  refine lv_iload_n hx hb dX9_jar_0 rfl (lv_at hl 1 rfl) ?_
  refine n_Si (na := 1) (As := [.int k]) (rest := []) X hD hN h (c_M_isKind l G cI cB cZ cO ad w   k  ) ⟨kv_635, kv_636, kv_470, kv_637⟩ ⟨by decide, by decide, by decide⟩ ⟨Nat.le_of_ble_eq_true rfl, Nat.le_of_ble_eq_true rfl⟩ ⟨Nat.zero_le _, Nat.zero_le _⟩ rfl hl.1 rfl (Nat.le_of_ble_eq_true rfl) dX9_jar_1 (fun r1 w2 H locs hp3 h => ?_)
  obtain ⟨rfl, hr4⟩ := hp3
  rcases hr4 with ⟨hq5, hq6, rfl⟩ | ⟨hq7, rfl⟩
  · refine lv_if_ne (tgt := 14) hx hb dX9_jar_4 (by decide) (fun _ => ?_) (fun hc => absurd hc (by decide))
    refine lv_aload_n hx hb dX9_jar_14 rfl (lv_at hl 0 rfl) ?_
    obtain ⟨x9, x10, t11, t12, t13, t14, t15, t16, f8, h17, h18⟩ := (show sM ad (w 64) from ok 64 (by decide))
    have f19 : w 64 = .inr (7, [.ref (ad 65), .ref (ad 66), .ref (ad 67), .ref (ad 68), .long x9, .long x10, .ref (ad 69), .int t11, .ref (ad 70), .ref (ad 71), .int t12, .int t13, .int t14, .int t15, .int t16, .ref (ad 72), .ref (ad 73)]) := f8
    refine r_get kc9 X h 64 0 (by decide) rfl f19 (by decide) kv_467 rfl dX9_jar_15 ?_
    refine lv_iconst (v := 1) hx hb dX9_jar_18 (by decide) ?_
    refine o_iald (v := v1) X h 65 0 (by decide) rfl pf rfl (by unfold vp_in; decide) ev1 dX9_jar_19 ?_
    refine lv_iconst (v := 4) hx hb dX9_jar_20 (by decide) ?_
    refine lv_icmp_ne (tgt := 29) hx hb dX9_jar_21 (by decide) (fun hc20 => ?_) (fun hc20 => ?_)
    · have hc20 : ¬ (v1).toInt = 4 := i_ne hc20 rfl rfl
      refine lv_aload_n hx hb dX9_jar_29 rfl (lv_at hl 0 rfl) ?_
      refine r_get kc9 X h 64 0 (by decide) rfl f19 (by decide) kv_467 rfl dX9_jar_30 ?_
      refine lv_iload_n hx hb dX9_jar_33 rfl (lv_at hl 1 rfl) ?_
      refine n_Sv (na := 2) (As := [.ref (ad 65), .int k]) (rest := []) X hD hN h (c_MF_layJar65 l G cI cB cZ cO ad w f ok k  pf pal (by rw [ev1]; omega)) ⟨kv_648, kv_649, kv_470, kv_650⟩ ⟨by decide, by decide, by decide⟩ ⟨Nat.le_of_ble_eq_true rfl, Nat.le_of_ble_eq_true rfl⟩ ⟨Nat.zero_le _, Nat.zero_le _⟩ rfl hl.1 rfl (Nat.le_of_ble_eq_true rfl) dX9_jar_34 (fun w22 H locs hp23 h => ?_)
      obtain ⟨ok24, kk25, hr26⟩ := hp23
      have kx27 : KN w w22 := (F65.n kk25)
      obtain ⟨g28, e29⟩ : ∃ z : Nat → Int32, layJF f k = z := ⟨_, rfl⟩
      rw [e29] at hr26
      have p30 : alA g28 := (alA_of65 ok24 (Or.inl rfl) hr26).1
      obtain ⟨x31, e32, t33⟩ := x_add (x := v1) (y := 1) (a := v1.toInt) (b := 1) rfl rfl (by omega) (by omega)
      have e34 : g28 1 = x31 := by rw [← e29, layJF_1, ev1]; exact e32
      refine lv_aload_n hx hb dX9_jar_37 rfl (lv_at hl 0 rfl) ?_
      have f35 : w22 64 = .inr (7, [.ref (ad 65), .ref (ad 66), .ref (ad 67), .ref (ad 68), .long x9, .long x10, .ref (ad 69), .int t11, .ref (ad 70), .ref (ad 71), .int t12, .int t13, .int t14, .int t15, .int t16, .ref (ad 72), .ref (ad 73)]) := (kk25 64 (by decide)).trans f19
      refine r_get kc9 X h 64 0 (by decide) rfl f35 (by decide) kv_467 rfl dX9_jar_38 ?_
      refine lv_iconst (v := 4) hx hb dX9_jar_41 (by decide) ?_
      refine lv_iconst (v := 0) hx hb dX9_jar_42 (by decide) ?_
      obtain ⟨g36, e37⟩ : ∃ z : Nat → Int32, upd g28 4 (0 : Int32) = z := ⟨_, rfl⟩
      have p38 : alA g36 := alA_upd5 p30 e37 (by decide) (by decide)
      refine o_iast (f1 := g36) X hD h 65 0 (by decide) rfl hr26 rfl (by unfold vp_in; decide) e37 dX9_jar_43 (fun H locs w39 e40 h => ?_)
      have f41 : w39 65 = .inl (cI, 177, .inl g36) := (congrFun e40 _).trans (va_up_self _ _ _)
      have ok42 : OK cI cB cZ cO ad w39 := OK.up ok24 e40 (sA_mk p38)
      have kx43 : KN w w39 := KN.up kx27 e40 hr26 rfl
      refine lv_aload_n hx hb dX9_jar_44 rfl (lv_at hl 0 rfl) ?_
      have f44 : w39 64 = .inr (7, [.ref (ad 65), .ref (ad 66), .ref (ad 67), .ref (ad 68), .long x9, .long x10, .ref (ad 69), .int t11, .ref (ad 70), .ref (ad 71), .int t12, .int t13, .int t14, .int t15, .int t16, .ref (ad 72), .ref (ad 73)]) := by rw [e40, va_up_ne _ _ (by decide)]; exact f35
      refine r_get kc9 X h 64 0 (by decide) rfl f44 (by decide) kv_467 rfl dX9_jar_45 ?_
      refine lv_iconst (v := 1) hx hb dX9_jar_48 (by decide) ?_
      have e45 : g36 1 = x31 := by rw [← e37, pk_un (by decide)]; exact e34
      refine o_iald (v := x31) X h 65 0 (by decide) rfl f41 rfl (by unfold vp_in; decide) e45 dX9_jar_49 ?_
      refine lv_iconst (v := 1) hx hb dX9_jar_50 (by decide) ?_
      obtain ⟨z48, e46, t47⟩ := x_sub (x := x31) (y := (1 : Int32)) (a := (x31).toInt) (b := 1) rfl rfl (by omega) (by omega)
      refine o_isub (z := z48) hx hb dX9_jar_51 e46 ?_
      exact e_i X h hr hlk dX9_jar_52 ⟨ok42, kx43, Or.inr (Or.inr ⟨by omega, by omega, (F65.up (F65.tr F65.rf kk25) e40), (fa_eq _ _).mpr (by omega), by rw [f41, ← e37, ← e29]⟩)⟩
    · have hc20 : (v1).toInt = 4 := i_eq hc20 rfl rfl
      refine lv_aload_n hx hb dX9_jar_24 rfl (lv_at hl 0 rfl) ?_
      refine n_Vi (na := 0) (As := []) (rest := []) X hD hN h rfl (c_M_full l G cI cB cZ cO ad w  ok   ) ⟨kv_644, kv_645, kv_646, kv_470, kv_647⟩ rfl ⟨by decide, by decide, by decide⟩ ⟨Nat.le_of_ble_eq_true rfl, Nat.le_of_ble_eq_true rfl⟩ ⟨Nat.zero_le _, Nat.zero_le _⟩ (by decide) f19 rfl rfl hl.1 rfl (Nat.le_of_ble_eq_true rfl) dX9_jar_25 (fun r49 w50 H locs hp51 h => ?_)
      have kM52 : KM w w50 := hp51.2.1
      obtain ⟨ok55, kk56, hr54⟩ := hp51
      have kx57 : KN w w50 := kk56.n
      subst hr54
      exact e_i X h hr hlk dX9_jar_28 ⟨ok55, kx57, Or.inr (Or.inl ⟨by omega, by omega, kM52, rfl⟩)⟩
  · refine lv_if_ne (tgt := 14) hx hb dX9_jar_4 (by decide) (fun hc => absurd (by decide) hc) (fun _ => ?_)
    refine lv_aload_n hx hb dX9_jar_7 rfl (lv_at hl 0 rfl) ?_
    refine lv_bipush (v := (-2)) hx hb dX9_jar_8 (by decide) ?_
    obtain ⟨x62, x63, t64, t65, t66, t67, t68, t69, f61, h70, h71⟩ := (show sM ad (w 64) from ok 64 (by decide))
    have f72 : w 64 = .inr (7, [.ref (ad 65), .ref (ad 66), .ref (ad 67), .ref (ad 68), .long x62, .long x63, .ref (ad 69), .int t64, .ref (ad 70), .ref (ad 71), .int t65, .int t66, .int t67, .int t68, .int t69, .ref (ad 72), .ref (ad 73)]) := f61
    refine n_Vi (na := 1) (As := [.int (-2)]) (rest := []) X hD hN h rfl (c_M_bad l G cI cB cZ cO ad w  ok ((-2) : Int32)  ) ⟨kv_553, kv_554, kv_555, kv_470, kv_556⟩ rfl ⟨by decide, by decide, by decide⟩ ⟨Nat.le_of_ble_eq_true rfl, Nat.le_of_ble_eq_true rfl⟩ ⟨Nat.zero_le _, Nat.zero_le _⟩ (by decide) f72 rfl rfl hl.1 rfl (Nat.le_of_ble_eq_true rfl) dX9_jar_10 (fun r58 w59 H locs hp60 h => ?_)
    have kM73 : KM w w59 := hp60.2.1
    obtain ⟨ok76, kk77, hr75⟩ := hp60
    have kx78 : KN w w59 := kk77.n
    subst hr75
    exact e_i X h hr hlk dX9_jar_13 ⟨ok76, kx78, Or.inl ⟨by omega, kM73, rfl⟩⟩

set_option maxHeartbeats 4000000 in
set_option maxRecDepth 100000 in
theorem c_MF_isCaster (l : Launch) (G : va_G) (cI cB cZ cO : ClassId) (ad : Nat → Nat) (w : Nat → va_E) (f : Nat → Int32) (ok : OK cI cB cZ cO ad w) (i : Int32)  (pf : w 65 = .inl (cI, 177, .inl f)) (pal : alA f) : NI l G (tyq cI cB cZ cO) yX9_isCaster cX9_isCaster 2 (some .boolean) 1 25 74 ad w [.ref (ad 64), .int i] (fun r w1 => w = w1 ∧ ((0 ≤ i.toInt ∧ i.toInt < (f 0).toInt ∧ r = 1) ∨ (¬ (0 ≤ i.toInt ∧ i.toInt < (f 0).toInt) ∧ r = 0))) := by
  refine nk_i (own := "NoonShadeModel") rfl (by decide) (Nat.le_of_ble_eq_true rfl) ?_
  intro p e s m below meth c ls X hD hN hr hlk h hl
  have hx := X.1.1
  have hb := X.1.2.1
  have hown := X.1.2.2.2.1
  have hts := X.1.2.2.2.2
  have hl : lv_has ls 2 [(0, .ref (ad 64)), (1, .int i)] := hl
  obtain ⟨v0, ev0⟩ : ∃ z : Int32, f 0 = z := ⟨_, rfl⟩
  have hv0 := (alA_rd pal ev0).1 rfl
  have hw0 := congrArg Int32.toInt ev0
  refine lv_iload_n hx hb dX9_isCaster_0 rfl (lv_at hl 1 rfl) ?_
  obtain ⟨z1, e2⟩ : ∃ z : Int64, i.toInt64 = z := ⟨_, rfl⟩
  have tz1 : z1.toInt = (i).toInt := by rw [← e2]; exact Int32.toInt_toInt64 _
  refine lv_i2l (v := z1) hx hb dX9_isCaster_1 e2 ?_
  refine lv_lconst (v := 0) hx hb dX9_isCaster_2 (by decide) ?_
  refine lv_aload_n hx hb dX9_isCaster_3 rfl (lv_at hl 0 rfl) ?_
  obtain ⟨x4, x5, t6, t7, t8, t9, t10, t11, f3, h12, h13⟩ := (show sM ad (w 64) from ok 64 (by decide))
  have f14 : w 64 = .inr (7, [.ref (ad 65), .ref (ad 66), .ref (ad 67), .ref (ad 68), .long x4, .long x5, .ref (ad 69), .int t6, .ref (ad 70), .ref (ad 71), .int t7, .int t8, .int t9, .int t10, .int t11, .ref (ad 72), .ref (ad 73)]) := f3
  refine r_get kc9 X h 64 0 (by decide) rfl f14 (by decide) kv_467 rfl dX9_isCaster_4 ?_
  refine lv_iconst (v := 0) hx hb dX9_isCaster_7 (by decide) ?_
  refine o_iald (v := v0) X h 65 0 (by decide) rfl pf rfl (by unfold vp_in; decide) ev0 dX9_isCaster_8 ?_
  refine lv_iconst (v := 1) hx hb dX9_isCaster_9 (by decide) ?_
  obtain ⟨z17, e15, t16⟩ := x_sub (x := v0) (y := (1 : Int32)) (a := (v0).toInt) (b := 1) rfl rfl (by omega) (by omega)
  refine o_isub (z := z17) hx hb dX9_isCaster_10 e15 ?_
  obtain ⟨z18, e19⟩ : ∃ z : Int64, z17.toInt64 = z := ⟨_, rfl⟩
  have tz18 : z18.toInt = (z17).toInt := by rw [← e19]; exact Int32.toInt_toInt64 _
  refine lv_i2l (v := z18) hx hb dX9_isCaster_11 e19 ?_
  refine n_Si (na := 3) (As := [.long z1, .long 0, .long z18]) (rest := []) X hD hN h (c_M_in l G cI cB cZ cO ad w z1 (0 : Int64) z18 ((i).toInt) 0 ((z17).toInt) tz1 rfl tz18) ⟨kv_468, kv_469, kv_470, kv_471⟩ ⟨by decide, by decide, by decide⟩ ⟨Nat.le_of_ble_eq_true rfl, Nat.le_of_ble_eq_true rfl⟩ ⟨Nat.zero_le _, Nat.zero_le _⟩ rfl hl.1 rfl (Nat.le_of_ble_eq_true rfl) dX9_isCaster_12 (fun r20 w21 H locs hp22 h => ?_)
  obtain ⟨rfl, hq23⟩ := hp22
  rcases hq23 with ⟨hq24, hq25, rfl⟩ | ⟨hq23, rfl⟩
  · exact e_n X h hr hlk rfl dX9_isCaster_15 ⟨rfl, Or.inl ⟨by omega, by omega, rfl⟩⟩
  · exact e_n X h hr hlk rfl dX9_isCaster_15 ⟨rfl, Or.inr ⟨by omega, rfl⟩⟩

set_option maxHeartbeats 4000000 in
set_option maxRecDepth 100000 in
theorem c_MF_isJar (l : Launch) (G : va_G) (cI cB cZ cO : ClassId) (ad : Nat → Nat) (w : Nat → va_E) (f : Nat → Int32) (ok : OK cI cB cZ cO ad w) (i : Int32)  (pf : w 65 = .inl (cI, 177, .inl f)) (pal : alA f) : NI l G (tyq cI cB cZ cO) yX9_isJar cX9_isJar 2 (some .boolean) 1 25 74 ad w [.ref (ad 64), .int i] (fun r w1 => w = w1 ∧ ((0 ≤ i.toInt ∧ i.toInt < (f 1).toInt ∧ r = 1) ∨ (¬ (0 ≤ i.toInt ∧ i.toInt < (f 1).toInt) ∧ r = 0))) := by
  refine nk_i (own := "NoonShadeModel") rfl (by decide) (Nat.le_of_ble_eq_true rfl) ?_
  intro p e s m below meth c ls X hD hN hr hlk h hl
  have hx := X.1.1
  have hb := X.1.2.1
  have hown := X.1.2.2.2.1
  have hts := X.1.2.2.2.2
  have hl : lv_has ls 2 [(0, .ref (ad 64)), (1, .int i)] := hl
  obtain ⟨v1, ev1⟩ : ∃ z : Int32, f 1 = z := ⟨_, rfl⟩
  have hv1 := (alA_rd pal ev1).2.1 rfl
  have hw1 := congrArg Int32.toInt ev1
  refine lv_iload_n hx hb dX9_isJar_0 rfl (lv_at hl 1 rfl) ?_
  obtain ⟨z1, e2⟩ : ∃ z : Int64, i.toInt64 = z := ⟨_, rfl⟩
  have tz1 : z1.toInt = (i).toInt := by rw [← e2]; exact Int32.toInt_toInt64 _
  refine lv_i2l (v := z1) hx hb dX9_isJar_1 e2 ?_
  refine lv_lconst (v := 0) hx hb dX9_isJar_2 (by decide) ?_
  refine lv_aload_n hx hb dX9_isJar_3 rfl (lv_at hl 0 rfl) ?_
  obtain ⟨x4, x5, t6, t7, t8, t9, t10, t11, f3, h12, h13⟩ := (show sM ad (w 64) from ok 64 (by decide))
  have f14 : w 64 = .inr (7, [.ref (ad 65), .ref (ad 66), .ref (ad 67), .ref (ad 68), .long x4, .long x5, .ref (ad 69), .int t6, .ref (ad 70), .ref (ad 71), .int t7, .int t8, .int t9, .int t10, .int t11, .ref (ad 72), .ref (ad 73)]) := f3
  refine r_get kc9 X h 64 0 (by decide) rfl f14 (by decide) kv_467 rfl dX9_isJar_4 ?_
  refine lv_iconst (v := 1) hx hb dX9_isJar_7 (by decide) ?_
  refine o_iald (v := v1) X h 65 0 (by decide) rfl pf rfl (by unfold vp_in; decide) ev1 dX9_isJar_8 ?_
  refine lv_iconst (v := 1) hx hb dX9_isJar_9 (by decide) ?_
  obtain ⟨z17, e15, t16⟩ := x_sub (x := v1) (y := (1 : Int32)) (a := (v1).toInt) (b := 1) rfl rfl (by omega) (by omega)
  refine o_isub (z := z17) hx hb dX9_isJar_10 e15 ?_
  obtain ⟨z18, e19⟩ : ∃ z : Int64, z17.toInt64 = z := ⟨_, rfl⟩
  have tz18 : z18.toInt = (z17).toInt := by rw [← e19]; exact Int32.toInt_toInt64 _
  refine lv_i2l (v := z18) hx hb dX9_isJar_11 e19 ?_
  refine n_Si (na := 3) (As := [.long z1, .long 0, .long z18]) (rest := []) X hD hN h (c_M_in l G cI cB cZ cO ad w z1 (0 : Int64) z18 ((i).toInt) 0 ((z17).toInt) tz1 rfl tz18) ⟨kv_468, kv_469, kv_470, kv_471⟩ ⟨by decide, by decide, by decide⟩ ⟨Nat.le_of_ble_eq_true rfl, Nat.le_of_ble_eq_true rfl⟩ ⟨Nat.zero_le _, Nat.zero_le _⟩ rfl hl.1 rfl (Nat.le_of_ble_eq_true rfl) dX9_isJar_12 (fun r20 w21 H locs hp22 h => ?_)
  obtain ⟨rfl, hq23⟩ := hp22
  rcases hq23 with ⟨hq24, hq25, rfl⟩ | ⟨hq23, rfl⟩
  · exact e_n X h hr hlk rfl dX9_isJar_15 ⟨rfl, Or.inl ⟨by omega, by omega, rfl⟩⟩
  · exact e_n X h hr hlk rfl dX9_isJar_15 ⟨rfl, Or.inr ⟨by omega, rfl⟩⟩

set_option maxHeartbeats 4000000 in
set_option maxRecDepth 100000 in
theorem c_MF_layFour (l : Launch) (G : va_G) (cI cB cZ cO : ClassId) (ad : Nat → Nat) (w : Nat → va_E) (f : Nat → Int32) (ok : OK cI cB cZ cO ad w) (x : Int32) (a : Int32) (y : Int32) (t : Int32) (d : Int32) (hl_x : 5 ≤ x.toInt) (hh_x : x.toInt ≤ 85) (pf : w 65 = .inl (cI, 177, .inl f)) (pal : alA f) : NV l G (tyq cI cB cZ cO) yX9_layFour cX9_layFour 6 0 0 74 ad w [.ref (ad 64), .int x, .int a, .int y, .int t, .int d] (fun w1 => OK cI cB cZ cO ad w1 ∧ F65 w w1 ∧ w1 65 = .inl (cI, 177, .inl (upd (upd (upd (upd f x.toNatClampNeg a) (x.toNatClampNeg + 1) y) (x.toNatClampNeg + 2) t) (x.toNatClampNeg + 3) d))) := by
  refine nk_v (own := "NoonShadeModel") rfl (by decide) (Nat.le_of_ble_eq_true rfl) ?_
  intro p e s m below meth c ls X hD hN hr hlk h hl
  have hx := X.1.1
  have hb := X.1.2.1
  have hown := X.1.2.2.2.1
  have hts := X.1.2.2.2.2
  have hl : lv_has ls 6 [(0, .ref (ad 64)), (1, .int x), (2, .int a), (3, .int y), (4, .int t), (5, .int d)] := hl
  have cxx := cl_of (x := x) (by omega)
  refine lv_aload_n hx hb dX9_layFour_0 rfl (lv_at hl 0 rfl) ?_
  obtain ⟨x2, x3, t4, t5, t6, t7, t8, t9, f1, h10, h11⟩ := (show sM ad (w 64) from ok 64 (by decide))
  have f12 : w 64 = .inr (7, [.ref (ad 65), .ref (ad 66), .ref (ad 67), .ref (ad 68), .long x2, .long x3, .ref (ad 69), .int t4, .ref (ad 70), .ref (ad 71), .int t5, .int t6, .int t7, .int t8, .int t9, .ref (ad 72), .ref (ad 73)]) := f1
  refine r_get kc9 X h 64 0 (by decide) rfl f12 (by decide) kv_467 rfl dX9_layFour_1 ?_
  refine lv_iload_n hx hb dX9_layFour_4 rfl (lv_at hl 1 rfl) ?_
  refine lv_iload_n hx hb dX9_layFour_5 rfl (lv_at hl 2 rfl) ?_
  obtain ⟨g13, e14⟩ : ∃ z : Nat → Int32, upd f x.toNatClampNeg a = z := ⟨_, rfl⟩
  have p15 : alA g13 := alA_upd pal e14 (by have := cl_of (x := x) (by omega); omega)
  refine o_iast (f1 := g13) X hD h 65 0 (by decide) rfl pf rfl (in_of (by omega) (by omega)) e14 dX9_layFour_6 (fun H locs w16 e17 h => ?_)
  have f18 : w16 65 = .inl (cI, 177, .inl g13) := (congrFun e17 _).trans (va_up_self _ _ _)
  have ok19 : OK cI cB cZ cO ad w16 := OK.up ok e17 (sA_mk p15)
  have kx20 : F65 w w16 := F65.up F65.rf e17
  refine lv_aload_n hx hb dX9_layFour_7 rfl (lv_at hl 0 rfl) ?_
  have f21 : w16 64 = .inr (7, [.ref (ad 65), .ref (ad 66), .ref (ad 67), .ref (ad 68), .long x2, .long x3, .ref (ad 69), .int t4, .ref (ad 70), .ref (ad 71), .int t5, .int t6, .int t7, .int t8, .int t9, .ref (ad 72), .ref (ad 73)]) := by rw [e17, va_up_ne _ _ (by decide)]; exact f12
  refine r_get kc9 X h 64 0 (by decide) rfl f21 (by decide) kv_467 rfl dX9_layFour_8 ?_
  refine lv_iload_n hx hb dX9_layFour_11 rfl (lv_at hl 1 rfl) ?_
  refine lv_iconst (v := 1) hx hb dX9_layFour_12 (by decide) ?_
  obtain ⟨z24, e22, t23⟩ := x_add (x := x) (y := (1 : Int32)) (a := (x).toInt) (b := 1) rfl rfl (by omega) (by omega)
  have n25 : z24.toNatClampNeg = x.toNatClampNeg + 1 := cl_addn (x := x) (y := (1 : Int32)) rfl rfl t23 (by omega) (by decide)
  refine o_iadd (z := z24) hx hb dX9_layFour_13 e22 ?_
  refine lv_iload_n hx hb dX9_layFour_14 rfl (lv_at hl 3 rfl) ?_
  obtain ⟨g26, e27⟩ : ∃ z : Nat → Int32, upd g13 (x.toNatClampNeg + 1) y = z := ⟨_, rfl⟩
  have p28 : alA g26 := alA_upd p15 e27 (by omega)
  refine o_iast (f1 := g26) X hD h 65 0 (by decide) rfl f18 rfl (in_of (by omega) (by omega)) (by rw [n25]; exact e27) dX9_layFour_15 (fun H locs w29 e30 h => ?_)
  have f31 : w29 65 = .inl (cI, 177, .inl g26) := (congrFun e30 _).trans (va_up_self _ _ _)
  have ok32 : OK cI cB cZ cO ad w29 := OK.up ok19 e30 (sA_mk p28)
  have kx33 : F65 w w29 := F65.up kx20 e30
  refine lv_aload_n hx hb dX9_layFour_16 rfl (lv_at hl 0 rfl) ?_
  have f34 : w29 64 = .inr (7, [.ref (ad 65), .ref (ad 66), .ref (ad 67), .ref (ad 68), .long x2, .long x3, .ref (ad 69), .int t4, .ref (ad 70), .ref (ad 71), .int t5, .int t6, .int t7, .int t8, .int t9, .ref (ad 72), .ref (ad 73)]) := by rw [e30, va_up_ne _ _ (by decide)]; exact f21
  refine r_get kc9 X h 64 0 (by decide) rfl f34 (by decide) kv_467 rfl dX9_layFour_17 ?_
  refine lv_iload_n hx hb dX9_layFour_20 rfl (lv_at hl 1 rfl) ?_
  refine lv_iconst (v := 2) hx hb dX9_layFour_21 (by decide) ?_
  obtain ⟨z37, e35, t36⟩ := x_add (x := x) (y := (2 : Int32)) (a := (x).toInt) (b := 2) rfl rfl (by omega) (by omega)
  have n38 : z37.toNatClampNeg = x.toNatClampNeg + 2 := cl_addn (x := x) (y := (2 : Int32)) rfl rfl t36 (by omega) (by decide)
  refine o_iadd (z := z37) hx hb dX9_layFour_22 e35 ?_
  refine lv_iload hx hb dX9_layFour_23 (lv_at hl 4 rfl) ?_
  obtain ⟨g39, e40⟩ : ∃ z : Nat → Int32, upd g26 (x.toNatClampNeg + 2) t = z := ⟨_, rfl⟩
  have p41 : alA g39 := alA_upd p28 e40 (by omega)
  refine o_iast (f1 := g39) X hD h 65 0 (by decide) rfl f31 rfl (in_of (by omega) (by omega)) (by rw [n38]; exact e40) dX9_layFour_25 (fun H locs w42 e43 h => ?_)
  have f44 : w42 65 = .inl (cI, 177, .inl g39) := (congrFun e43 _).trans (va_up_self _ _ _)
  have ok45 : OK cI cB cZ cO ad w42 := OK.up ok32 e43 (sA_mk p41)
  have kx46 : F65 w w42 := F65.up kx33 e43
  refine lv_aload_n hx hb dX9_layFour_26 rfl (lv_at hl 0 rfl) ?_
  have f47 : w42 64 = .inr (7, [.ref (ad 65), .ref (ad 66), .ref (ad 67), .ref (ad 68), .long x2, .long x3, .ref (ad 69), .int t4, .ref (ad 70), .ref (ad 71), .int t5, .int t6, .int t7, .int t8, .int t9, .ref (ad 72), .ref (ad 73)]) := by rw [e43, va_up_ne _ _ (by decide)]; exact f34
  refine r_get kc9 X h 64 0 (by decide) rfl f47 (by decide) kv_467 rfl dX9_layFour_27 ?_
  refine lv_iload_n hx hb dX9_layFour_30 rfl (lv_at hl 1 rfl) ?_
  refine lv_iconst (v := 3) hx hb dX9_layFour_31 (by decide) ?_
  obtain ⟨z50, e48, t49⟩ := x_add (x := x) (y := (3 : Int32)) (a := (x).toInt) (b := 3) rfl rfl (by omega) (by omega)
  have n51 : z50.toNatClampNeg = x.toNatClampNeg + 3 := cl_addn (x := x) (y := (3 : Int32)) rfl rfl t49 (by omega) (by decide)
  refine o_iadd (z := z50) hx hb dX9_layFour_32 e48 ?_
  refine lv_iload hx hb dX9_layFour_33 (lv_at hl 5 rfl) ?_
  obtain ⟨g52, e53⟩ : ∃ z : Nat → Int32, upd g39 (x.toNatClampNeg + 3) d = z := ⟨_, rfl⟩
  have p54 : alA g52 := alA_upd p41 e53 (by omega)
  refine o_iast (f1 := g52) X hD h 65 0 (by decide) rfl f44 rfl (in_of (by omega) (by omega)) (by rw [n51]; exact e53) dX9_layFour_35 (fun H locs w55 e56 h => ?_)
  have f57 : w55 65 = .inl (cI, 177, .inl g52) := (congrFun e56 _).trans (va_up_self _ _ _)
  have ok58 : OK cI cB cZ cO ad w55 := OK.up ok45 e56 (sA_mk p54)
  have kx59 : F65 w w55 := F65.up kx46 e56
  have h460 : w55 65 = .inl (cI, 177, .inl (upd (upd (upd (upd f x.toNatClampNeg a) (x.toNatClampNeg + 1) y) (x.toNatClampNeg + 2) t) (x.toNatClampNeg + 3) d)) := by
    rw [f57]
    subst e53; subst e48; subst e40; subst e35; subst e27; subst e22; subst e14; rfl
  exact e_v X h hr hlk dX9_layFour_36 ⟨ok58, kx59, h460⟩

set_option maxHeartbeats 4000000 in
set_option maxRecDepth 100000 in
theorem c_MF_note (l : Launch) (G : va_G) (cI cB cZ cO : ClassId) (ad : Nat → Nat) (w : Nat → va_E) (f : Nat → Int32) (ok : OK cI cB cZ cO ad w) (i : Int32) (q : Int32) (t : Int32) (x : Int32)  (pf : w 65 = .inl (cI, 177, .inl f)) (pal : alA f) : NI l G (tyq cI cB cZ cO) yX9_note cX9_note 5 (some .int) 2 46 74 ad w [.ref (ad 64), .int i, .int q, .int t, .int x] (fun r w1 => OK cI cB cZ cO ad w1 ∧ KN w w1 ∧ ((¬ ((0 ≤ i.toInt ∧ i.toInt < (f 0).toInt) ∧ (1 ≤ q.toInt ∧ q.toInt ≤ 9) ∧ (0 ≤ t.toInt ∧ t.toInt ≤ 23) ∧ (0 ≤ x.toInt ∧ x.toInt ≤ 40)) ∧ KM w w1 ∧ r = -2) ∨ (((0 ≤ i.toInt ∧ i.toInt < (f 0).toInt) ∧ (1 ≤ q.toInt ∧ q.toInt ≤ 9) ∧ (0 ≤ t.toInt ∧ t.toInt ≤ 23) ∧ (0 ≤ x.toInt ∧ x.toInt ≤ 40)) ∧ (f 2).toInt = 6 ∧ KM w w1 ∧ r = -4) ∨ (((0 ≤ i.toInt ∧ i.toInt < (f 0).toInt) ∧ (1 ≤ q.toInt ∧ q.toInt ≤ 9) ∧ (0 ≤ t.toInt ∧ t.toInt ≤ 23) ∧ (0 ≤ x.toInt ∧ x.toInt ≤ 40)) ∧ ¬ (f 2).toInt = 6 ∧ F65 w w1 ∧ f 2 + 1 = r ∧ ∃ n : Nat, (n : Int) = 41 + 4 * (f 2).toInt ∧ w1 65 = .inl (cI, 177, .inl (upd (upd (upd (upd (upd f n i) (n + 1) q) (n + 2) t) (n + 3) x) 2 (f 2 + 1)))))) := by
  refine nk_i (own := "NoonShadeModel") rfl (by decide) (Nat.le_of_ble_eq_true rfl) ?_
  intro p e s m below meth c ls X hD hN hr hlk h hl
  have hx := X.1.1
  have hb := X.1.2.1
  have hown := X.1.2.2.2.1
  have hts := X.1.2.2.2.2
  have hl : lv_has ls 5 [(0, .ref (ad 64)), (1, .int i), (2, .int q), (3, .int t), (4, .int x)] := hl
  obtain ⟨v0, ev0⟩ : ∃ z : Int32, f 0 = z := ⟨_, rfl⟩
  have hv0 := (alA_rd pal ev0).1 rfl
  have hw0 := congrArg Int32.toInt ev0
  obtain ⟨v1, ev1⟩ : ∃ z : Int32, f 1 = z := ⟨_, rfl⟩
  have hv1 := (alA_rd pal ev1).2.1 rfl
  have hw1 := congrArg Int32.toInt ev1
  obtain ⟨v2, ev2⟩ : ∃ z : Int32, f 2 = z := ⟨_, rfl⟩
  have hv2 := (alA_rd pal ev2).2.2.1 rfl
  have hw2 := congrArg Int32.toInt ev2
  obtain ⟨v3, ev3⟩ : ∃ z : Int32, f 3 = z := ⟨_, rfl⟩
  have hv3 := (alA_rd pal ev3).2.2.2.1 rfl
  have hw3 := congrArg Int32.toInt ev3
  refine lv_aload_n hx hb dX9_note_0 rfl (lv_at hl 0 rfl) ?_
  refine lv_iload_n hx hb dX9_note_1 rfl (lv_at hl 1 rfl) ?_
  obtain ⟨x5, x6, t7, t8, t9, t10, t11, t12, f4, h13, h14⟩ := (show sM ad (w 64) from ok 64 (by decide))
  have f15 : w 64 = .inr (7, [.ref (ad 65), .ref (ad 66), .ref (ad 67), .ref (ad 68), .long x5, .long x6, .ref (ad 69), .int t7, .ref (ad 70), .ref (ad 71), .int t8, .int t9, .int t10, .int t11, .int t12, .ref (ad 72), .ref (ad 73)]) := f4
  refine n_Vi (na := 1) (As := [.int i]) (rest := []) X hD hN h rfl (c_MF_isCaster l G cI cB cZ cO ad w f ok i  pf pal) ⟨kv_519, kv_520, kv_521, kv_470, kv_522⟩ rfl ⟨by decide, by decide, by decide⟩ ⟨Nat.le_of_ble_eq_true rfl, Nat.le_of_ble_eq_true rfl⟩ ⟨Nat.zero_le _, Nat.zero_le _⟩ (by decide) f15 rfl rfl hl.1 rfl (Nat.le_of_ble_eq_true rfl) dX9_note_2 (fun r1 w2 H locs hp3 h => ?_)
  obtain ⟨rfl, hr16⟩ := hp3
  rcases hr16 with ⟨hq17, hq18, rfl⟩ | ⟨hq19, rfl⟩
  · refine lv_if_eq (tgt := 35) hx hb dX9_note_5 (by decide) (fun hc => absurd hc (by decide)) (fun _ => ?_)
    refine lv_iload_n hx hb dX9_note_8 rfl (lv_at hl 2 rfl) ?_
    refine n_Si (na := 1) (As := [.int q]) (rest := []) X hD hN h (c_M_isHeight l G cI cB cZ cO ad w   q  ) ⟨kv_638, kv_639, kv_470, kv_640⟩ ⟨by decide, by decide, by decide⟩ ⟨Nat.le_of_ble_eq_true rfl, Nat.le_of_ble_eq_true rfl⟩ ⟨Nat.zero_le _, Nat.zero_le _⟩ rfl hl.1 rfl (Nat.le_of_ble_eq_true rfl) dX9_note_9 (fun r20 w21 H locs hp22 h => ?_)
    obtain ⟨rfl, hr23⟩ := hp22
    rcases hr23 with ⟨hq24, hq25, rfl⟩ | ⟨hq26, rfl⟩
    · refine lv_if_eq (tgt := 35) hx hb dX9_note_12 (by decide) (fun hc => absurd hc (by decide)) (fun _ => ?_)
      refine lv_iload_n hx hb dX9_note_15 rfl (lv_at hl 3 rfl) ?_
      refine n_Si (na := 1) (As := [.int t]) (rest := []) X hD hN h (c_M_isHour l G cI cB cZ cO ad w   t  ) ⟨kv_651, kv_652, kv_470, kv_653⟩ ⟨by decide, by decide, by decide⟩ ⟨Nat.le_of_ble_eq_true rfl, Nat.le_of_ble_eq_true rfl⟩ ⟨Nat.zero_le _, Nat.zero_le _⟩ rfl hl.1 rfl (Nat.le_of_ble_eq_true rfl) dX9_note_16 (fun r27 w28 H locs hp29 h => ?_)
      obtain ⟨rfl, hr30⟩ := hp29
      rcases hr30 with ⟨hq31, hq32, rfl⟩ | ⟨hq33, rfl⟩
      · refine lv_if_eq (tgt := 35) hx hb dX9_note_19 (by decide) (fun hc => absurd hc (by decide)) (fun _ => ?_)
        refine lv_iload hx hb dX9_note_22 (lv_at hl 4 rfl) ?_
        obtain ⟨z34, e35⟩ : ∃ z : Int64, x.toInt64 = z := ⟨_, rfl⟩
        have tz34 : z34.toInt = (x).toInt := by rw [← e35]; exact Int32.toInt_toInt64 _
        refine lv_i2l (v := z34) hx hb dX9_note_24 e35 ?_
        refine lv_lconst (v := 0) hx hb dX9_note_25 (by decide) ?_
        refine lv_ldc2 (v := 40) hx hb hown (hts _ kv_654) dX9_note_26 ?_
        refine n_Si (na := 3) (As := [.long z34, .long 0, .long 40]) (rest := []) X hD hN h (c_M_in l G cI cB cZ cO ad w z34 (0 : Int64) (40 : Int64) ((x).toInt) 0 40 tz34 rfl rfl) ⟨kv_468, kv_469, kv_470, kv_471⟩ ⟨by decide, by decide, by decide⟩ ⟨Nat.le_of_ble_eq_true rfl, Nat.le_of_ble_eq_true rfl⟩ ⟨Nat.zero_le _, Nat.zero_le _⟩ rfl hl.1 rfl (Nat.le_of_ble_eq_true rfl) dX9_note_29 (fun r36 w37 H locs hp38 h => ?_)
        obtain ⟨rfl, hq39⟩ := hp38
        rcases hq39 with ⟨hq40, hq41, rfl⟩ | ⟨hq39, rfl⟩
        · refine lv_if_ne (tgt := 42) hx hb dX9_note_32 (by decide) (fun _ => ?_) (fun hc => absurd hc (by decide))
          refine lv_aload_n hx hb dX9_note_42 rfl (lv_at hl 0 rfl) ?_
          refine r_get kc9 X h 64 0 (by decide) rfl f15 (by decide) kv_467 rfl dX9_note_43 ?_
          refine lv_iconst (v := 2) hx hb dX9_note_46 (by decide) ?_
          refine o_iald (v := v2) X h 65 0 (by decide) rfl pf rfl (by unfold vp_in; decide) ev2 dX9_note_47 ?_
          refine lv_bipush (v := 6) hx hb dX9_note_48 (by decide) ?_
          refine lv_icmp_ne (tgt := 58) hx hb dX9_note_50 (by decide) (fun hc42 => ?_) (fun hc42 => ?_)
          · have hc42 : ¬ (v2).toInt = 6 := i_ne hc42 rfl rfl
            refine lv_aload_n hx hb dX9_note_58 rfl (lv_at hl 0 rfl) ?_
            refine lv_bipush (v := 41) hx hb dX9_note_59 (by decide) ?_
            refine lv_iconst (v := 4) hx hb dX9_note_61 (by decide) ?_
            refine lv_aload_n hx hb dX9_note_62 rfl (lv_at hl 0 rfl) ?_
            refine r_get kc9 X h 64 0 (by decide) rfl f15 (by decide) kv_467 rfl dX9_note_63 ?_
            refine lv_iconst (v := 2) hx hb dX9_note_66 (by decide) ?_
            refine o_iald (v := v2) X h 65 0 (by decide) rfl pf rfl (by unfold vp_in; decide) ev2 dX9_note_67 ?_
            obtain ⟨z45, e43, t44⟩ := x_mul (x := (4 : Int32)) (y := v2) (a := 4) (b := (v2).toInt) rfl rfl (by omega) (by omega)
            refine o_imul (z := z45) hx hb dX9_note_68 e43 ?_
            obtain ⟨z48, e46, t47⟩ := x_add (x := (41 : Int32)) (y := z45) (a := 41) (b := (z45).toInt) rfl rfl (by omega) (by omega)
            have n49 : z48.toNatClampNeg = 41 + z45.toNatClampNeg := cl_addn (x := (41 : Int32)) (y := z45) rfl rfl t47 (by decide) (by omega)
            refine o_iadd (z := z48) hx hb dX9_note_69 e46 ?_
            refine lv_iload_n hx hb dX9_note_70 rfl (lv_at hl 1 rfl) ?_
            refine lv_iload_n hx hb dX9_note_71 rfl (lv_at hl 2 rfl) ?_
            refine lv_iload_n hx hb dX9_note_72 rfl (lv_at hl 3 rfl) ?_
            refine lv_iload hx hb dX9_note_73 (lv_at hl 4 rfl) ?_
            refine n_Vv (na := 5) (As := [.int z48, .int i, .int q, .int t, .int x]) (rest := []) X hD hN h rfl (c_MF_layFour l G cI cB cZ cO ad w f ok z48 i q t x (by omega) (by omega) pf pal) ⟨kv_655, kv_656, kv_657, kv_470, kv_658⟩ rfl ⟨by decide, by decide, by decide⟩ ⟨Nat.le_of_ble_eq_true rfl, Nat.le_of_ble_eq_true rfl⟩ ⟨Nat.zero_le _, Nat.zero_le _⟩ (by decide) f15 rfl rfl hl.1 rfl (Nat.le_of_ble_eq_true rfl) dX9_note_75 (fun w51 H locs hp52 h => ?_)
            obtain ⟨ok53, kk54, hr55⟩ := hp52
            have kx56 : KN w w51 := (F65.n kk54)
            obtain ⟨g57, e58⟩ : ∃ z : Nat → Int32, (upd (upd (upd (upd f z48.toNatClampNeg i) (z48.toNatClampNeg + 1) q) (z48.toNatClampNeg + 2) t) (z48.toNatClampNeg + 3) x) = z := ⟨_, rfl⟩
            rw [e58] at hr55
            have p59 : alA g57 := (alA_of65 ok53 (Or.inl rfl) hr55).1
            have cx60 := cl_of (x := z48) (by omega)
            have e61 : g57 0 = v0 := by rw [← e58, pk_un (by omega), pk_un (by omega), pk_un (by omega), pk_un (by omega)]; exact ev0
            have e62 : g57 1 = v1 := by rw [← e58, pk_un (by omega), pk_un (by omega), pk_un (by omega), pk_un (by omega)]; exact ev1
            have e63 : g57 2 = v2 := by rw [← e58, pk_un (by omega), pk_un (by omega), pk_un (by omega), pk_un (by omega)]; exact ev2
            have e64 : g57 3 = v3 := by rw [← e58, pk_un (by omega), pk_un (by omega), pk_un (by omega), pk_un (by omega)]; exact ev3
            refine lv_aload_n hx hb dX9_note_78 rfl (lv_at hl 0 rfl) ?_
            have f65 : w51 64 = .inr (7, [.ref (ad 65), .ref (ad 66), .ref (ad 67), .ref (ad 68), .long x5, .long x6, .ref (ad 69), .int t7, .ref (ad 70), .ref (ad 71), .int t8, .int t9, .int t10, .int t11, .int t12, .ref (ad 72), .ref (ad 73)]) := (kk54 64 (by decide)).trans f15
            refine r_get kc9 X h 64 0 (by decide) rfl f65 (by decide) kv_467 rfl dX9_note_79 ?_
            refine lv_iconst (v := 2) hx hb dX9_note_82 (by decide) ?_
            refine lv_dup2_11 hx hb dX9_note_83 rfl rfl ?_
            refine o_iald (v := v2) X h 65 0 (by decide) rfl hr55 rfl (by unfold vp_in; decide) e63 dX9_note_84 ?_
            refine lv_iconst (v := 1) hx hb dX9_note_85 (by decide) ?_
            obtain ⟨z68, e66, t67⟩ := x_add (x := v2) (y := (1 : Int32)) (a := (v2).toInt) (b := 1) rfl rfl (by omega) (by omega)
            have n69 : z68.toNatClampNeg = v2.toNatClampNeg + 1 := cl_addn (x := v2) (y := (1 : Int32)) rfl rfl t67 (by omega) (by decide)
            refine o_iadd (z := z68) hx hb dX9_note_86 e66 ?_
            obtain ⟨g70, e71⟩ : ∃ z : Nat → Int32, upd g57 2 z68 = z := ⟨_, rfl⟩
            have p72 : alA g70 := alA_upd5 p59 e71 (by omega) (by first | omega | (simp; omega))
            refine o_iast (f1 := g70) X hD h 65 0 (by decide) rfl hr55 rfl (by unfold vp_in; decide) e71 dX9_note_87 (fun H locs w73 e74 h => ?_)
            have f75 : w73 65 = .inl (cI, 177, .inl g70) := (congrFun e74 _).trans (va_up_self _ _ _)
            have ok76 : OK cI cB cZ cO ad w73 := OK.up ok53 e74 (sA_mk p72)
            have kx77 : KN w w73 := KN.up kx56 e74 hr55 rfl
            refine lv_aload_n hx hb dX9_note_88 rfl (lv_at hl 0 rfl) ?_
            have f78 : w73 64 = .inr (7, [.ref (ad 65), .ref (ad 66), .ref (ad 67), .ref (ad 68), .long x5, .long x6, .ref (ad 69), .int t7, .ref (ad 70), .ref (ad 71), .int t8, .int t9, .int t10, .int t11, .int t12, .ref (ad 72), .ref (ad 73)]) := by rw [e74, va_up_ne _ _ (by decide)]; exact f65
            refine r_get kc9 X h 64 0 (by decide) rfl f78 (by decide) kv_467 rfl dX9_note_89 ?_
            refine lv_iconst (v := 2) hx hb dX9_note_92 (by decide) ?_
            have e79 : g70 2 = z68 := by rw [← e71, pk_us]
            refine o_iald (v := z68) X h 65 0 (by decide) rfl f75 rfl (by unfold vp_in; decide) e79 dX9_note_93 ?_
            have hn80 : (f 2 + 1).toInt = (f 2).toInt + 1 := inc32 (by omega) (by omega)
            have e81 : f 2 + 1 = z68 := (fa_eq _ _).mpr (by omega)
            exact e_i X h hr hlk dX9_note_94 ⟨ok76, kx77, Or.inr (Or.inr ⟨by omega, by omega, (F65.up (F65.tr F65.rf kk54) e74), e81, z48.toNatClampNeg, by omega, by rw [e81, f75, ← e71, ← e58]⟩)⟩
          · have hc42 : (v2).toInt = 6 := i_eq hc42 rfl rfl
            refine lv_aload_n hx hb dX9_note_53 rfl (lv_at hl 0 rfl) ?_
            refine n_Vi (na := 0) (As := []) (rest := []) X hD hN h rfl (c_M_full l G cI cB cZ cO ad w  ok   ) ⟨kv_644, kv_645, kv_646, kv_470, kv_647⟩ rfl ⟨by decide, by decide, by decide⟩ ⟨Nat.le_of_ble_eq_true rfl, Nat.le_of_ble_eq_true rfl⟩ ⟨Nat.zero_le _, Nat.zero_le _⟩ (by decide) f15 rfl rfl hl.1 rfl (Nat.le_of_ble_eq_true rfl) dX9_note_54 (fun r82 w83 H locs hp84 h => ?_)
            have kM85 : KM w w83 := hp84.2.1
            obtain ⟨ok88, kk89, hr87⟩ := hp84
            have kx90 : KN w w83 := kk89.n
            subst hr87
            exact e_i X h hr hlk dX9_note_57 ⟨ok88, kx90, Or.inr (Or.inl ⟨by omega, by omega, kM85, rfl⟩)⟩
        · refine lv_if_ne (tgt := 42) hx hb dX9_note_32 (by decide) (fun hc => absurd (by decide) hc) (fun _ => ?_)
          refine lv_aload_n hx hb dX9_note_35 rfl (lv_at hl 0 rfl) ?_
          refine lv_bipush (v := (-2)) hx hb dX9_note_36 (by decide) ?_
          refine n_Vi (na := 1) (As := [.int (-2)]) (rest := []) X hD hN h rfl (c_M_bad l G cI cB cZ cO ad w  ok ((-2) : Int32)  ) ⟨kv_553, kv_554, kv_555, kv_470, kv_556⟩ rfl ⟨by decide, by decide, by decide⟩ ⟨Nat.le_of_ble_eq_true rfl, Nat.le_of_ble_eq_true rfl⟩ ⟨Nat.zero_le _, Nat.zero_le _⟩ (by decide) f15 rfl rfl hl.1 rfl (Nat.le_of_ble_eq_true rfl) dX9_note_38 (fun r91 w92 H locs hp93 h => ?_)
          have kM94 : KM w w92 := hp93.2.1
          obtain ⟨ok97, kk98, hr96⟩ := hp93
          have kx99 : KN w w92 := kk98.n
          subst hr96
          exact e_i X h hr hlk dX9_note_41 ⟨ok97, kx99, Or.inl ⟨by omega, kM94, rfl⟩⟩
      · refine lv_if_eq (tgt := 35) hx hb dX9_note_19 (by decide) (fun _ => ?_) (fun hc => absurd (by decide) hc)
        refine lv_aload_n hx hb dX9_note_35 rfl (lv_at hl 0 rfl) ?_
        refine lv_bipush (v := (-2)) hx hb dX9_note_36 (by decide) ?_
        refine n_Vi (na := 1) (As := [.int (-2)]) (rest := []) X hD hN h rfl (c_M_bad l G cI cB cZ cO ad w  ok ((-2) : Int32)  ) ⟨kv_553, kv_554, kv_555, kv_470, kv_556⟩ rfl ⟨by decide, by decide, by decide⟩ ⟨Nat.le_of_ble_eq_true rfl, Nat.le_of_ble_eq_true rfl⟩ ⟨Nat.zero_le _, Nat.zero_le _⟩ (by decide) f15 rfl rfl hl.1 rfl (Nat.le_of_ble_eq_true rfl) dX9_note_38 (fun r100 w101 H locs hp102 h => ?_)
        have kM103 : KM w w101 := hp102.2.1
        obtain ⟨ok106, kk107, hr105⟩ := hp102
        have kx108 : KN w w101 := kk107.n
        subst hr105
        exact e_i X h hr hlk dX9_note_41 ⟨ok106, kx108, Or.inl ⟨by omega, kM103, rfl⟩⟩
    · refine lv_if_eq (tgt := 35) hx hb dX9_note_12 (by decide) (fun _ => ?_) (fun hc => absurd (by decide) hc)
      refine lv_aload_n hx hb dX9_note_35 rfl (lv_at hl 0 rfl) ?_
      refine lv_bipush (v := (-2)) hx hb dX9_note_36 (by decide) ?_
      refine n_Vi (na := 1) (As := [.int (-2)]) (rest := []) X hD hN h rfl (c_M_bad l G cI cB cZ cO ad w  ok ((-2) : Int32)  ) ⟨kv_553, kv_554, kv_555, kv_470, kv_556⟩ rfl ⟨by decide, by decide, by decide⟩ ⟨Nat.le_of_ble_eq_true rfl, Nat.le_of_ble_eq_true rfl⟩ ⟨Nat.zero_le _, Nat.zero_le _⟩ (by decide) f15 rfl rfl hl.1 rfl (Nat.le_of_ble_eq_true rfl) dX9_note_38 (fun r109 w110 H locs hp111 h => ?_)
      have kM112 : KM w w110 := hp111.2.1
      obtain ⟨ok115, kk116, hr114⟩ := hp111
      have kx117 : KN w w110 := kk116.n
      subst hr114
      exact e_i X h hr hlk dX9_note_41 ⟨ok115, kx117, Or.inl ⟨by omega, kM112, rfl⟩⟩
  · refine lv_if_eq (tgt := 35) hx hb dX9_note_5 (by decide) (fun _ => ?_) (fun hc => absurd (by decide) hc)
    refine lv_aload_n hx hb dX9_note_35 rfl (lv_at hl 0 rfl) ?_
    refine lv_bipush (v := (-2)) hx hb dX9_note_36 (by decide) ?_
    refine n_Vi (na := 1) (As := [.int (-2)]) (rest := []) X hD hN h rfl (c_M_bad l G cI cB cZ cO ad w  ok ((-2) : Int32)  ) ⟨kv_553, kv_554, kv_555, kv_470, kv_556⟩ rfl ⟨by decide, by decide, by decide⟩ ⟨Nat.le_of_ble_eq_true rfl, Nat.le_of_ble_eq_true rfl⟩ ⟨Nat.zero_le _, Nat.zero_le _⟩ (by decide) f15 rfl rfl hl.1 rfl (Nat.le_of_ble_eq_true rfl) dX9_note_38 (fun r118 w119 H locs hp120 h => ?_)
    have kM121 : KM w w119 := hp120.2.1
    obtain ⟨ok124, kk125, hr123⟩ := hp120
    have kx126 : KN w w119 := kk125.n
    subst hr123
    exact e_i X h hr hlk dX9_note_41 ⟨ok124, kx126, Or.inl ⟨by omega, kM121, rfl⟩⟩

set_option maxHeartbeats 4000000 in
set_option maxRecDepth 100000 in
theorem c_MF_mark (l : Launch) (G : va_G) (cI cB cZ cO : ClassId) (ad : Nat → Nat) (w : Nat → va_E) (f : Nat → Int32) (ok : OK cI cB cZ cO ad w) (i : Int32) (q : Int32) (t : Int32) (x : Int32)  (pf : w 65 = .inl (cI, 177, .inl f)) (pal : alA f) : NI l G (tyq cI cB cZ cO) yX9_mark cX9_mark 5 (some .int) 2 46 74 ad w [.ref (ad 64), .int i, .int q, .int t, .int x] (fun r w1 => OK cI cB cZ cO ad w1 ∧ KN w w1 ∧ ((¬ ((0 ≤ i.toInt ∧ i.toInt < (f 1).toInt) ∧ (0 ≤ q.toInt ∧ q.toInt ≤ 60) ∧ (0 ≤ t.toInt ∧ t.toInt ≤ 23) ∧ (0 ≤ x.toInt ∧ x.toInt ≤ 60)) ∧ KM w w1 ∧ r = -2) ∨ (((0 ≤ i.toInt ∧ i.toInt < (f 1).toInt) ∧ (0 ≤ q.toInt ∧ q.toInt ≤ 60) ∧ (0 ≤ t.toInt ∧ t.toInt ≤ 23) ∧ (0 ≤ x.toInt ∧ x.toInt ≤ 60)) ∧ (f 3).toInt = 6 ∧ KM w w1 ∧ r = -4) ∨ (((0 ≤ i.toInt ∧ i.toInt < (f 1).toInt) ∧ (0 ≤ q.toInt ∧ q.toInt ≤ 60) ∧ (0 ≤ t.toInt ∧ t.toInt ≤ 23) ∧ (0 ≤ x.toInt ∧ x.toInt ≤ 60)) ∧ ¬ (f 3).toInt = 6 ∧ F65 w w1 ∧ f 3 + 1 = r ∧ ∃ n : Nat, (n : Int) = 65 + 4 * (f 3).toInt ∧ w1 65 = .inl (cI, 177, .inl (upd (upd (upd (upd (upd f n i) (n + 1) q) (n + 2) t) (n + 3) x) 3 (f 3 + 1)))))) := by
  refine nk_i (own := "NoonShadeModel") rfl (by decide) (Nat.le_of_ble_eq_true rfl) ?_
  intro p e s m below meth c ls X hD hN hr hlk h hl
  have hx := X.1.1
  have hb := X.1.2.1
  have hown := X.1.2.2.2.1
  have hts := X.1.2.2.2.2
  have hl : lv_has ls 5 [(0, .ref (ad 64)), (1, .int i), (2, .int q), (3, .int t), (4, .int x)] := hl
  obtain ⟨v0, ev0⟩ : ∃ z : Int32, f 0 = z := ⟨_, rfl⟩
  have hv0 := (alA_rd pal ev0).1 rfl
  have hw0 := congrArg Int32.toInt ev0
  obtain ⟨v1, ev1⟩ : ∃ z : Int32, f 1 = z := ⟨_, rfl⟩
  have hv1 := (alA_rd pal ev1).2.1 rfl
  have hw1 := congrArg Int32.toInt ev1
  obtain ⟨v2, ev2⟩ : ∃ z : Int32, f 2 = z := ⟨_, rfl⟩
  have hv2 := (alA_rd pal ev2).2.2.1 rfl
  have hw2 := congrArg Int32.toInt ev2
  obtain ⟨v3, ev3⟩ : ∃ z : Int32, f 3 = z := ⟨_, rfl⟩
  have hv3 := (alA_rd pal ev3).2.2.2.1 rfl
  have hw3 := congrArg Int32.toInt ev3
  refine lv_aload_n hx hb dX9_mark_0 rfl (lv_at hl 0 rfl) ?_
  refine lv_iload_n hx hb dX9_mark_1 rfl (lv_at hl 1 rfl) ?_
  obtain ⟨x5, x6, t7, t8, t9, t10, t11, t12, f4, h13, h14⟩ := (show sM ad (w 64) from ok 64 (by decide))
  have f15 : w 64 = .inr (7, [.ref (ad 65), .ref (ad 66), .ref (ad 67), .ref (ad 68), .long x5, .long x6, .ref (ad 69), .int t7, .ref (ad 70), .ref (ad 71), .int t8, .int t9, .int t10, .int t11, .int t12, .ref (ad 72), .ref (ad 73)]) := f4
  refine n_Vi (na := 1) (As := [.int i]) (rest := []) X hD hN h rfl (c_MF_isJar l G cI cB cZ cO ad w f ok i  pf pal) ⟨kv_541, kv_542, kv_543, kv_470, kv_544⟩ rfl ⟨by decide, by decide, by decide⟩ ⟨Nat.le_of_ble_eq_true rfl, Nat.le_of_ble_eq_true rfl⟩ ⟨Nat.zero_le _, Nat.zero_le _⟩ (by decide) f15 rfl rfl hl.1 rfl (Nat.le_of_ble_eq_true rfl) dX9_mark_2 (fun r1 w2 H locs hp3 h => ?_)
  obtain ⟨rfl, hr16⟩ := hp3
  rcases hr16 with ⟨hq17, hq18, rfl⟩ | ⟨hq19, rfl⟩
  · refine lv_if_eq (tgt := 30) hx hb dX9_mark_5 (by decide) (fun hc => absurd hc (by decide)) (fun _ => ?_)
    refine lv_iload_n hx hb dX9_mark_8 rfl (lv_at hl 2 rfl) ?_
    refine n_Si (na := 1) (As := [.int q]) (rest := []) X hD hN h (c_M_isCool l G cI cB cZ cO ad w   q  ) ⟨kv_605, kv_606, kv_470, kv_607⟩ ⟨by decide, by decide, by decide⟩ ⟨Nat.le_of_ble_eq_true rfl, Nat.le_of_ble_eq_true rfl⟩ ⟨Nat.zero_le _, Nat.zero_le _⟩ rfl hl.1 rfl (Nat.le_of_ble_eq_true rfl) dX9_mark_9 (fun r20 w21 H locs hp22 h => ?_)
    obtain ⟨rfl, hr23⟩ := hp22
    rcases hr23 with ⟨hq24, hq25, rfl⟩ | ⟨hq26, rfl⟩
    · refine lv_if_eq (tgt := 30) hx hb dX9_mark_12 (by decide) (fun hc => absurd hc (by decide)) (fun _ => ?_)
      refine lv_iload_n hx hb dX9_mark_15 rfl (lv_at hl 3 rfl) ?_
      refine n_Si (na := 1) (As := [.int t]) (rest := []) X hD hN h (c_M_isHour l G cI cB cZ cO ad w   t  ) ⟨kv_651, kv_652, kv_470, kv_653⟩ ⟨by decide, by decide, by decide⟩ ⟨Nat.le_of_ble_eq_true rfl, Nat.le_of_ble_eq_true rfl⟩ ⟨Nat.zero_le _, Nat.zero_le _⟩ rfl hl.1 rfl (Nat.le_of_ble_eq_true rfl) dX9_mark_16 (fun r27 w28 H locs hp29 h => ?_)
      obtain ⟨rfl, hr30⟩ := hp29
      rcases hr30 with ⟨hq31, hq32, rfl⟩ | ⟨hq33, rfl⟩
      · refine lv_if_eq (tgt := 30) hx hb dX9_mark_19 (by decide) (fun hc => absurd hc (by decide)) (fun _ => ?_)
        refine lv_iload hx hb dX9_mark_22 (lv_at hl 4 rfl) ?_
        refine n_Si (na := 1) (As := [.int x]) (rest := []) X hD hN h (c_M_isCool l G cI cB cZ cO ad w   x  ) ⟨kv_605, kv_606, kv_470, kv_607⟩ ⟨by decide, by decide, by decide⟩ ⟨Nat.le_of_ble_eq_true rfl, Nat.le_of_ble_eq_true rfl⟩ ⟨Nat.zero_le _, Nat.zero_le _⟩ rfl hl.1 rfl (Nat.le_of_ble_eq_true rfl) dX9_mark_24 (fun r34 w35 H locs hp36 h => ?_)
        obtain ⟨rfl, hr37⟩ := hp36
        rcases hr37 with ⟨hq38, hq39, rfl⟩ | ⟨hq40, rfl⟩
        · refine lv_if_ne (tgt := 37) hx hb dX9_mark_27 (by decide) (fun _ => ?_) (fun hc => absurd hc (by decide))
          refine lv_aload_n hx hb dX9_mark_37 rfl (lv_at hl 0 rfl) ?_
          refine r_get kc9 X h 64 0 (by decide) rfl f15 (by decide) kv_467 rfl dX9_mark_38 ?_
          refine lv_iconst (v := 3) hx hb dX9_mark_41 (by decide) ?_
          refine o_iald (v := v3) X h 65 0 (by decide) rfl pf rfl (by unfold vp_in; decide) ev3 dX9_mark_42 ?_
          refine lv_bipush (v := 6) hx hb dX9_mark_43 (by decide) ?_
          refine lv_icmp_ne (tgt := 53) hx hb dX9_mark_45 (by decide) (fun hc41 => ?_) (fun hc41 => ?_)
          · have hc41 : ¬ (v3).toInt = 6 := i_ne hc41 rfl rfl
            refine lv_aload_n hx hb dX9_mark_53 rfl (lv_at hl 0 rfl) ?_
            refine lv_bipush (v := 65) hx hb dX9_mark_54 (by decide) ?_
            refine lv_iconst (v := 4) hx hb dX9_mark_56 (by decide) ?_
            refine lv_aload_n hx hb dX9_mark_57 rfl (lv_at hl 0 rfl) ?_
            refine r_get kc9 X h 64 0 (by decide) rfl f15 (by decide) kv_467 rfl dX9_mark_58 ?_
            refine lv_iconst (v := 3) hx hb dX9_mark_61 (by decide) ?_
            refine o_iald (v := v3) X h 65 0 (by decide) rfl pf rfl (by unfold vp_in; decide) ev3 dX9_mark_62 ?_
            obtain ⟨z44, e42, t43⟩ := x_mul (x := (4 : Int32)) (y := v3) (a := 4) (b := (v3).toInt) rfl rfl (by omega) (by omega)
            refine o_imul (z := z44) hx hb dX9_mark_63 e42 ?_
            obtain ⟨z47, e45, t46⟩ := x_add (x := (65 : Int32)) (y := z44) (a := 65) (b := (z44).toInt) rfl rfl (by omega) (by omega)
            have n48 : z47.toNatClampNeg = 65 + z44.toNatClampNeg := cl_addn (x := (65 : Int32)) (y := z44) rfl rfl t46 (by decide) (by omega)
            refine o_iadd (z := z47) hx hb dX9_mark_64 e45 ?_
            refine lv_iload_n hx hb dX9_mark_65 rfl (lv_at hl 1 rfl) ?_
            refine lv_iload_n hx hb dX9_mark_66 rfl (lv_at hl 2 rfl) ?_
            refine lv_iload_n hx hb dX9_mark_67 rfl (lv_at hl 3 rfl) ?_
            refine lv_iload hx hb dX9_mark_68 (lv_at hl 4 rfl) ?_
            refine n_Vv (na := 5) (As := [.int z47, .int i, .int q, .int t, .int x]) (rest := []) X hD hN h rfl (c_MF_layFour l G cI cB cZ cO ad w f ok z47 i q t x (by omega) (by omega) pf pal) ⟨kv_655, kv_656, kv_657, kv_470, kv_658⟩ rfl ⟨by decide, by decide, by decide⟩ ⟨Nat.le_of_ble_eq_true rfl, Nat.le_of_ble_eq_true rfl⟩ ⟨Nat.zero_le _, Nat.zero_le _⟩ (by decide) f15 rfl rfl hl.1 rfl (Nat.le_of_ble_eq_true rfl) dX9_mark_70 (fun w50 H locs hp51 h => ?_)
            obtain ⟨ok52, kk53, hr54⟩ := hp51
            have kx55 : KN w w50 := (F65.n kk53)
            obtain ⟨g56, e57⟩ : ∃ z : Nat → Int32, (upd (upd (upd (upd f z47.toNatClampNeg i) (z47.toNatClampNeg + 1) q) (z47.toNatClampNeg + 2) t) (z47.toNatClampNeg + 3) x) = z := ⟨_, rfl⟩
            rw [e57] at hr54
            have p58 : alA g56 := (alA_of65 ok52 (Or.inl rfl) hr54).1
            have cx59 := cl_of (x := z47) (by omega)
            have e60 : g56 0 = v0 := by rw [← e57, pk_un (by omega), pk_un (by omega), pk_un (by omega), pk_un (by omega)]; exact ev0
            have e61 : g56 1 = v1 := by rw [← e57, pk_un (by omega), pk_un (by omega), pk_un (by omega), pk_un (by omega)]; exact ev1
            have e62 : g56 2 = v2 := by rw [← e57, pk_un (by omega), pk_un (by omega), pk_un (by omega), pk_un (by omega)]; exact ev2
            have e63 : g56 3 = v3 := by rw [← e57, pk_un (by omega), pk_un (by omega), pk_un (by omega), pk_un (by omega)]; exact ev3
            refine lv_aload_n hx hb dX9_mark_73 rfl (lv_at hl 0 rfl) ?_
            have f64 : w50 64 = .inr (7, [.ref (ad 65), .ref (ad 66), .ref (ad 67), .ref (ad 68), .long x5, .long x6, .ref (ad 69), .int t7, .ref (ad 70), .ref (ad 71), .int t8, .int t9, .int t10, .int t11, .int t12, .ref (ad 72), .ref (ad 73)]) := (kk53 64 (by decide)).trans f15
            refine r_get kc9 X h 64 0 (by decide) rfl f64 (by decide) kv_467 rfl dX9_mark_74 ?_
            refine lv_iconst (v := 3) hx hb dX9_mark_77 (by decide) ?_
            refine lv_dup2_11 hx hb dX9_mark_78 rfl rfl ?_
            refine o_iald (v := v3) X h 65 0 (by decide) rfl hr54 rfl (by unfold vp_in; decide) e63 dX9_mark_79 ?_
            refine lv_iconst (v := 1) hx hb dX9_mark_80 (by decide) ?_
            obtain ⟨z67, e65, t66⟩ := x_add (x := v3) (y := (1 : Int32)) (a := (v3).toInt) (b := 1) rfl rfl (by omega) (by omega)
            have n68 : z67.toNatClampNeg = v3.toNatClampNeg + 1 := cl_addn (x := v3) (y := (1 : Int32)) rfl rfl t66 (by omega) (by decide)
            refine o_iadd (z := z67) hx hb dX9_mark_81 e65 ?_
            obtain ⟨g69, e70⟩ : ∃ z : Nat → Int32, upd g56 3 z67 = z := ⟨_, rfl⟩
            have p71 : alA g69 := alA_upd5 p58 e70 (by omega) (by first | omega | (simp; omega))
            refine o_iast (f1 := g69) X hD h 65 0 (by decide) rfl hr54 rfl (by unfold vp_in; decide) e70 dX9_mark_82 (fun H locs w72 e73 h => ?_)
            have f74 : w72 65 = .inl (cI, 177, .inl g69) := (congrFun e73 _).trans (va_up_self _ _ _)
            have ok75 : OK cI cB cZ cO ad w72 := OK.up ok52 e73 (sA_mk p71)
            have kx76 : KN w w72 := KN.up kx55 e73 hr54 rfl
            refine lv_aload_n hx hb dX9_mark_83 rfl (lv_at hl 0 rfl) ?_
            have f77 : w72 64 = .inr (7, [.ref (ad 65), .ref (ad 66), .ref (ad 67), .ref (ad 68), .long x5, .long x6, .ref (ad 69), .int t7, .ref (ad 70), .ref (ad 71), .int t8, .int t9, .int t10, .int t11, .int t12, .ref (ad 72), .ref (ad 73)]) := by rw [e73, va_up_ne _ _ (by decide)]; exact f64
            refine r_get kc9 X h 64 0 (by decide) rfl f77 (by decide) kv_467 rfl dX9_mark_84 ?_
            refine lv_iconst (v := 3) hx hb dX9_mark_87 (by decide) ?_
            have e78 : g69 3 = z67 := by rw [← e70, pk_us]
            refine o_iald (v := z67) X h 65 0 (by decide) rfl f74 rfl (by unfold vp_in; decide) e78 dX9_mark_88 ?_
            have hn79 : (f 3 + 1).toInt = (f 3).toInt + 1 := inc32 (by omega) (by omega)
            have e80 : f 3 + 1 = z67 := (fa_eq _ _).mpr (by omega)
            exact e_i X h hr hlk dX9_mark_89 ⟨ok75, kx76, Or.inr (Or.inr ⟨by omega, by omega, (F65.up (F65.tr F65.rf kk53) e73), e80, z47.toNatClampNeg, by omega, by rw [e80, f74, ← e70, ← e57]⟩)⟩
          · have hc41 : (v3).toInt = 6 := i_eq hc41 rfl rfl
            refine lv_aload_n hx hb dX9_mark_48 rfl (lv_at hl 0 rfl) ?_
            refine n_Vi (na := 0) (As := []) (rest := []) X hD hN h rfl (c_M_full l G cI cB cZ cO ad w  ok   ) ⟨kv_644, kv_645, kv_646, kv_470, kv_647⟩ rfl ⟨by decide, by decide, by decide⟩ ⟨Nat.le_of_ble_eq_true rfl, Nat.le_of_ble_eq_true rfl⟩ ⟨Nat.zero_le _, Nat.zero_le _⟩ (by decide) f15 rfl rfl hl.1 rfl (Nat.le_of_ble_eq_true rfl) dX9_mark_49 (fun r81 w82 H locs hp83 h => ?_)
            have kM84 : KM w w82 := hp83.2.1
            obtain ⟨ok87, kk88, hr86⟩ := hp83
            have kx89 : KN w w82 := kk88.n
            subst hr86
            exact e_i X h hr hlk dX9_mark_52 ⟨ok87, kx89, Or.inr (Or.inl ⟨by omega, by omega, kM84, rfl⟩)⟩
        · refine lv_if_ne (tgt := 37) hx hb dX9_mark_27 (by decide) (fun hc => absurd (by decide) hc) (fun _ => ?_)
          refine lv_aload_n hx hb dX9_mark_30 rfl (lv_at hl 0 rfl) ?_
          refine lv_bipush (v := (-2)) hx hb dX9_mark_31 (by decide) ?_
          refine n_Vi (na := 1) (As := [.int (-2)]) (rest := []) X hD hN h rfl (c_M_bad l G cI cB cZ cO ad w  ok ((-2) : Int32)  ) ⟨kv_553, kv_554, kv_555, kv_470, kv_556⟩ rfl ⟨by decide, by decide, by decide⟩ ⟨Nat.le_of_ble_eq_true rfl, Nat.le_of_ble_eq_true rfl⟩ ⟨Nat.zero_le _, Nat.zero_le _⟩ (by decide) f15 rfl rfl hl.1 rfl (Nat.le_of_ble_eq_true rfl) dX9_mark_33 (fun r90 w91 H locs hp92 h => ?_)
          have kM93 : KM w w91 := hp92.2.1
          obtain ⟨ok96, kk97, hr95⟩ := hp92
          have kx98 : KN w w91 := kk97.n
          subst hr95
          exact e_i X h hr hlk dX9_mark_36 ⟨ok96, kx98, Or.inl ⟨by omega, kM93, rfl⟩⟩
      · refine lv_if_eq (tgt := 30) hx hb dX9_mark_19 (by decide) (fun _ => ?_) (fun hc => absurd (by decide) hc)
        refine lv_aload_n hx hb dX9_mark_30 rfl (lv_at hl 0 rfl) ?_
        refine lv_bipush (v := (-2)) hx hb dX9_mark_31 (by decide) ?_
        refine n_Vi (na := 1) (As := [.int (-2)]) (rest := []) X hD hN h rfl (c_M_bad l G cI cB cZ cO ad w  ok ((-2) : Int32)  ) ⟨kv_553, kv_554, kv_555, kv_470, kv_556⟩ rfl ⟨by decide, by decide, by decide⟩ ⟨Nat.le_of_ble_eq_true rfl, Nat.le_of_ble_eq_true rfl⟩ ⟨Nat.zero_le _, Nat.zero_le _⟩ (by decide) f15 rfl rfl hl.1 rfl (Nat.le_of_ble_eq_true rfl) dX9_mark_33 (fun r99 w100 H locs hp101 h => ?_)
        have kM102 : KM w w100 := hp101.2.1
        obtain ⟨ok105, kk106, hr104⟩ := hp101
        have kx107 : KN w w100 := kk106.n
        subst hr104
        exact e_i X h hr hlk dX9_mark_36 ⟨ok105, kx107, Or.inl ⟨by omega, kM102, rfl⟩⟩
    · refine lv_if_eq (tgt := 30) hx hb dX9_mark_12 (by decide) (fun _ => ?_) (fun hc => absurd (by decide) hc)
      refine lv_aload_n hx hb dX9_mark_30 rfl (lv_at hl 0 rfl) ?_
      refine lv_bipush (v := (-2)) hx hb dX9_mark_31 (by decide) ?_
      refine n_Vi (na := 1) (As := [.int (-2)]) (rest := []) X hD hN h rfl (c_M_bad l G cI cB cZ cO ad w  ok ((-2) : Int32)  ) ⟨kv_553, kv_554, kv_555, kv_470, kv_556⟩ rfl ⟨by decide, by decide, by decide⟩ ⟨Nat.le_of_ble_eq_true rfl, Nat.le_of_ble_eq_true rfl⟩ ⟨Nat.zero_le _, Nat.zero_le _⟩ (by decide) f15 rfl rfl hl.1 rfl (Nat.le_of_ble_eq_true rfl) dX9_mark_33 (fun r108 w109 H locs hp110 h => ?_)
      have kM111 : KM w w109 := hp110.2.1
      obtain ⟨ok114, kk115, hr113⟩ := hp110
      have kx116 : KN w w109 := kk115.n
      subst hr113
      exact e_i X h hr hlk dX9_mark_36 ⟨ok114, kx116, Or.inl ⟨by omega, kM111, rfl⟩⟩
  · refine lv_if_eq (tgt := 30) hx hb dX9_mark_5 (by decide) (fun _ => ?_) (fun hc => absurd (by decide) hc)
    refine lv_aload_n hx hb dX9_mark_30 rfl (lv_at hl 0 rfl) ?_
    refine lv_bipush (v := (-2)) hx hb dX9_mark_31 (by decide) ?_
    refine n_Vi (na := 1) (As := [.int (-2)]) (rest := []) X hD hN h rfl (c_M_bad l G cI cB cZ cO ad w  ok ((-2) : Int32)  ) ⟨kv_553, kv_554, kv_555, kv_470, kv_556⟩ rfl ⟨by decide, by decide, by decide⟩ ⟨Nat.le_of_ble_eq_true rfl, Nat.le_of_ble_eq_true rfl⟩ ⟨Nat.zero_le _, Nat.zero_le _⟩ (by decide) f15 rfl rfl hl.1 rfl (Nat.le_of_ble_eq_true rfl) dX9_mark_33 (fun r117 w118 H locs hp119 h => ?_)
    have kM120 : KM w w118 := hp119.2.1
    obtain ⟨ok123, kk124, hr122⟩ := hp119
    have kx125 : KN w w118 := kk124.n
    subst hr122
    exact e_i X h hr hlk dX9_mark_36 ⟨ok123, kx125, Or.inl ⟨by omega, kM120, rfl⟩⟩

set_option maxHeartbeats 4000000 in
set_option maxRecDepth 100000 in
theorem c_MF_forget (l : Launch) (G : va_G) (cI cB cZ cO : ClassId) (ad : Nat → Nat) (w : Nat → va_E) (f : Nat → Int32) (ok : OK cI cB cZ cO ad w) (u : Int32)  (pf : w 65 = .inl (cI, 177, .inl f)) (pal : alA f) : NI l G (tyq cI cB cZ cO) yX9_forget cX9_forget 3 (some .int) 1 25 74 ad w [.ref (ad 64), .int u] (fun r w1 => OK cI cB cZ cO ad w1 ∧ KN w w1 ∧ ((¬ (0 ≤ u.toInt ∧ u.toInt ≤ 1) ∧ KM w w1 ∧ r = -2) ∨ ((0 ≤ u.toInt ∧ u.toInt ≤ 1) ∧ F65 w w1 ∧ f (2 + u.toNatClampNeg) = r ∧ w1 65 = .inl (cI, 177, .inl (upd f (2 + u.toNatClampNeg) 0))))) := by
  refine nk_i (own := "NoonShadeModel") rfl (by decide) (Nat.le_of_ble_eq_true rfl) ?_
  intro p e s m below meth c ls X hD hN hr hlk h hl
  have hx := X.1.1
  have hb := X.1.2.1
  have hown := X.1.2.2.2.1
  have hts := X.1.2.2.2.2
  have hl : lv_has ls 3 [(0, .ref (ad 64)), (1, .int u)] := hl
  refine lv_iload_n hx hb dX9_forget_0 rfl (lv_at hl 1 rfl) ?_
  obtain ⟨z1, e2⟩ : ∃ z : Int64, u.toInt64 = z := ⟨_, rfl⟩
  have tz1 : z1.toInt = (u).toInt := by rw [← e2]; exact Int32.toInt_toInt64 _
  refine lv_i2l (v := z1) hx hb dX9_forget_1 e2 ?_
  refine lv_lconst (v := 0) hx hb dX9_forget_2 (by decide) ?_
  refine lv_lconst (v := 1) hx hb dX9_forget_3 (by decide) ?_
  refine n_Si (na := 3) (As := [.long z1, .long 0, .long 1]) (rest := []) X hD hN h (c_M_in l G cI cB cZ cO ad w z1 (0 : Int64) (1 : Int64) ((u).toInt) 0 1 tz1 rfl rfl) ⟨kv_468, kv_469, kv_470, kv_471⟩ ⟨by decide, by decide, by decide⟩ ⟨Nat.le_of_ble_eq_true rfl, Nat.le_of_ble_eq_true rfl⟩ ⟨Nat.zero_le _, Nat.zero_le _⟩ rfl hl.1 rfl (Nat.le_of_ble_eq_true rfl) dX9_forget_4 (fun r3 w4 H locs hp5 h => ?_)
  obtain ⟨rfl, hq6⟩ := hp5
  rcases hq6 with ⟨hq7, hq8, rfl⟩ | ⟨hq6, rfl⟩
  · refine lv_if_ne (tgt := 17) hx hb dX9_forget_7 (by decide) (fun _ => ?_) (fun hc => absurd hc (by decide))
    refine lv_aload_n hx hb dX9_forget_17 rfl (lv_at hl 0 rfl) ?_
    obtain ⟨x10, x11, t12, t13, t14, t15, t16, t17, f9, h18, h19⟩ := (show sM ad (w 64) from ok 64 (by decide))
    have f20 : w 64 = .inr (7, [.ref (ad 65), .ref (ad 66), .ref (ad 67), .ref (ad 68), .long x10, .long x11, .ref (ad 69), .int t12, .ref (ad 70), .ref (ad 71), .int t13, .int t14, .int t15, .int t16, .int t17, .ref (ad 72), .ref (ad 73)]) := f9
    refine r_get kc9 X h 64 0 (by decide) rfl f20 (by decide) kv_467 rfl dX9_forget_18 ?_
    refine lv_iconst (v := 2) hx hb dX9_forget_21 (by decide) ?_
    refine lv_iload_n hx hb dX9_forget_22 rfl (lv_at hl 1 rfl) ?_
    obtain ⟨z23, e21, t22⟩ := x_add (x := (2 : Int32)) (y := u) (a := 2) (b := (u).toInt) rfl rfl (by omega) (by omega)
    have n24 : z23.toNatClampNeg = 2 + u.toNatClampNeg := cl_addn (x := (2 : Int32)) (y := u) rfl rfl t22 (by decide) (by omega)
    refine o_iadd (z := z23) hx hb dX9_forget_23 e21 ?_
    obtain ⟨v25, e26⟩ : ∃ z : Int32, f (2 + u.toNatClampNeg) = z := ⟨_, rfl⟩
    refine o_iald (v := v25) X h 65 0 (by decide) rfl pf rfl (in_of (by omega) (by omega)) (by rw [n24]; exact e26) dX9_forget_24 ?_
    refine lv_istore_n (lv' := [(2, .int v25), (0, .ref (ad 64)), (1, .int u)]) hx hb dX9_forget_25 rfl hl (by decide) rfl (fun ls hl => ?_)
    refine lv_aload_n hx hb dX9_forget_26 rfl (lv_at hl 1 rfl) ?_
    refine r_get kc9 X h 64 0 (by decide) rfl f20 (by decide) kv_467 rfl dX9_forget_27 ?_
    refine lv_iconst (v := 2) hx hb dX9_forget_30 (by decide) ?_
    refine lv_iload_n hx hb dX9_forget_31 rfl (lv_at hl 2 rfl) ?_
    obtain ⟨z30, e28, t29⟩ := x_add (x := (2 : Int32)) (y := u) (a := 2) (b := (u).toInt) rfl rfl (by omega) (by omega)
    have n31 : z30.toNatClampNeg = 2 + u.toNatClampNeg := cl_addn (x := (2 : Int32)) (y := u) rfl rfl t29 (by decide) (by omega)
    refine o_iadd (z := z30) hx hb dX9_forget_32 e28 ?_
    refine lv_iconst (v := 0) hx hb dX9_forget_33 (by decide) ?_
    obtain ⟨g32, e33⟩ : ∃ z : Nat → Int32, upd f (2 + u.toNatClampNeg) (0 : Int32) = z := ⟨_, rfl⟩
    have p34 : alA g32 := alA_upd0 pal e33
    refine o_iast (f1 := g32) X hD h 65 0 (by decide) rfl pf rfl (in_of (by omega) (by omega)) (by rw [n31]; exact e33) dX9_forget_34 (fun H locs w35 e36 h => ?_)
    have f37 : w35 65 = .inl (cI, 177, .inl g32) := (congrFun e36 _).trans (va_up_self _ _ _)
    have ok38 : OK cI cB cZ cO ad w35 := OK.up ok e36 (sA_mk p34)
    have kx39 : KN w w35 := KN.up KN.rf e36 pf rfl
    refine lv_iload_n hx hb dX9_forget_35 rfl (lv_at hl 0 rfl) ?_
    exact e_i X h hr hlk dX9_forget_36 ⟨ok38, kx39, Or.inr ⟨by omega, (F65.up F65.rf e36), e26, by rw [f37, ← e33]⟩⟩
  · refine lv_if_ne (tgt := 17) hx hb dX9_forget_7 (by decide) (fun hc => absurd (by decide) hc) (fun _ => ?_)
    refine lv_aload_n hx hb dX9_forget_10 rfl (lv_at hl 0 rfl) ?_
    refine lv_bipush (v := (-2)) hx hb dX9_forget_11 (by decide) ?_
    obtain ⟨x44, x45, t46, t47, t48, t49, t50, t51, f43, h52, h53⟩ := (show sM ad (w 64) from ok 64 (by decide))
    have f54 : w 64 = .inr (7, [.ref (ad 65), .ref (ad 66), .ref (ad 67), .ref (ad 68), .long x44, .long x45, .ref (ad 69), .int t46, .ref (ad 70), .ref (ad 71), .int t47, .int t48, .int t49, .int t50, .int t51, .ref (ad 72), .ref (ad 73)]) := f43
    refine n_Vi (na := 1) (As := [.int (-2)]) (rest := []) X hD hN h rfl (c_M_bad l G cI cB cZ cO ad w  ok ((-2) : Int32)  ) ⟨kv_553, kv_554, kv_555, kv_470, kv_556⟩ rfl ⟨by decide, by decide, by decide⟩ ⟨Nat.le_of_ble_eq_true rfl, Nat.le_of_ble_eq_true rfl⟩ ⟨Nat.zero_le _, Nat.zero_le _⟩ (by decide) f54 rfl rfl hl.1 rfl (Nat.le_of_ble_eq_true rfl) dX9_forget_13 (fun r40 w41 H locs hp42 h => ?_)
    have kM55 : KM w w41 := hp42.2.1
    obtain ⟨ok58, kk59, hr57⟩ := hp42
    have kx60 : KN w w41 := kk59.n
    subst hr57
    exact e_i X h hr hlk dX9_forget_16 ⟨ok58, kx60, Or.inl ⟨by omega, kM55, rfl⟩⟩

set_option maxHeartbeats 4000000 in
set_option maxRecDepth 100000 in
theorem c_MF_image0 (l : Launch) (G : va_G) (cI cB cZ cO : ClassId) (ad : Nat → Nat) (w : Nat → va_E) (f kp fl : Nat → Int32) (ok : OK cI cB cZ cO ad w)   (pf : w 65 = .inl (cI, 177, .inl f)) (pal : alA f) (p66 : w 66 = .inl (cI, 354, .inl kp)) (pk6 : keA kp) (p67 : w 67 = .inl (cZ, 2, .inl fl)) (pfl : rgA 0 1 fl) : NI l G (tyq cI cB cZ cO) yX9_image cX9_image 3 (some .int) 1 25 74 ad w [.ref (ad 64), .int 0] (fun r w1 => OK cI cB cZ cO ad w1 ∧ KP w w1 ∧ r = 1 ∧ w1 67 = .inl (cZ, 2, .inl (upd fl 0 1)) ∧ F66 w w1 ∧ ∃ g : Nat → Int32, w1 66 = .inl (cI, 354, .inl g) ∧ (∀ j : Nat, j < 177 → g (0 + j) = f j) ∧ (∀ j : Nat, (j < 0 ∨ 177 ≤ j) → g j = kp j)) := by
  refine nk_i (own := "NoonShadeModel") rfl (by decide) (Nat.le_of_ble_eq_true rfl) ?_
  intro p e s m below meth c ls X hD hN hr hlk h hl
  have hx := X.1.1
  have hb := X.1.2.1
  have hown := X.1.2.2.2.1
  have hts := X.1.2.2.2.2
  have hl : lv_has ls 3 [(0, .ref (ad 64)), (1, .int 0)] := hl
  refine lv_iload_n hx hb dX9_image_0 rfl (lv_at hl 1 rfl) ?_
  refine lv_i2l (v := 0) hx hb dX9_image_1 rfl ?_
  refine lv_lconst (v := 0) hx hb dX9_image_2 (by decide) ?_
  refine lv_lconst (v := 1) hx hb dX9_image_3 (by decide) ?_
  refine n_Si (na := 3) (As := [.long 0, .long 0, .long 1]) (rest := []) X hD hN h (c_M_in l G cI cB cZ cO ad w (0 : Int64) (0 : Int64) (1 : Int64) 0 0 1 rfl rfl rfl) ⟨kv_468, kv_469, kv_470, kv_471⟩ ⟨by decide, by decide, by decide⟩ ⟨Nat.le_of_ble_eq_true rfl, Nat.le_of_ble_eq_true rfl⟩ ⟨Nat.zero_le _, Nat.zero_le _⟩ rfl hl.1 rfl (Nat.le_of_ble_eq_true rfl) dX9_image_4 (fun r1 w2 H locs hp3 h => ?_)
  obtain ⟨rfl, hq4⟩ := hp3
  rcases hq4 with ⟨hq5, hq6, rfl⟩ | ⟨hq4, rfl⟩
  · refine lv_if_ne (tgt := 17) hx hb dX9_image_7 (by decide) (fun _ => ?_) (fun hc => absurd hc (by decide))
    refine lv_iconst (v := 0) hx hb dX9_image_17 (by decide) ?_
    refine lv_istore_n (lv' := [(2, .int 0), (0, .ref (ad 64)), (1, .int 0)]) hx hb dX9_image_18 rfl hl (by decide) rfl (fun ls hl => ?_)
    have hloop10 : ∀ (d11 : Nat) (L7 : Int32) (C8 : Nat → Int32) (wL9 : Nat → va_E) (H : Heap) (locs : List Loc) (ls : Array Slot), 0 ≤ L7.toInt → L7.toInt ≤ 177 → (∀ j : Nat, j < L7.toNatClampNeg → C8 (0 + j) = f j) → (∀ j : Nat, (j < 0 ∨ 177 ≤ j) → C8 j = kp j) → (F66 w wL9) → OK cI cB cZ cO ad wL9 → KP w wL9 → wL9 66 = .inl (cI, 354, .inl C8) → wL9 65 = .inl (cI, 177, .inl f) → wL9 67 = .inl (cZ, 2, .inl fl) → 177 - L7.toInt < (d11 : Int) → St G 74 ad (wA 74 ad s.heap.size) s.heap wL9 H locs → lv_has ls 3 [(2, .int L7), (0, .ref (ad 64)), (1, .int 0)] → W p l e { frames := 1, cells := 0, slots := 0, locals := 25 } s m [.ref (ad 64), .int 0].toArray below meth c H locs 0 0 (MQ below (va_Qi (fun r w1 => OK cI cB cZ cO ad w1 ∧ KP w w1 ∧ r = 1 ∧ w1 67 = .inl (cZ, 2, .inl (upd fl 0 1)) ∧ F66 w w1 ∧ ∃ g : Nat → Int32, w1 66 = .inl (cI, 354, .inl g) ∧ (∀ j : Nat, j < 177 → g (0 + j) = f j) ∧ (∀ j : Nat, (j < 0 ∨ 177 ≤ j) → g j = kp j)) (Aft G 74 ad) (wA 74 ad s.heap.size)) [.ref (ad 64), .int 0].toArray s 0 0 (wA 74 ad s.heap.size)) (F0 m 19 ls []) := by
      intro d11
      induction d11 with
      | zero => intro L7 C8 wL9 H locs ls hi14 hi15 hi16 hi17 hi18 ok19 kx20 cf21 cf22 cf23 hm13 h hl; exfalso; omega
      | succ d11 ih12 =>
        intro L7 C8 wL9 H locs ls hi14 hi15 hi16 hi17 hi18 ok19 kx20 cf21 cf22 cf23 hm13 h hl
        have p24 : keA C8 := sA_pred (show sA cI 354 keA (wL9 66) from ok19 66 (by decide)) cf21
        refine lv_iload_n hx hb dX9_image_19 rfl (lv_at hl 0 rfl) ?_
        refine lv_sipush (v := 177) hx hb dX9_image_20 (by decide) ?_
        refine lv_icmp_ge (tgt := 50) hx hb dX9_image_23 (by decide) (fun hc25 => ?_) (fun hc25 => ?_)
        · have hc25 : 177 ≤ (L7).toInt := i_le hc25 rfl rfl
          refine lv_aload_n hx hb dX9_image_50 rfl (lv_at hl 1 rfl) ?_
          obtain ⟨x27, x28, t29, t30, t31, t32, t33, t34, f26, h35, h36⟩ := (show sM ad (wL9 64) from ok19 64 (by decide))
          have f37 : wL9 64 = .inr (7, [.ref (ad 65), .ref (ad 66), .ref (ad 67), .ref (ad 68), .long x27, .long x28, .ref (ad 69), .int t29, .ref (ad 70), .ref (ad 71), .int t30, .int t31, .int t32, .int t33, .int t34, .ref (ad 72), .ref (ad 73)]) := f26
          refine r_get kc9 X h 64 2 (by decide) rfl f37 (by decide) kv_717 rfl dX9_image_51 ?_
          refine lv_iload_n hx hb dX9_image_54 rfl (lv_at hl 2 rfl) ?_
          refine lv_iconst (v := 1) hx hb dX9_image_55 (by decide) ?_
          obtain ⟨g38, e39⟩ : ∃ z : Nat → Int32, upd fl 0 (vp_nar .boolean (1 : Int32)) = z := ⟨_, rfl⟩
          have p40 : rgA 0 1 g38 := rgA_upd pfl e39 (by decide) (by decide)
          refine o_zast (f1 := g38) X hD h 67 2 (by decide) rfl cf23 rfl (by unfold vp_in; decide) e39 dX9_image_56 (fun H locs w41 e42 h => ?_)
          have f43 : w41 67 = .inl (cZ, 2, .inl g38) := (congrFun e42 _).trans (va_up_self _ _ _)
          have ok44 : OK cI cB cZ cO ad w41 := OK.up ok19 e42 (sA_mk p40)
          have kx45 : KP w w41 := KP.up kx20 e42 cf23 (Or.inl rfl)
          refine lv_iconst (v := 1) hx hb dX9_image_57 (by decide) ?_
          have f46 : w41 66 = .inl (cI, 354, .inl C8) := by rw [e42, va_up_ne _ _ (by decide)]; exact cf21
          have ck47 := cl_of (x := L7) (by omega)
          exact e_i X h hr hlk dX9_image_58 ⟨ok44, kx45, ⟨rfl, by rw [f43, ← e39]; first | rfl | (congr 3), (F66.up hi18 e42 (by decide)), C8, f46, fun j hj => hi16 j (by omega), hi17⟩⟩
        · have hc25 : ¬ 177 ≤ (L7).toInt := i_nle hc25 rfl rfl
          refine lv_aload_n hx hb dX9_image_26 rfl (lv_at hl 1 rfl) ?_
          obtain ⟨x49, x50, t51, t52, t53, t54, t55, t56, f48, h57, h58⟩ := (show sM ad (wL9 64) from ok19 64 (by decide))
          have f59 : wL9 64 = .inr (7, [.ref (ad 65), .ref (ad 66), .ref (ad 67), .ref (ad 68), .long x49, .long x50, .ref (ad 69), .int t51, .ref (ad 70), .ref (ad 71), .int t52, .int t53, .int t54, .int t55, .int t56, .ref (ad 72), .ref (ad 73)]) := f48
          refine r_get kc9 X h 64 1 (by decide) rfl f59 (by decide) kv_718 rfl dX9_image_27 ?_
          refine lv_sipush (v := 177) hx hb dX9_image_30 (by decide) ?_
          refine lv_iload_n hx hb dX9_image_33 rfl (lv_at hl 2 rfl) ?_
          refine o_imul (z := 0) hx hb dX9_image_34 rfl ?_
          refine lv_iload_n hx hb dX9_image_35 rfl (lv_at hl 0 rfl) ?_
          obtain ⟨z62, e60, t61⟩ := x_add (x := (0 : Int32)) (y := L7) (a := 0) (b := (L7).toInt) rfl rfl (by omega) (by omega)
          have n63 : z62.toNatClampNeg = 0 + L7.toNatClampNeg := cl_addn (x := (0 : Int32)) (y := L7) rfl rfl t61 (by decide) (by omega)
          refine o_iadd (z := z62) hx hb dX9_image_36 e60 ?_
          refine lv_aload_n hx hb dX9_image_37 rfl (lv_at hl 1 rfl) ?_
          refine r_get kc9 X h 64 0 (by decide) rfl f59 (by decide) kv_467 rfl dX9_image_38 ?_
          refine lv_iload_n hx hb dX9_image_41 rfl (lv_at hl 0 rfl) ?_
          obtain ⟨v64, e65⟩ : ∃ z : Int32, f L7.toNatClampNeg = z := ⟨_, rfl⟩
          refine o_iald (v := v64) X h 65 0 (by decide) rfl cf22 rfl (in_of (by omega) (by omega)) e65 dX9_image_42 ?_
          obtain ⟨g67, e68⟩ : ∃ z : Nat → Int32, upd C8 (0 + L7.toNatClampNeg) v64 = z := ⟨_, rfl⟩
          have cq70 := cl_of (x := L7) (by omega)
          have p69 : keA g67 := keA_upd0 pal p24 e65 e68 (by omega) (by omega)
          refine o_iast (f1 := g67) X hD h 66 0 (by decide) rfl cf21 rfl (in_of (by omega) (by omega)) (by rw [n63]; exact e68) dX9_image_43 (fun H locs w71 e72 h => ?_)
          have f73 : w71 66 = .inl (cI, 354, .inl g67) := (congrFun e72 _).trans (va_up_self _ _ _)
          have ok74 : OK cI cB cZ cO ad w71 := OK.up ok19 e72 (sA_mk p69)
          have kx75 : KP w w71 := KP.up kx20 e72 cf21 (Or.inr rfl)
          obtain ⟨z76, e77, t78⟩ := x_add (x := L7) (y := 1) (a := L7.toInt) (b := 1) rfl rfl (by omega) (by omega)
          have n79 : z76.toNatClampNeg = L7.toNatClampNeg + 1 := cl_addn (x := L7) (y := 1) rfl rfl t78 (by omega) (by decide)
          refine lv_iinc (v := z76) (lv' := [(2, .int z76), (0, .ref (ad 64)), (1, .int 0)]) hx hb dX9_image_44 hl (k := 0) rfl e77 (by decide) rfl (fun ls hl => ?_)
          refine lv_goto (tgt := 19) hx hb dX9_image_47 (by decide) ?_
          have ck80 : 0 + L7.toNatClampNeg = 0 + L7.toNatClampNeg := by omega
          have ck81 := cl_of (x := L7) (by omega)
          have cm82 : 0 + L7.toNatClampNeg = 0 + L7.toNatClampNeg := by omega
          have f83 : w71 65 = .inl (cI, 177, .inl f) := by rw [e72, va_up_ne _ _ (by decide)]; exact cf22
          have f84 : w71 67 = .inl (cZ, 2, .inl fl) := by rw [e72, va_up_ne _ _ (by decide)]; exact cf23
          exact ih12  z76 g67 w71 _ _ _ (by omega) (by omega) (fun j hj => by rw [n79] at hj; rw [← e68, ck80]; by_cases q9 : j = L7.toNatClampNeg; (subst q9; rw [pk_us]; exact e65.symm); (rw [pk_un (by omega)]; exact hi16 j (by omega))) (fun j hj => by rw [← e68, cm82, pk_un (by omega)]; exact hi17 j hj) (F66.up hi18 e72 (by decide)) ok74 kx75 f73 f83 f84 (by omega) h (lv_sub hl [0, 1, 2] rfl)
    exact hloop10 178 (0 : Int32) kp w _ _ _ (by have q0 : (0 : Int32).toInt = 0 := rfl; omega) (by have q0 : (0 : Int32).toInt = 0 := rfl; omega) (fun j hj => absurd hj (Nat.not_lt_zero _)) (fun j hj => rfl) F66.rf ok KP.rf p66 pf p67 (by have q0 : (0 : Int32).toInt = 0 := rfl; omega) h (lv_sub hl [0, 1, 2] rfl)
  · exfalso; omega

set_option maxHeartbeats 4000000 in
set_option maxRecDepth 100000 in
theorem c_MF_from0 (l : Launch) (G : va_G) (cI cB cZ cO : ClassId) (ad : Nat → Nat) (w : Nat → va_E) (f kp fl : Nat → Int32) (ok : OK cI cB cZ cO ad w)   (pf : w 65 = .inl (cI, 177, .inl f)) (pal : alA f) (p66 : w 66 = .inl (cI, 354, .inl kp)) (pk6 : keA kp) (p67 : w 67 = .inl (cZ, 2, .inl fl)) (pfl : rgA 0 1 fl) : NI l G (tyq cI cB cZ cO) yX9_from cX9_from 3 (some .int) 1 25 74 ad w [.ref (ad 64), .int 0] (fun r w1 => OK cI cB cZ cO ad w1 ∧ KN w w1 ∧ (((fl 0).toInt = 0 ∧ KM w w1 ∧ r = -3) ∨ (¬ (fl 0).toInt = 0 ∧ F65 w w1 ∧ r = 1 ∧ ∃ g : Nat → Int32, w1 65 = .inl (cI, 177, .inl g) ∧ ∀ j : Nat, j < 177 → g j = kp (0 + j)))) := by
  refine nk_i (own := "NoonShadeModel") rfl (by decide) (Nat.le_of_ble_eq_true rfl) ?_
  intro p e s m below meth c ls X hD hN hr hlk h hl
  have hx := X.1.1
  have hb := X.1.2.1
  have hown := X.1.2.2.2.1
  have hts := X.1.2.2.2.2
  have hl : lv_has ls 3 [(0, .ref (ad 64)), (1, .int 0)] := hl
  obtain ⟨vfl, evfl⟩ : ∃ z : Int32, fl 0 = z := ⟨_, rfl⟩
  have hvf := rgA_rd pfl evfl
  refine lv_iload_n hx hb dX9_from_0 rfl (lv_at hl 1 rfl) ?_
  refine lv_i2l (v := 0) hx hb dX9_from_1 rfl ?_
  refine lv_lconst (v := 0) hx hb dX9_from_2 (by decide) ?_
  refine lv_lconst (v := 1) hx hb dX9_from_3 (by decide) ?_
  refine n_Si (na := 3) (As := [.long 0, .long 0, .long 1]) (rest := []) X hD hN h (c_M_in l G cI cB cZ cO ad w (0 : Int64) (0 : Int64) (1 : Int64) 0 0 1 rfl rfl rfl) ⟨kv_468, kv_469, kv_470, kv_471⟩ ⟨by decide, by decide, by decide⟩ ⟨Nat.le_of_ble_eq_true rfl, Nat.le_of_ble_eq_true rfl⟩ ⟨Nat.zero_le _, Nat.zero_le _⟩ rfl hl.1 rfl (Nat.le_of_ble_eq_true rfl) dX9_from_4 (fun r1 w2 H locs hp3 h => ?_)
  obtain ⟨rfl, hq4⟩ := hp3
  rcases hq4 with ⟨hq5, hq6, rfl⟩ | ⟨hq4, rfl⟩
  · refine lv_if_ne (tgt := 17) hx hb dX9_from_7 (by decide) (fun _ => ?_) (fun hc => absurd hc (by decide))
    refine lv_aload_n hx hb dX9_from_17 rfl (lv_at hl 0 rfl) ?_
    obtain ⟨x8, x9, t10, t11, t12, t13, t14, t15, f7, h16, h17⟩ := (show sM ad (w 64) from ok 64 (by decide))
    have f18 : w 64 = .inr (7, [.ref (ad 65), .ref (ad 66), .ref (ad 67), .ref (ad 68), .long x8, .long x9, .ref (ad 69), .int t10, .ref (ad 70), .ref (ad 71), .int t11, .int t12, .int t13, .int t14, .int t15, .ref (ad 72), .ref (ad 73)]) := f7
    refine r_get kc9 X h 64 2 (by decide) rfl f18 (by decide) kv_717 rfl dX9_from_18 ?_
    refine lv_iload_n hx hb dX9_from_21 rfl (lv_at hl 1 rfl) ?_
    refine o_zald (v := vfl) X h 67 2 (by decide) rfl p67 rfl (by unfold vp_in; decide) evfl dX9_from_22 ?_
    refine lv_if_ne (tgt := 31) hx hb dX9_from_23 (by decide) (fun hc19 => ?_) (fun hc19 => ?_)
    · have hc19 : ¬ (vfl).toInt = 0 := i_ne hc19 rfl rfl
      refine lv_iconst (v := 0) hx hb dX9_from_31 (by decide) ?_
      refine lv_istore_n (lv' := [(2, .int 0), (0, .ref (ad 64)), (1, .int 0)]) hx hb dX9_from_32 rfl hl (by decide) rfl (fun ls hl => ?_)
      have hloop23 : ∀ (d24 : Nat) (L20 : Int32) (C21 : Nat → Int32) (wL22 : Nat → va_E) (H : Heap) (locs : List Loc) (ls : Array Slot), 0 ≤ L20.toInt → L20.toInt ≤ 177 → (∀ j : Nat, j < L20.toNatClampNeg → C21 j = kp (0 + j)) → (F65 w wL22) → OK cI cB cZ cO ad wL22 → KN w wL22 → wL22 65 = .inl (cI, 177, .inl C21) → wL22 66 = .inl (cI, 354, .inl kp) → 177 - L20.toInt < (d24 : Int) → St G 74 ad (wA 74 ad s.heap.size) s.heap wL22 H locs → lv_has ls 3 [(2, .int L20), (0, .ref (ad 64)), (1, .int 0)] → W p l e { frames := 1, cells := 0, slots := 0, locals := 25 } s m [.ref (ad 64), .int 0].toArray below meth c H locs 0 0 (MQ below (va_Qi (fun r w1 => OK cI cB cZ cO ad w1 ∧ KN w w1 ∧ (((fl 0).toInt = 0 ∧ KM w w1 ∧ r = -3) ∨ (¬ (fl 0).toInt = 0 ∧ F65 w w1 ∧ r = 1 ∧ ∃ g : Nat → Int32, w1 65 = .inl (cI, 177, .inl g) ∧ ∀ j : Nat, j < 177 → g j = kp (0 + j)))) (Aft G 74 ad) (wA 74 ad s.heap.size)) [.ref (ad 64), .int 0].toArray s 0 0 (wA 74 ad s.heap.size)) (F0 m 33 ls []) := by
        intro d24
        induction d24 with
        | zero => intro L20 C21 wL22 H locs ls hi27 hi28 hi29 hi30 ok31 kx32 cf33 cf34 hm26 h hl; exfalso; omega
        | succ d24 ih25 =>
          intro L20 C21 wL22 H locs ls hi27 hi28 hi29 hi30 ok31 kx32 cf33 cf34 hm26 h hl
          have p35 : alA C21 := (alA_of65 ok31 (Or.inl rfl) cf33).1
          refine lv_iload_n hx hb dX9_from_33 rfl (lv_at hl 0 rfl) ?_
          refine lv_sipush (v := 177) hx hb dX9_from_34 (by decide) ?_
          refine lv_icmp_ge (tgt := 64) hx hb dX9_from_37 (by decide) (fun hc36 => ?_) (fun hc36 => ?_)
          · have hc36 : 177 ≤ (L20).toInt := i_le hc36 rfl rfl
            refine lv_iconst (v := 1) hx hb dX9_from_64 (by decide) ?_
            have ck37 := cl_of (x := L20) (by omega)
            exact e_i X h hr hlk dX9_from_65 ⟨ok31, kx32, Or.inr ⟨by rw [evfl]; omega, hi30, rfl, C21, cf33, fun j hj => hi29 j (by omega)⟩⟩
          · have hc36 : ¬ 177 ≤ (L20).toInt := i_nle hc36 rfl rfl
            refine lv_aload_n hx hb dX9_from_40 rfl (lv_at hl 1 rfl) ?_
            obtain ⟨x39, x40, t41, t42, t43, t44, t45, t46, f38, h47, h48⟩ := (show sM ad (wL22 64) from ok31 64 (by decide))
            have f49 : wL22 64 = .inr (7, [.ref (ad 65), .ref (ad 66), .ref (ad 67), .ref (ad 68), .long x39, .long x40, .ref (ad 69), .int t41, .ref (ad 70), .ref (ad 71), .int t42, .int t43, .int t44, .int t45, .int t46, .ref (ad 72), .ref (ad 73)]) := f38
            refine r_get kc9 X h 64 0 (by decide) rfl f49 (by decide) kv_467 rfl dX9_from_41 ?_
            refine lv_iload_n hx hb dX9_from_44 rfl (lv_at hl 0 rfl) ?_
            refine lv_aload_n hx hb dX9_from_45 rfl (lv_at hl 1 rfl) ?_
            refine r_get kc9 X h 64 1 (by decide) rfl f49 (by decide) kv_718 rfl dX9_from_46 ?_
            refine lv_sipush (v := 177) hx hb dX9_from_49 (by decide) ?_
            refine lv_iload_n hx hb dX9_from_52 rfl (lv_at hl 2 rfl) ?_
            refine o_imul (z := 0) hx hb dX9_from_53 rfl ?_
            refine lv_iload_n hx hb dX9_from_54 rfl (lv_at hl 0 rfl) ?_
            obtain ⟨z52, e50, t51⟩ := x_add (x := (0 : Int32)) (y := L20) (a := 0) (b := (L20).toInt) rfl rfl (by omega) (by omega)
            have n53 : z52.toNatClampNeg = 0 + L20.toNatClampNeg := cl_addn (x := (0 : Int32)) (y := L20) rfl rfl t51 (by decide) (by omega)
            refine o_iadd (z := z52) hx hb dX9_from_55 e50 ?_
            obtain ⟨v54, e55⟩ : ∃ z : Int32, kp (0 + L20.toNatClampNeg) = z := ⟨_, rfl⟩
            refine o_iald (v := v54) X h 66 0 (by decide) rfl cf34 rfl (in_of (by omega) (by omega)) (by rw [n53]; exact e55) dX9_from_56 ?_
            obtain ⟨g57, e58⟩ : ∃ z : Nat → Int32, upd C21 L20.toNatClampNeg v54 = z := ⟨_, rfl⟩
            have cq60 := cl_of (x := L20) (by omega)
            have p59 : alA g57 := alA_from0 pk6 p35 e55 e58 (by omega)
            refine o_iast (f1 := g57) X hD h 65 0 (by decide) rfl cf33 rfl (in_of (by omega) (by omega)) e58 dX9_from_57 (fun H locs w61 e62 h => ?_)
            have f63 : w61 65 = .inl (cI, 177, .inl g57) := (congrFun e62 _).trans (va_up_self _ _ _)
            have ok64 : OK cI cB cZ cO ad w61 := OK.up ok31 e62 (sA_mk p59)
            have kx65 : KN w w61 := KN.up kx32 e62 cf33 rfl
            obtain ⟨z66, e67, t68⟩ := x_add (x := L20) (y := 1) (a := L20.toInt) (b := 1) rfl rfl (by omega) (by omega)
            have n69 : z66.toNatClampNeg = L20.toNatClampNeg + 1 := cl_addn (x := L20) (y := 1) rfl rfl t68 (by omega) (by decide)
            refine lv_iinc (v := z66) (lv' := [(2, .int z66), (0, .ref (ad 64)), (1, .int 0)]) hx hb dX9_from_58 hl (k := 0) rfl e67 (by decide) rfl (fun ls hl => ?_)
            refine lv_goto (tgt := 33) hx hb dX9_from_61 (by decide) ?_
            have ck70 : 0 + L20.toNatClampNeg = 0 + L20.toNatClampNeg := by omega
            have f71 : w61 66 = .inl (cI, 354, .inl kp) := by rw [e62, va_up_ne _ _ (by decide)]; exact cf34
            exact ih25  z66 g57 w61 _ _ _ (by omega) (by omega) (fun j hj => by rw [n69] at hj; rw [← e58]; by_cases q9 : j = L20.toNatClampNeg; (subst q9; rw [pk_us, ← ck70]; exact e55.symm); (rw [pk_un q9]; exact hi29 j (by omega))) (F65.up hi30 e62) ok64 kx65 f63 f71 (by omega) h (lv_sub hl [0, 1, 2] rfl)
      exact hloop23 178 (0 : Int32) f w _ _ _ (by have q0 : (0 : Int32).toInt = 0 := rfl; omega) (by have q0 : (0 : Int32).toInt = 0 := rfl; omega) (fun j hj => absurd hj (Nat.not_lt_zero _)) F65.rf ok KN.rf pf p66 (by have q0 : (0 : Int32).toInt = 0 := rfl; omega) h (lv_sub hl [0, 1, 2] rfl)
    · have hc19 : (vfl).toInt = 0 := i_eq hc19 rfl rfl
      refine lv_aload_n hx hb dX9_from_26 rfl (lv_at hl 0 rfl) ?_
      refine n_Vi (na := 0) (As := []) (rest := []) X hD hN h rfl (c_M_no l G cI cB cZ cO ad w  ok   ) ⟨kv_545, kv_546, kv_547, kv_470, kv_548⟩ rfl ⟨by decide, by decide, by decide⟩ ⟨Nat.le_of_ble_eq_true rfl, Nat.le_of_ble_eq_true rfl⟩ ⟨Nat.zero_le _, Nat.zero_le _⟩ (by decide) f18 rfl rfl hl.1 rfl (Nat.le_of_ble_eq_true rfl) dX9_from_27 (fun r72 w73 H locs hp74 h => ?_)
      have kM75 : KM w w73 := hp74.2.1
      obtain ⟨ok78, kk79, hr77⟩ := hp74
      have kx80 : KN w w73 := kk79.n
      subst hr77
      exact e_i X h hr hlk dX9_from_30 ⟨ok78, kx80, Or.inl ⟨by rw [evfl]; omega, kM75, rfl⟩⟩
  · exfalso; omega

set_option maxHeartbeats 4000000 in
set_option maxRecDepth 100000 in
theorem c_MF_image1 (l : Launch) (G : va_G) (cI cB cZ cO : ClassId) (ad : Nat → Nat) (w : Nat → va_E) (f kp fl : Nat → Int32) (ok : OK cI cB cZ cO ad w)   (pf : w 65 = .inl (cI, 177, .inl f)) (pal : alA f) (p66 : w 66 = .inl (cI, 354, .inl kp)) (pk6 : keA kp) (p67 : w 67 = .inl (cZ, 2, .inl fl)) (pfl : rgA 0 1 fl) : NI l G (tyq cI cB cZ cO) yX9_image cX9_image 3 (some .int) 1 25 74 ad w [.ref (ad 64), .int 1] (fun r w1 => OK cI cB cZ cO ad w1 ∧ KP w w1 ∧ r = 1 ∧ w1 67 = .inl (cZ, 2, .inl (upd fl 1 1)) ∧ F66 w w1 ∧ ∃ g : Nat → Int32, w1 66 = .inl (cI, 354, .inl g) ∧ (∀ j : Nat, j < 177 → g (177 + j) = f j) ∧ (∀ j : Nat, (j < 177 ∨ 354 ≤ j) → g j = kp j)) := by
  refine nk_i (own := "NoonShadeModel") rfl (by decide) (Nat.le_of_ble_eq_true rfl) ?_
  intro p e s m below meth c ls X hD hN hr hlk h hl
  have hx := X.1.1
  have hb := X.1.2.1
  have hown := X.1.2.2.2.1
  have hts := X.1.2.2.2.2
  have hl : lv_has ls 3 [(0, .ref (ad 64)), (1, .int 1)] := hl
  refine lv_iload_n hx hb dX9_image_0 rfl (lv_at hl 1 rfl) ?_
  refine lv_i2l (v := 1) hx hb dX9_image_1 rfl ?_
  refine lv_lconst (v := 0) hx hb dX9_image_2 (by decide) ?_
  refine lv_lconst (v := 1) hx hb dX9_image_3 (by decide) ?_
  refine n_Si (na := 3) (As := [.long 1, .long 0, .long 1]) (rest := []) X hD hN h (c_M_in l G cI cB cZ cO ad w (1 : Int64) (0 : Int64) (1 : Int64) 1 0 1 rfl rfl rfl) ⟨kv_468, kv_469, kv_470, kv_471⟩ ⟨by decide, by decide, by decide⟩ ⟨Nat.le_of_ble_eq_true rfl, Nat.le_of_ble_eq_true rfl⟩ ⟨Nat.zero_le _, Nat.zero_le _⟩ rfl hl.1 rfl (Nat.le_of_ble_eq_true rfl) dX9_image_4 (fun r1 w2 H locs hp3 h => ?_)
  obtain ⟨rfl, hq4⟩ := hp3
  rcases hq4 with ⟨hq5, hq6, rfl⟩ | ⟨hq4, rfl⟩
  · refine lv_if_ne (tgt := 17) hx hb dX9_image_7 (by decide) (fun _ => ?_) (fun hc => absurd hc (by decide))
    refine lv_iconst (v := 0) hx hb dX9_image_17 (by decide) ?_
    refine lv_istore_n (lv' := [(2, .int 0), (0, .ref (ad 64)), (1, .int 1)]) hx hb dX9_image_18 rfl hl (by decide) rfl (fun ls hl => ?_)
    have hloop10 : ∀ (d11 : Nat) (L7 : Int32) (C8 : Nat → Int32) (wL9 : Nat → va_E) (H : Heap) (locs : List Loc) (ls : Array Slot), 0 ≤ L7.toInt → L7.toInt ≤ 177 → (∀ j : Nat, j < L7.toNatClampNeg → C8 (177 + j) = f j) → (∀ j : Nat, (j < 177 ∨ 354 ≤ j) → C8 j = kp j) → (F66 w wL9) → OK cI cB cZ cO ad wL9 → KP w wL9 → wL9 66 = .inl (cI, 354, .inl C8) → wL9 65 = .inl (cI, 177, .inl f) → wL9 67 = .inl (cZ, 2, .inl fl) → 177 - L7.toInt < (d11 : Int) → St G 74 ad (wA 74 ad s.heap.size) s.heap wL9 H locs → lv_has ls 3 [(2, .int L7), (0, .ref (ad 64)), (1, .int 1)] → W p l e { frames := 1, cells := 0, slots := 0, locals := 25 } s m [.ref (ad 64), .int 1].toArray below meth c H locs 0 0 (MQ below (va_Qi (fun r w1 => OK cI cB cZ cO ad w1 ∧ KP w w1 ∧ r = 1 ∧ w1 67 = .inl (cZ, 2, .inl (upd fl 1 1)) ∧ F66 w w1 ∧ ∃ g : Nat → Int32, w1 66 = .inl (cI, 354, .inl g) ∧ (∀ j : Nat, j < 177 → g (177 + j) = f j) ∧ (∀ j : Nat, (j < 177 ∨ 354 ≤ j) → g j = kp j)) (Aft G 74 ad) (wA 74 ad s.heap.size)) [.ref (ad 64), .int 1].toArray s 0 0 (wA 74 ad s.heap.size)) (F0 m 19 ls []) := by
      intro d11
      induction d11 with
      | zero => intro L7 C8 wL9 H locs ls hi14 hi15 hi16 hi17 hi18 ok19 kx20 cf21 cf22 cf23 hm13 h hl; exfalso; omega
      | succ d11 ih12 =>
        intro L7 C8 wL9 H locs ls hi14 hi15 hi16 hi17 hi18 ok19 kx20 cf21 cf22 cf23 hm13 h hl
        have p24 : keA C8 := sA_pred (show sA cI 354 keA (wL9 66) from ok19 66 (by decide)) cf21
        refine lv_iload_n hx hb dX9_image_19 rfl (lv_at hl 0 rfl) ?_
        refine lv_sipush (v := 177) hx hb dX9_image_20 (by decide) ?_
        refine lv_icmp_ge (tgt := 50) hx hb dX9_image_23 (by decide) (fun hc25 => ?_) (fun hc25 => ?_)
        · have hc25 : 177 ≤ (L7).toInt := i_le hc25 rfl rfl
          refine lv_aload_n hx hb dX9_image_50 rfl (lv_at hl 1 rfl) ?_
          obtain ⟨x27, x28, t29, t30, t31, t32, t33, t34, f26, h35, h36⟩ := (show sM ad (wL9 64) from ok19 64 (by decide))
          have f37 : wL9 64 = .inr (7, [.ref (ad 65), .ref (ad 66), .ref (ad 67), .ref (ad 68), .long x27, .long x28, .ref (ad 69), .int t29, .ref (ad 70), .ref (ad 71), .int t30, .int t31, .int t32, .int t33, .int t34, .ref (ad 72), .ref (ad 73)]) := f26
          refine r_get kc9 X h 64 2 (by decide) rfl f37 (by decide) kv_717 rfl dX9_image_51 ?_
          refine lv_iload_n hx hb dX9_image_54 rfl (lv_at hl 2 rfl) ?_
          refine lv_iconst (v := 1) hx hb dX9_image_55 (by decide) ?_
          obtain ⟨g38, e39⟩ : ∃ z : Nat → Int32, upd fl 1 (vp_nar .boolean (1 : Int32)) = z := ⟨_, rfl⟩
          have p40 : rgA 0 1 g38 := rgA_upd pfl e39 (by decide) (by decide)
          refine o_zast (f1 := g38) X hD h 67 2 (by decide) rfl cf23 rfl (by unfold vp_in; decide) e39 dX9_image_56 (fun H locs w41 e42 h => ?_)
          have f43 : w41 67 = .inl (cZ, 2, .inl g38) := (congrFun e42 _).trans (va_up_self _ _ _)
          have ok44 : OK cI cB cZ cO ad w41 := OK.up ok19 e42 (sA_mk p40)
          have kx45 : KP w w41 := KP.up kx20 e42 cf23 (Or.inl rfl)
          refine lv_iconst (v := 1) hx hb dX9_image_57 (by decide) ?_
          have f46 : w41 66 = .inl (cI, 354, .inl C8) := by rw [e42, va_up_ne _ _ (by decide)]; exact cf21
          have ck47 := cl_of (x := L7) (by omega)
          exact e_i X h hr hlk dX9_image_58 ⟨ok44, kx45, ⟨rfl, by rw [f43, ← e39]; first | rfl | (congr 3), (F66.up hi18 e42 (by decide)), C8, f46, fun j hj => hi16 j (by omega), hi17⟩⟩
        · have hc25 : ¬ 177 ≤ (L7).toInt := i_nle hc25 rfl rfl
          refine lv_aload_n hx hb dX9_image_26 rfl (lv_at hl 1 rfl) ?_
          obtain ⟨x49, x50, t51, t52, t53, t54, t55, t56, f48, h57, h58⟩ := (show sM ad (wL9 64) from ok19 64 (by decide))
          have f59 : wL9 64 = .inr (7, [.ref (ad 65), .ref (ad 66), .ref (ad 67), .ref (ad 68), .long x49, .long x50, .ref (ad 69), .int t51, .ref (ad 70), .ref (ad 71), .int t52, .int t53, .int t54, .int t55, .int t56, .ref (ad 72), .ref (ad 73)]) := f48
          refine r_get kc9 X h 64 1 (by decide) rfl f59 (by decide) kv_718 rfl dX9_image_27 ?_
          refine lv_sipush (v := 177) hx hb dX9_image_30 (by decide) ?_
          refine lv_iload_n hx hb dX9_image_33 rfl (lv_at hl 2 rfl) ?_
          refine o_imul (z := 177) hx hb dX9_image_34 rfl ?_
          refine lv_iload_n hx hb dX9_image_35 rfl (lv_at hl 0 rfl) ?_
          obtain ⟨z62, e60, t61⟩ := x_add (x := (177 : Int32)) (y := L7) (a := 177) (b := (L7).toInt) rfl rfl (by omega) (by omega)
          have n63 : z62.toNatClampNeg = 177 + L7.toNatClampNeg := cl_addn (x := (177 : Int32)) (y := L7) rfl rfl t61 (by decide) (by omega)
          refine o_iadd (z := z62) hx hb dX9_image_36 e60 ?_
          refine lv_aload_n hx hb dX9_image_37 rfl (lv_at hl 1 rfl) ?_
          refine r_get kc9 X h 64 0 (by decide) rfl f59 (by decide) kv_467 rfl dX9_image_38 ?_
          refine lv_iload_n hx hb dX9_image_41 rfl (lv_at hl 0 rfl) ?_
          obtain ⟨v64, e65⟩ : ∃ z : Int32, f L7.toNatClampNeg = z := ⟨_, rfl⟩
          refine o_iald (v := v64) X h 65 0 (by decide) rfl cf22 rfl (in_of (by omega) (by omega)) e65 dX9_image_42 ?_
          obtain ⟨g67, e68⟩ : ∃ z : Nat → Int32, upd C8 (177 + L7.toNatClampNeg) v64 = z := ⟨_, rfl⟩
          have cq70 := cl_of (x := L7) (by omega)
          have p69 : keA g67 := keA_upd1 pal p24 e65 e68 (by omega) (by omega)
          refine o_iast (f1 := g67) X hD h 66 0 (by decide) rfl cf21 rfl (in_of (by omega) (by omega)) (by rw [n63]; exact e68) dX9_image_43 (fun H locs w71 e72 h => ?_)
          have f73 : w71 66 = .inl (cI, 354, .inl g67) := (congrFun e72 _).trans (va_up_self _ _ _)
          have ok74 : OK cI cB cZ cO ad w71 := OK.up ok19 e72 (sA_mk p69)
          have kx75 : KP w w71 := KP.up kx20 e72 cf21 (Or.inr rfl)
          obtain ⟨z76, e77, t78⟩ := x_add (x := L7) (y := 1) (a := L7.toInt) (b := 1) rfl rfl (by omega) (by omega)
          have n79 : z76.toNatClampNeg = L7.toNatClampNeg + 1 := cl_addn (x := L7) (y := 1) rfl rfl t78 (by omega) (by decide)
          refine lv_iinc (v := z76) (lv' := [(2, .int z76), (0, .ref (ad 64)), (1, .int 1)]) hx hb dX9_image_44 hl (k := 0) rfl e77 (by decide) rfl (fun ls hl => ?_)
          refine lv_goto (tgt := 19) hx hb dX9_image_47 (by decide) ?_
          have ck80 : 177 + L7.toNatClampNeg = 177 + L7.toNatClampNeg := by omega
          have ck81 := cl_of (x := L7) (by omega)
          have cm82 : 177 + L7.toNatClampNeg = 177 + L7.toNatClampNeg := by omega
          have f83 : w71 65 = .inl (cI, 177, .inl f) := by rw [e72, va_up_ne _ _ (by decide)]; exact cf22
          have f84 : w71 67 = .inl (cZ, 2, .inl fl) := by rw [e72, va_up_ne _ _ (by decide)]; exact cf23
          exact ih12  z76 g67 w71 _ _ _ (by omega) (by omega) (fun j hj => by rw [n79] at hj; rw [← e68, ck80]; by_cases q9 : j = L7.toNatClampNeg; (subst q9; rw [pk_us]; exact e65.symm); (rw [pk_un (by omega)]; exact hi16 j (by omega))) (fun j hj => by rw [← e68, cm82, pk_un (by omega)]; exact hi17 j hj) (F66.up hi18 e72 (by decide)) ok74 kx75 f73 f83 f84 (by omega) h (lv_sub hl [0, 1, 2] rfl)
    exact hloop10 178 (0 : Int32) kp w _ _ _ (by have q0 : (0 : Int32).toInt = 0 := rfl; omega) (by have q0 : (0 : Int32).toInt = 0 := rfl; omega) (fun j hj => absurd hj (Nat.not_lt_zero _)) (fun j hj => rfl) F66.rf ok KP.rf p66 pf p67 (by have q0 : (0 : Int32).toInt = 0 := rfl; omega) h (lv_sub hl [0, 1, 2] rfl)
  · exfalso; omega

set_option maxHeartbeats 4000000 in
set_option maxRecDepth 100000 in
theorem c_MF_from1 (l : Launch) (G : va_G) (cI cB cZ cO : ClassId) (ad : Nat → Nat) (w : Nat → va_E) (f kp fl : Nat → Int32) (ok : OK cI cB cZ cO ad w)   (pf : w 65 = .inl (cI, 177, .inl f)) (pal : alA f) (p66 : w 66 = .inl (cI, 354, .inl kp)) (pk6 : keA kp) (p67 : w 67 = .inl (cZ, 2, .inl fl)) (pfl : rgA 0 1 fl) : NI l G (tyq cI cB cZ cO) yX9_from cX9_from 3 (some .int) 1 25 74 ad w [.ref (ad 64), .int 1] (fun r w1 => OK cI cB cZ cO ad w1 ∧ KN w w1 ∧ (((fl 1).toInt = 0 ∧ KM w w1 ∧ r = -3) ∨ (¬ (fl 1).toInt = 0 ∧ F65 w w1 ∧ r = 1 ∧ ∃ g : Nat → Int32, w1 65 = .inl (cI, 177, .inl g) ∧ ∀ j : Nat, j < 177 → g j = kp (177 + j)))) := by
  refine nk_i (own := "NoonShadeModel") rfl (by decide) (Nat.le_of_ble_eq_true rfl) ?_
  intro p e s m below meth c ls X hD hN hr hlk h hl
  have hx := X.1.1
  have hb := X.1.2.1
  have hown := X.1.2.2.2.1
  have hts := X.1.2.2.2.2
  have hl : lv_has ls 3 [(0, .ref (ad 64)), (1, .int 1)] := hl
  obtain ⟨vfl, evfl⟩ : ∃ z : Int32, fl 1 = z := ⟨_, rfl⟩
  have hvf := rgA_rd pfl evfl
  refine lv_iload_n hx hb dX9_from_0 rfl (lv_at hl 1 rfl) ?_
  refine lv_i2l (v := 1) hx hb dX9_from_1 rfl ?_
  refine lv_lconst (v := 0) hx hb dX9_from_2 (by decide) ?_
  refine lv_lconst (v := 1) hx hb dX9_from_3 (by decide) ?_
  refine n_Si (na := 3) (As := [.long 1, .long 0, .long 1]) (rest := []) X hD hN h (c_M_in l G cI cB cZ cO ad w (1 : Int64) (0 : Int64) (1 : Int64) 1 0 1 rfl rfl rfl) ⟨kv_468, kv_469, kv_470, kv_471⟩ ⟨by decide, by decide, by decide⟩ ⟨Nat.le_of_ble_eq_true rfl, Nat.le_of_ble_eq_true rfl⟩ ⟨Nat.zero_le _, Nat.zero_le _⟩ rfl hl.1 rfl (Nat.le_of_ble_eq_true rfl) dX9_from_4 (fun r1 w2 H locs hp3 h => ?_)
  obtain ⟨rfl, hq4⟩ := hp3
  rcases hq4 with ⟨hq5, hq6, rfl⟩ | ⟨hq4, rfl⟩
  · refine lv_if_ne (tgt := 17) hx hb dX9_from_7 (by decide) (fun _ => ?_) (fun hc => absurd hc (by decide))
    refine lv_aload_n hx hb dX9_from_17 rfl (lv_at hl 0 rfl) ?_
    obtain ⟨x8, x9, t10, t11, t12, t13, t14, t15, f7, h16, h17⟩ := (show sM ad (w 64) from ok 64 (by decide))
    have f18 : w 64 = .inr (7, [.ref (ad 65), .ref (ad 66), .ref (ad 67), .ref (ad 68), .long x8, .long x9, .ref (ad 69), .int t10, .ref (ad 70), .ref (ad 71), .int t11, .int t12, .int t13, .int t14, .int t15, .ref (ad 72), .ref (ad 73)]) := f7
    refine r_get kc9 X h 64 2 (by decide) rfl f18 (by decide) kv_717 rfl dX9_from_18 ?_
    refine lv_iload_n hx hb dX9_from_21 rfl (lv_at hl 1 rfl) ?_
    refine o_zald (v := vfl) X h 67 2 (by decide) rfl p67 rfl (by unfold vp_in; decide) evfl dX9_from_22 ?_
    refine lv_if_ne (tgt := 31) hx hb dX9_from_23 (by decide) (fun hc19 => ?_) (fun hc19 => ?_)
    · have hc19 : ¬ (vfl).toInt = 0 := i_ne hc19 rfl rfl
      refine lv_iconst (v := 0) hx hb dX9_from_31 (by decide) ?_
      refine lv_istore_n (lv' := [(2, .int 0), (0, .ref (ad 64)), (1, .int 1)]) hx hb dX9_from_32 rfl hl (by decide) rfl (fun ls hl => ?_)
      have hloop23 : ∀ (d24 : Nat) (L20 : Int32) (C21 : Nat → Int32) (wL22 : Nat → va_E) (H : Heap) (locs : List Loc) (ls : Array Slot), 0 ≤ L20.toInt → L20.toInt ≤ 177 → (∀ j : Nat, j < L20.toNatClampNeg → C21 j = kp (177 + j)) → (F65 w wL22) → OK cI cB cZ cO ad wL22 → KN w wL22 → wL22 65 = .inl (cI, 177, .inl C21) → wL22 66 = .inl (cI, 354, .inl kp) → 177 - L20.toInt < (d24 : Int) → St G 74 ad (wA 74 ad s.heap.size) s.heap wL22 H locs → lv_has ls 3 [(2, .int L20), (0, .ref (ad 64)), (1, .int 1)] → W p l e { frames := 1, cells := 0, slots := 0, locals := 25 } s m [.ref (ad 64), .int 1].toArray below meth c H locs 0 0 (MQ below (va_Qi (fun r w1 => OK cI cB cZ cO ad w1 ∧ KN w w1 ∧ (((fl 1).toInt = 0 ∧ KM w w1 ∧ r = -3) ∨ (¬ (fl 1).toInt = 0 ∧ F65 w w1 ∧ r = 1 ∧ ∃ g : Nat → Int32, w1 65 = .inl (cI, 177, .inl g) ∧ ∀ j : Nat, j < 177 → g j = kp (177 + j)))) (Aft G 74 ad) (wA 74 ad s.heap.size)) [.ref (ad 64), .int 1].toArray s 0 0 (wA 74 ad s.heap.size)) (F0 m 33 ls []) := by
        intro d24
        induction d24 with
        | zero => intro L20 C21 wL22 H locs ls hi27 hi28 hi29 hi30 ok31 kx32 cf33 cf34 hm26 h hl; exfalso; omega
        | succ d24 ih25 =>
          intro L20 C21 wL22 H locs ls hi27 hi28 hi29 hi30 ok31 kx32 cf33 cf34 hm26 h hl
          have p35 : alA C21 := (alA_of65 ok31 (Or.inl rfl) cf33).1
          refine lv_iload_n hx hb dX9_from_33 rfl (lv_at hl 0 rfl) ?_
          refine lv_sipush (v := 177) hx hb dX9_from_34 (by decide) ?_
          refine lv_icmp_ge (tgt := 64) hx hb dX9_from_37 (by decide) (fun hc36 => ?_) (fun hc36 => ?_)
          · have hc36 : 177 ≤ (L20).toInt := i_le hc36 rfl rfl
            refine lv_iconst (v := 1) hx hb dX9_from_64 (by decide) ?_
            have ck37 := cl_of (x := L20) (by omega)
            exact e_i X h hr hlk dX9_from_65 ⟨ok31, kx32, Or.inr ⟨by rw [evfl]; omega, hi30, rfl, C21, cf33, fun j hj => hi29 j (by omega)⟩⟩
          · have hc36 : ¬ 177 ≤ (L20).toInt := i_nle hc36 rfl rfl
            refine lv_aload_n hx hb dX9_from_40 rfl (lv_at hl 1 rfl) ?_
            obtain ⟨x39, x40, t41, t42, t43, t44, t45, t46, f38, h47, h48⟩ := (show sM ad (wL22 64) from ok31 64 (by decide))
            have f49 : wL22 64 = .inr (7, [.ref (ad 65), .ref (ad 66), .ref (ad 67), .ref (ad 68), .long x39, .long x40, .ref (ad 69), .int t41, .ref (ad 70), .ref (ad 71), .int t42, .int t43, .int t44, .int t45, .int t46, .ref (ad 72), .ref (ad 73)]) := f38
            refine r_get kc9 X h 64 0 (by decide) rfl f49 (by decide) kv_467 rfl dX9_from_41 ?_
            refine lv_iload_n hx hb dX9_from_44 rfl (lv_at hl 0 rfl) ?_
            refine lv_aload_n hx hb dX9_from_45 rfl (lv_at hl 1 rfl) ?_
            refine r_get kc9 X h 64 1 (by decide) rfl f49 (by decide) kv_718 rfl dX9_from_46 ?_
            refine lv_sipush (v := 177) hx hb dX9_from_49 (by decide) ?_
            refine lv_iload_n hx hb dX9_from_52 rfl (lv_at hl 2 rfl) ?_
            refine o_imul (z := 177) hx hb dX9_from_53 rfl ?_
            refine lv_iload_n hx hb dX9_from_54 rfl (lv_at hl 0 rfl) ?_
            obtain ⟨z52, e50, t51⟩ := x_add (x := (177 : Int32)) (y := L20) (a := 177) (b := (L20).toInt) rfl rfl (by omega) (by omega)
            have n53 : z52.toNatClampNeg = 177 + L20.toNatClampNeg := cl_addn (x := (177 : Int32)) (y := L20) rfl rfl t51 (by decide) (by omega)
            refine o_iadd (z := z52) hx hb dX9_from_55 e50 ?_
            obtain ⟨v54, e55⟩ : ∃ z : Int32, kp (177 + L20.toNatClampNeg) = z := ⟨_, rfl⟩
            refine o_iald (v := v54) X h 66 0 (by decide) rfl cf34 rfl (in_of (by omega) (by omega)) (by rw [n53]; exact e55) dX9_from_56 ?_
            obtain ⟨g57, e58⟩ : ∃ z : Nat → Int32, upd C21 L20.toNatClampNeg v54 = z := ⟨_, rfl⟩
            have cq60 := cl_of (x := L20) (by omega)
            have p59 : alA g57 := alA_from1 pk6 p35 e55 e58 (by omega)
            refine o_iast (f1 := g57) X hD h 65 0 (by decide) rfl cf33 rfl (in_of (by omega) (by omega)) e58 dX9_from_57 (fun H locs w61 e62 h => ?_)
            have f63 : w61 65 = .inl (cI, 177, .inl g57) := (congrFun e62 _).trans (va_up_self _ _ _)
            have ok64 : OK cI cB cZ cO ad w61 := OK.up ok31 e62 (sA_mk p59)
            have kx65 : KN w w61 := KN.up kx32 e62 cf33 rfl
            obtain ⟨z66, e67, t68⟩ := x_add (x := L20) (y := 1) (a := L20.toInt) (b := 1) rfl rfl (by omega) (by omega)
            have n69 : z66.toNatClampNeg = L20.toNatClampNeg + 1 := cl_addn (x := L20) (y := 1) rfl rfl t68 (by omega) (by decide)
            refine lv_iinc (v := z66) (lv' := [(2, .int z66), (0, .ref (ad 64)), (1, .int 1)]) hx hb dX9_from_58 hl (k := 0) rfl e67 (by decide) rfl (fun ls hl => ?_)
            refine lv_goto (tgt := 33) hx hb dX9_from_61 (by decide) ?_
            have ck70 : 177 + L20.toNatClampNeg = 177 + L20.toNatClampNeg := by omega
            have f71 : w61 66 = .inl (cI, 354, .inl kp) := by rw [e62, va_up_ne _ _ (by decide)]; exact cf34
            exact ih25  z66 g57 w61 _ _ _ (by omega) (by omega) (fun j hj => by rw [n69] at hj; rw [← e58]; by_cases q9 : j = L20.toNatClampNeg; (subst q9; rw [pk_us, ← ck70]; exact e55.symm); (rw [pk_un q9]; exact hi29 j (by omega))) (F65.up hi30 e62) ok64 kx65 f63 f71 (by omega) h (lv_sub hl [0, 1, 2] rfl)
      exact hloop23 178 (0 : Int32) f w _ _ _ (by have q0 : (0 : Int32).toInt = 0 := rfl; omega) (by have q0 : (0 : Int32).toInt = 0 := rfl; omega) (fun j hj => absurd hj (Nat.not_lt_zero _)) F65.rf ok KN.rf pf p66 (by have q0 : (0 : Int32).toInt = 0 := rfl; omega) h (lv_sub hl [0, 1, 2] rfl)
    · have hc19 : (vfl).toInt = 0 := i_eq hc19 rfl rfl
      refine lv_aload_n hx hb dX9_from_26 rfl (lv_at hl 0 rfl) ?_
      refine n_Vi (na := 0) (As := []) (rest := []) X hD hN h rfl (c_M_no l G cI cB cZ cO ad w  ok   ) ⟨kv_545, kv_546, kv_547, kv_470, kv_548⟩ rfl ⟨by decide, by decide, by decide⟩ ⟨Nat.le_of_ble_eq_true rfl, Nat.le_of_ble_eq_true rfl⟩ ⟨Nat.zero_le _, Nat.zero_le _⟩ (by decide) f18 rfl rfl hl.1 rfl (Nat.le_of_ble_eq_true rfl) dX9_from_27 (fun r72 w73 H locs hp74 h => ?_)
      have kM75 : KM w w73 := hp74.2.1
      obtain ⟨ok78, kk79, hr77⟩ := hp74
      have kx80 : KN w w73 := kk79.n
      subst hr77
      exact e_i X h hr hlk dX9_from_30 ⟨ok78, kx80, Or.inl ⟨by rw [evfl]; omega, kM75, rfl⟩⟩
  · exfalso; omega

set_option maxHeartbeats 4000000 in
set_option maxRecDepth 100000 in
theorem c_MF_imageN (l : Launch) (G : va_G) (cI cB cZ cO : ClassId) (ad : Nat → Nat) (w : Nat → va_E)  (ok : OK cI cB cZ cO ad w) (i : Int32)  (hno : ¬ (0 ≤ i.toInt ∧ i.toInt ≤ 1)) : NI l G (tyq cI cB cZ cO) yX9_image cX9_image 3 (some .int) 1 25 74 ad w [.ref (ad 64), .int i] (fun r w1 => OK cI cB cZ cO ad w1 ∧ KN w w1 ∧ KM w w1 ∧ r = -2) := by
  refine nk_i (own := "NoonShadeModel") rfl (by decide) (Nat.le_of_ble_eq_true rfl) ?_
  intro p e s m below meth c ls X hD hN hr hlk h hl
  have hx := X.1.1
  have hb := X.1.2.1
  have hown := X.1.2.2.2.1
  have hts := X.1.2.2.2.2
  have hl : lv_has ls 3 [(0, .ref (ad 64)), (1, .int i)] := hl
  refine lv_iload_n hx hb dX9_image_0 rfl (lv_at hl 1 rfl) ?_
  obtain ⟨z1, e2⟩ : ∃ z : Int64, i.toInt64 = z := ⟨_, rfl⟩
  have tz1 : z1.toInt = (i).toInt := by rw [← e2]; exact Int32.toInt_toInt64 _
  refine lv_i2l (v := z1) hx hb dX9_image_1 e2 ?_
  refine lv_lconst (v := 0) hx hb dX9_image_2 (by decide) ?_
  refine lv_lconst (v := 1) hx hb dX9_image_3 (by decide) ?_
  refine n_Si (na := 3) (As := [.long z1, .long 0, .long 1]) (rest := []) X hD hN h (c_M_in l G cI cB cZ cO ad w z1 (0 : Int64) (1 : Int64) ((i).toInt) 0 1 tz1 rfl rfl) ⟨kv_468, kv_469, kv_470, kv_471⟩ ⟨by decide, by decide, by decide⟩ ⟨Nat.le_of_ble_eq_true rfl, Nat.le_of_ble_eq_true rfl⟩ ⟨Nat.zero_le _, Nat.zero_le _⟩ rfl hl.1 rfl (Nat.le_of_ble_eq_true rfl) dX9_image_4 (fun r3 w4 H locs hp5 h => ?_)
  obtain ⟨rfl, hq6⟩ := hp5
  rcases hq6 with ⟨hq7, hq8, rfl⟩ | ⟨hq6, rfl⟩
  · refine lv_if_ne (tgt := 17) hx hb dX9_image_7 (by decide) (fun _ => ?_) (fun hc => absurd hc (by decide))
    refine lv_iconst (v := 0) hx hb dX9_image_17 (by decide) ?_
    refine lv_istore_n (lv' := [(2, .int 0), (0, .ref (ad 64)), (1, .int i)]) hx hb dX9_image_18 rfl hl (by decide) rfl (fun ls hl => ?_)
    exfalso; omega
  · refine lv_if_ne (tgt := 17) hx hb dX9_image_7 (by decide) (fun hc => absurd (by decide) hc) (fun _ => ?_)
    refine lv_aload_n hx hb dX9_image_10 rfl (lv_at hl 0 rfl) ?_
    refine lv_bipush (v := (-2)) hx hb dX9_image_11 (by decide) ?_
    obtain ⟨x13, x14, t15, t16, t17, t18, t19, t20, f12, h21, h22⟩ := (show sM ad (w 64) from ok 64 (by decide))
    have f23 : w 64 = .inr (7, [.ref (ad 65), .ref (ad 66), .ref (ad 67), .ref (ad 68), .long x13, .long x14, .ref (ad 69), .int t15, .ref (ad 70), .ref (ad 71), .int t16, .int t17, .int t18, .int t19, .int t20, .ref (ad 72), .ref (ad 73)]) := f12
    refine n_Vi (na := 1) (As := [.int (-2)]) (rest := []) X hD hN h rfl (c_M_bad l G cI cB cZ cO ad w  ok ((-2) : Int32)  ) ⟨kv_553, kv_554, kv_555, kv_470, kv_556⟩ rfl ⟨by decide, by decide, by decide⟩ ⟨Nat.le_of_ble_eq_true rfl, Nat.le_of_ble_eq_true rfl⟩ ⟨Nat.zero_le _, Nat.zero_le _⟩ (by decide) f23 rfl rfl hl.1 rfl (Nat.le_of_ble_eq_true rfl) dX9_image_13 (fun r9 w10 H locs hp11 h => ?_)
    have kM24 : KM w w10 := hp11.2.1
    obtain ⟨ok27, kk28, hr26⟩ := hp11
    have kx29 : KN w w10 := kk28.n
    subst hr26
    exact e_i X h hr hlk dX9_image_16 ⟨ok27, kx29, ⟨kM24, rfl⟩⟩

set_option maxHeartbeats 4000000 in
set_option maxRecDepth 100000 in
theorem c_MF_fromN (l : Launch) (G : va_G) (cI cB cZ cO : ClassId) (ad : Nat → Nat) (w : Nat → va_E)  (ok : OK cI cB cZ cO ad w) (i : Int32)  (hno : ¬ (0 ≤ i.toInt ∧ i.toInt ≤ 1)) : NI l G (tyq cI cB cZ cO) yX9_from cX9_from 3 (some .int) 1 25 74 ad w [.ref (ad 64), .int i] (fun r w1 => OK cI cB cZ cO ad w1 ∧ KN w w1 ∧ KM w w1 ∧ r = -2) := by
  refine nk_i (own := "NoonShadeModel") rfl (by decide) (Nat.le_of_ble_eq_true rfl) ?_
  intro p e s m below meth c ls X hD hN hr hlk h hl
  have hx := X.1.1
  have hb := X.1.2.1
  have hown := X.1.2.2.2.1
  have hts := X.1.2.2.2.2
  have hl : lv_has ls 3 [(0, .ref (ad 64)), (1, .int i)] := hl
  refine lv_iload_n hx hb dX9_from_0 rfl (lv_at hl 1 rfl) ?_
  obtain ⟨z1, e2⟩ : ∃ z : Int64, i.toInt64 = z := ⟨_, rfl⟩
  have tz1 : z1.toInt = (i).toInt := by rw [← e2]; exact Int32.toInt_toInt64 _
  refine lv_i2l (v := z1) hx hb dX9_from_1 e2 ?_
  refine lv_lconst (v := 0) hx hb dX9_from_2 (by decide) ?_
  refine lv_lconst (v := 1) hx hb dX9_from_3 (by decide) ?_
  refine n_Si (na := 3) (As := [.long z1, .long 0, .long 1]) (rest := []) X hD hN h (c_M_in l G cI cB cZ cO ad w z1 (0 : Int64) (1 : Int64) ((i).toInt) 0 1 tz1 rfl rfl) ⟨kv_468, kv_469, kv_470, kv_471⟩ ⟨by decide, by decide, by decide⟩ ⟨Nat.le_of_ble_eq_true rfl, Nat.le_of_ble_eq_true rfl⟩ ⟨Nat.zero_le _, Nat.zero_le _⟩ rfl hl.1 rfl (Nat.le_of_ble_eq_true rfl) dX9_from_4 (fun r3 w4 H locs hp5 h => ?_)
  obtain ⟨rfl, hq6⟩ := hp5
  rcases hq6 with ⟨hq7, hq8, rfl⟩ | ⟨hq6, rfl⟩
  · refine lv_if_ne (tgt := 17) hx hb dX9_from_7 (by decide) (fun _ => ?_) (fun hc => absurd hc (by decide))
    refine lv_aload_n hx hb dX9_from_17 rfl (lv_at hl 0 rfl) ?_
    obtain ⟨x10, x11, t12, t13, t14, t15, t16, t17, f9, h18, h19⟩ := (show sM ad (w 64) from ok 64 (by decide))
    have f20 : w 64 = .inr (7, [.ref (ad 65), .ref (ad 66), .ref (ad 67), .ref (ad 68), .long x10, .long x11, .ref (ad 69), .int t12, .ref (ad 70), .ref (ad 71), .int t13, .int t14, .int t15, .int t16, .int t17, .ref (ad 72), .ref (ad 73)]) := f9
    refine r_get kc9 X h 64 2 (by decide) rfl f20 (by decide) kv_717 rfl dX9_from_18 ?_
    refine lv_iload_n hx hb dX9_from_21 rfl (lv_at hl 1 rfl) ?_
    obtain ⟨g22, f21, p23⟩ := (show sA cZ 2 (rgA 0 1) (w 67) from ok 67 (by decide))
    have f24 : w 67 = .inl (cZ, 2, .inl g22) := f21
    obtain ⟨v25, e26⟩ : ∃ z : Int32, g22 i.toNatClampNeg = z := ⟨_, rfl⟩
    have h27 := rgA_rd p23 e26
    refine o_zald (v := v25) X h 67 2 (by decide) rfl f24 rfl (in_of (by omega) (by omega)) e26 dX9_from_22 ?_
    refine lv_if_ne (tgt := 31) hx hb dX9_from_23 (by decide) (fun hc28 => ?_) (fun hc28 => ?_)
    · have hc28 : ¬ (v25).toInt = 0 := i_ne hc28 rfl rfl
      refine lv_iconst (v := 0) hx hb dX9_from_31 (by decide) ?_
      refine lv_istore_n (lv' := [(2, .int 0), (0, .ref (ad 64)), (1, .int i)]) hx hb dX9_from_32 rfl hl (by decide) rfl (fun ls hl => ?_)
      exfalso; omega
    · have hc28 : (v25).toInt = 0 := i_eq hc28 rfl rfl
      refine lv_aload_n hx hb dX9_from_26 rfl (lv_at hl 0 rfl) ?_
      refine n_Vi (na := 0) (As := []) (rest := []) X hD hN h rfl (c_M_no l G cI cB cZ cO ad w  ok   ) ⟨kv_545, kv_546, kv_547, kv_470, kv_548⟩ rfl ⟨by decide, by decide, by decide⟩ ⟨Nat.le_of_ble_eq_true rfl, Nat.le_of_ble_eq_true rfl⟩ ⟨Nat.zero_le _, Nat.zero_le _⟩ (by decide) f20 rfl rfl hl.1 rfl (Nat.le_of_ble_eq_true rfl) dX9_from_27 (fun r29 w30 H locs hp31 h => ?_)
      have kM32 : KM w w30 := hp31.2.1
      obtain ⟨ok35, kk36, hr34⟩ := hp31
      have kx37 : KN w w30 := kk36.n
      subst hr34
      exact e_i X h hr hlk dX9_from_30 ⟨ok35, kx37, (by exfalso; omega)⟩
  · refine lv_if_ne (tgt := 17) hx hb dX9_from_7 (by decide) (fun hc => absurd (by decide) hc) (fun _ => ?_)
    refine lv_aload_n hx hb dX9_from_10 rfl (lv_at hl 0 rfl) ?_
    refine lv_bipush (v := (-2)) hx hb dX9_from_11 (by decide) ?_
    obtain ⟨x42, x43, t44, t45, t46, t47, t48, t49, f41, h50, h51⟩ := (show sM ad (w 64) from ok 64 (by decide))
    have f52 : w 64 = .inr (7, [.ref (ad 65), .ref (ad 66), .ref (ad 67), .ref (ad 68), .long x42, .long x43, .ref (ad 69), .int t44, .ref (ad 70), .ref (ad 71), .int t45, .int t46, .int t47, .int t48, .int t49, .ref (ad 72), .ref (ad 73)]) := f41
    refine n_Vi (na := 1) (As := [.int (-2)]) (rest := []) X hD hN h rfl (c_M_bad l G cI cB cZ cO ad w  ok ((-2) : Int32)  ) ⟨kv_553, kv_554, kv_555, kv_470, kv_556⟩ rfl ⟨by decide, by decide, by decide⟩ ⟨Nat.le_of_ble_eq_true rfl, Nat.le_of_ble_eq_true rfl⟩ ⟨Nat.zero_le _, Nat.zero_le _⟩ (by decide) f52 rfl rfl hl.1 rfl (Nat.le_of_ble_eq_true rfl) dX9_from_13 (fun r38 w39 H locs hp40 h => ?_)
    have kM53 : KM w w39 := hp40.2.1
    obtain ⟨ok56, kk57, hr55⟩ := hp40
    have kx58 : KN w w39 := kk57.n
    subst hr55
    exact e_i X h hr hlk dX9_from_16 ⟨ok56, kx58, ⟨kM53, rfl⟩⟩
