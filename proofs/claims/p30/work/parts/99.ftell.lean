set_option maxHeartbeats 4000000 in
set_option maxRecDepth 100000 in
theorem c_F_carryOut0 (l : Launch) (G : va_G) (cI cB cZ cO : ClassId) (ad : Nat → Nat) (w : Nat → va_E) (f : Nat → Int32) (t0 t1 t2 t3 t4 : Int32) (Gh : Nat → Int32) (ok : OK cI cB cZ cO ad w)   (pf : w 57 = .inl (cI, 3, .inl f)) (pn : rgA 0 99 f) (p55 : w 55 = .inr (5, [.ref (ad 56), .ref (ad 57), .int t0, .int t1, .int t2, .int t3, .int t4])) (hR : RG cI ad w Gh) (hG0 : Gh = begF 0) : NV l G (tyq cI cB cZ cO) yX7_carryOut cX7_carryOut 3 0 0 74 ad w [.ref (ad 55), .ref (ad 14), .int 0] (fun w1 => OK cI cB cZ cO ad w1 ∧ KB 14 w w1 ∧ RG cI ad w1 (begF (f 0))) := by
  refine nk_v (own := "NoonShade$Text") rfl (by decide) (Nat.le_of_ble_eq_true rfl) ?_
  intro p e s m below meth c ls X hD hN hr hlk h hl
  have hx := X.1.1
  have hb := X.1.2.1
  have hown := X.1.2.2.2.1
  have hts := X.1.2.2.2.2
  have hl : lv_has ls 3 [(0, .ref (ad 55)), (1, .ref (ad 14)), (2, .int 0)] := hl
  obtain ⟨v1, e2⟩ : ∃ z : Int32, f 0 = z := ⟨_, rfl⟩
  have h3 := rgA_rd pn e2
  obtain ⟨v4, e5⟩ : ∃ z : Int32, f 1 = z := ⟨_, rfl⟩
  have h6 := rgA_rd pn e5
  obtain ⟨v7, e8⟩ : ∃ z : Int32, f 2 = z := ⟨_, rfl⟩
  have h9 := rgA_rd pn e8
  obtain ⟨so10, ho11, mi12, ca13, ja14, ck15, hh16, jk17, co18, p19, p20, p21, p22, p23, p24, p25, hG26⟩ := id hR
  have p19 : w 14 = .inr (1, [.int ho11, .int so10, .int mi12, .int ca13, .int ja14, .ref (ad 15), .ref (ad 16), .ref (ad 17), .ref (ad 18), .ref (ad 19), .ref (ad 20), .ref (ad 21), .ref (ad 23), .ref (ad 25)]) := p19
  obtain ⟨hG27, hG28, hG29, hG30, hG31, hG32, hG33, hG34, hG35, hG36, hG37⟩ := id hG26
  have p38 : rgA 0 9 hh16 := sA_pred (show sA cI 7 (rgA 0 9) (w 16) from ok 16 (by decide)) p21
  have p39 : rgA 0 60 co18 := sA_pred (show sA cI 4 (rgA 0 60) (w 19) from ok 19 (by decide)) p23
  refine lv_iload_n hx hb dX7_carryOut_0 rfl (lv_at hl 2 rfl) ?_
  refine lv_tableIn (tgt := 36) (off := 35) hx hb dX7_carryOut_1 (by decide) (by decide) (by decide) (by decide) ?_
  refine lv_aload_n hx hb dX7_carryOut_36 rfl (lv_at hl 1 rfl) ?_
  refine lv_aload_n hx hb dX7_carryOut_37 rfl (lv_at hl 0 rfl) ?_
  refine r_get kc7 X h 55 1 (by decide) rfl p55 (by decide) kv_413 rfl dX7_carryOut_38 ?_
  refine lv_iconst (v := 0) hx hb dX7_carryOut_41 (by decide) ?_
  refine o_iald (v := v1) X h 57 0 (by decide) rfl pf rfl (by unfold vp_in; decide) e2 dX7_carryOut_42 ?_
  refine r_put kc2 X hD h 14 0 (by decide) rfl p19 (by decide) kv_425 rfl rfl rfl (Nat.le_of_ble_eq_true rfl) dX7_carryOut_43 (fun H locs w40 e41 h => ?_)
  have f42 : w40 14 = .inr (1, [.int v1, .int so10, .int mi12, .int ca13, .int ja14, .ref (ad 15), .ref (ad 16), .ref (ad 17), .ref (ad 18), .ref (ad 19), .ref (ad 20), .ref (ad 21), .ref (ad 23), .ref (ad 25)]) := (congrFun e41 _).trans (va_up_self _ _ _)
  have ok43 : OK cI cB cZ cO ad w40 := OK.up ok e41 (sI_mk (by omega) (by omega) (by omega) (by omega))
  have kx44 : KB 14 w w40 := KB.up KB.rf e41 p19 rfl (by omega)
  refine lv_goto (tgt := 139) hx hb dX7_carryOut_46 (by decide) ?_
  have f46 : w40 15 = .inl (cI, 7, .inl ck15) := by rw [e41, va_up_ne _ _ (by decide)]; exact p20
  have f47 : w40 16 = .inl (cI, 7, .inl hh16) := by rw [e41, va_up_ne _ _ (by decide)]; exact p21
  have f48 : w40 18 = .inl (cI, 4, .inl jk17) := by rw [e41, va_up_ne _ _ (by decide)]; exact p22
  have f49 : w40 19 = .inl (cI, 4, .inl co18) := by rw [e41, va_up_ne _ _ (by decide)]; exact p23
  have f50 : w40 21 = .inr (4, [.ref (ad 22), .int 0]) := by rw [e41, va_up_ne _ _ (by decide)]; exact p24
  have f51 : w40 23 = .inr (4, [.ref (ad 24), .int 0]) := by rw [e41, va_up_ne _ _ (by decide)]; exact p25
  have hfin45 : RG cI ad w40 (begF (f 0)) := by
    have z7 : mi12 = 0 := by rw [← hG28, hG0]; rfl
    have z0_ : ca13 = 0 := by rw [← hG29, hG0]; rfl
    have z1_ : ja14 = 0 := by rw [← hG30, hG0]; rfl
    refine ⟨_, _, _, _, _, _, _, _, _, f42, f46, f47, f48, f49, f50, f51, ?_⟩
    rw [z7, z0_, z1_, e2]
    exact d_beg _
  exact e_v X h hr hlk dX7_carryOut_139 ⟨ok43, kx44, hfin45⟩

set_option maxHeartbeats 4000000 in
set_option maxRecDepth 100000 in
theorem c_F_carryOut1 (l : Launch) (G : va_G) (cI cB cZ cO : ClassId) (ad : Nat → Nat) (w : Nat → va_E) (f : Nat → Int32) (t0 t1 t2 t3 t4 : Int32) (Gh : Nat → Int32) (ok : OK cI cB cZ cO ad w)   (pf : w 57 = .inl (cI, 3, .inl f)) (pn : rgA 0 99 f) (p55 : w 55 = .inr (5, [.ref (ad 56), .ref (ad 57), .int t0, .int t1, .int t2, .int t3, .int t4])) (hR : RG cI ad w Gh) (hlt : (Gh 0).toInt < 7) (hn : (f 1).toInt ≤ 9) : NV l G (tyq cI cB cZ cO) yX7_carryOut cX7_carryOut 3 1 23 74 ad w [.ref (ad 55), .ref (ad 14), .int 1] (fun w1 => OK cI cB cZ cO ad w1 ∧ KB 14 w w1 ∧ RG cI ad w1 (layCF Gh (f 0) (f 1) (f 2))) := by
  refine nk_v (own := "NoonShade$Text") rfl (by decide) (Nat.le_of_ble_eq_true rfl) ?_
  intro p e s m below meth c ls X hD hN hr hlk h hl
  have hx := X.1.1
  have hb := X.1.2.1
  have hown := X.1.2.2.2.1
  have hts := X.1.2.2.2.2
  have hl : lv_has ls 3 [(0, .ref (ad 55)), (1, .ref (ad 14)), (2, .int 1)] := hl
  obtain ⟨v1, e2⟩ : ∃ z : Int32, f 0 = z := ⟨_, rfl⟩
  have h3 := rgA_rd pn e2
  obtain ⟨v4, e5⟩ : ∃ z : Int32, f 1 = z := ⟨_, rfl⟩
  have h6 := rgA_rd pn e5
  obtain ⟨v7, e8⟩ : ∃ z : Int32, f 2 = z := ⟨_, rfl⟩
  have h9 := rgA_rd pn e8
  rw [e5] at hn
  refine lv_iload_n hx hb dX7_carryOut_0 rfl (lv_at hl 2 rfl) ?_
  refine lv_tableIn (tgt := 49) (off := 48) hx hb dX7_carryOut_1 (by decide) (by decide) (by decide) (by decide) ?_
  refine lv_aload_n hx hb dX7_carryOut_49 rfl (lv_at hl 1 rfl) ?_
  refine lv_aload_n hx hb dX7_carryOut_50 rfl (lv_at hl 0 rfl) ?_
  refine r_get kc7 X h 55 1 (by decide) rfl p55 (by decide) kv_413 rfl dX7_carryOut_51 ?_
  refine lv_iconst (v := 0) hx hb dX7_carryOut_54 (by decide) ?_
  refine o_iald (v := v1) X h 57 0 (by decide) rfl pf rfl (by unfold vp_in; decide) e2 dX7_carryOut_55 ?_
  refine lv_aload_n hx hb dX7_carryOut_56 rfl (lv_at hl 0 rfl) ?_
  refine r_get kc7 X h 55 1 (by decide) rfl p55 (by decide) kv_413 rfl dX7_carryOut_57 ?_
  refine lv_iconst (v := 1) hx hb dX7_carryOut_60 (by decide) ?_
  refine o_iald (v := v4) X h 57 0 (by decide) rfl pf rfl (by unfold vp_in; decide) e5 dX7_carryOut_61 ?_
  refine lv_aload_n hx hb dX7_carryOut_62 rfl (lv_at hl 0 rfl) ?_
  refine r_get kc7 X h 55 1 (by decide) rfl p55 (by decide) kv_413 rfl dX7_carryOut_63 ?_
  refine lv_iconst (v := 2) hx hb dX7_carryOut_66 (by decide) ?_
  refine o_iald (v := v7) X h 57 0 (by decide) rfl pf rfl (by unfold vp_in; decide) e8 dX7_carryOut_67 ?_
  obtain ⟨q14, q15, q16, q17, q18, f13, h19, h20, h21, h22⟩ := (show sI ad 14 (w 14) from ok 14 (by decide))
  have f23 : w 14 = .inr (1, [.int q14, .int q15, .int q16, .int q17, .int q18, .ref (ad 15), .ref (ad 16), .ref (ad 17), .ref (ad 18), .ref (ad 19), .ref (ad 20), .ref (ad 21), .ref (ad 23), .ref (ad 25)]) := f13
  refine n_Vi (na := 3) (As := [.int v1, .int v4, .int v7]) (rest := []) X hD hN h rfl (c_F_addCaster l G cI cB cZ cO ad w Gh ok v1 v4 v7 (by omega) (by omega) hR hlt) ⟨kv_426, kv_337, kv_338, kv_37, kv_339⟩ rfl ⟨by decide, by decide, by decide⟩ ⟨Nat.le_of_ble_eq_true rfl, Nat.le_of_ble_eq_true rfl⟩ ⟨Nat.zero_le _, Nat.zero_le _⟩ (by decide) f23 rfl rfl hl.1 rfl (Nat.le_of_ble_eq_true rfl) dX7_carryOut_68 (fun r10 w11 H locs hp12 h => ?_)
  obtain ⟨ok24, kk25, hr26⟩ := hp12
  have kx27 : KB 14 w w11 := kk25
  obtain ⟨Gh28, eG29⟩ : ∃ zG : Nat → Int32, layCF Gh v1 v4 v7 = zG := ⟨_, rfl⟩
  rw [eG29] at hr26
  refine lv_pop hx hb dX7_carryOut_71 rfl ?_
  refine lv_goto (tgt := 139) hx hb dX7_carryOut_72 (by decide) ?_
  have hfin30 : RG cI ad w11 (layCF Gh (f 0) (f 1) (f 2)) := by
    rw [e2, e5, e8, eG29]; exact hr26
  exact e_v X h hr hlk dX7_carryOut_139 ⟨ok24, kx27, hfin30⟩

set_option maxHeartbeats 4000000 in
set_option maxRecDepth 100000 in
theorem c_F_carryOut2 (l : Launch) (G : va_G) (cI cB cZ cO : ClassId) (ad : Nat → Nat) (w : Nat → va_E) (f : Nat → Int32) (t0 t1 t2 t3 t4 : Int32) (Gh : Nat → Int32) (ok : OK cI cB cZ cO ad w)   (pf : w 57 = .inl (cI, 3, .inl f)) (pn : rgA 0 99 f) (p55 : w 55 = .inr (5, [.ref (ad 56), .ref (ad 57), .int t0, .int t1, .int t2, .int t3, .int t4])) (hR : RG cI ad w Gh) (hlt : (Gh 1).toInt < 4) : NV l G (tyq cI cB cZ cO) yX7_carryOut cX7_carryOut 3 1 21 74 ad w [.ref (ad 55), .ref (ad 14), .int 2] (fun w1 => OK cI cB cZ cO ad w1 ∧ KB 14 w w1 ∧ RG cI ad w1 (layJF Gh (f 0))) := by
  refine nk_v (own := "NoonShade$Text") rfl (by decide) (Nat.le_of_ble_eq_true rfl) ?_
  intro p e s m below meth c ls X hD hN hr hlk h hl
  have hx := X.1.1
  have hb := X.1.2.1
  have hown := X.1.2.2.2.1
  have hts := X.1.2.2.2.2
  have hl : lv_has ls 3 [(0, .ref (ad 55)), (1, .ref (ad 14)), (2, .int 2)] := hl
  obtain ⟨v1, e2⟩ : ∃ z : Int32, f 0 = z := ⟨_, rfl⟩
  have h3 := rgA_rd pn e2
  obtain ⟨v4, e5⟩ : ∃ z : Int32, f 1 = z := ⟨_, rfl⟩
  have h6 := rgA_rd pn e5
  obtain ⟨v7, e8⟩ : ∃ z : Int32, f 2 = z := ⟨_, rfl⟩
  have h9 := rgA_rd pn e8
  refine lv_iload_n hx hb dX7_carryOut_0 rfl (lv_at hl 2 rfl) ?_
  refine lv_tableIn (tgt := 75) (off := 74) hx hb dX7_carryOut_1 (by decide) (by decide) (by decide) (by decide) ?_
  refine lv_aload_n hx hb dX7_carryOut_75 rfl (lv_at hl 1 rfl) ?_
  refine lv_aload_n hx hb dX7_carryOut_76 rfl (lv_at hl 0 rfl) ?_
  refine r_get kc7 X h 55 1 (by decide) rfl p55 (by decide) kv_413 rfl dX7_carryOut_77 ?_
  refine lv_iconst (v := 0) hx hb dX7_carryOut_80 (by decide) ?_
  refine o_iald (v := v1) X h 57 0 (by decide) rfl pf rfl (by unfold vp_in; decide) e2 dX7_carryOut_81 ?_
  obtain ⟨q14, q15, q16, q17, q18, f13, h19, h20, h21, h22⟩ := (show sI ad 14 (w 14) from ok 14 (by decide))
  have f23 : w 14 = .inr (1, [.int q14, .int q15, .int q16, .int q17, .int q18, .ref (ad 15), .ref (ad 16), .ref (ad 17), .ref (ad 18), .ref (ad 19), .ref (ad 20), .ref (ad 21), .ref (ad 23), .ref (ad 25)]) := f13
  refine n_Vi (na := 1) (As := [.int v1]) (rest := []) X hD hN h rfl (c_F_addJar l G cI cB cZ cO ad w Gh ok v1  hR hlt) ⟨kv_427, kv_341, kv_342, kv_37, kv_343⟩ rfl ⟨by decide, by decide, by decide⟩ ⟨Nat.le_of_ble_eq_true rfl, Nat.le_of_ble_eq_true rfl⟩ ⟨Nat.zero_le _, Nat.zero_le _⟩ (by decide) f23 rfl rfl hl.1 rfl (Nat.le_of_ble_eq_true rfl) dX7_carryOut_82 (fun r10 w11 H locs hp12 h => ?_)
  obtain ⟨ok24, kk25, hr26⟩ := hp12
  have kx27 : KB 14 w w11 := kk25
  obtain ⟨Gh28, eG29⟩ : ∃ zG : Nat → Int32, layJF Gh v1 = zG := ⟨_, rfl⟩
  rw [eG29] at hr26
  refine lv_pop hx hb dX7_carryOut_85 rfl ?_
  refine lv_goto (tgt := 139) hx hb dX7_carryOut_86 (by decide) ?_
  have hfin30 : RG cI ad w11 (layJF Gh (f 0)) := by
    rw [e2, eG29]; exact hr26
  exact e_v X h hr hlk dX7_carryOut_139 ⟨ok24, kx27, hfin30⟩

set_option maxHeartbeats 4000000 in
set_option maxRecDepth 100000 in
theorem c_F_carryOut3 (l : Launch) (G : va_G) (cI cB cZ cO : ClassId) (ad : Nat → Nat) (w : Nat → va_E) (f : Nat → Int32) (t0 t1 t2 t3 t4 : Int32) (Gh : Nat → Int32) (ok : OK cI cB cZ cO ad w)   (pf : w 57 = .inl (cI, 3, .inl f)) (pn : rgA 0 99 f) (p55 : w 55 = .inr (5, [.ref (ad 56), .ref (ad 57), .int t0, .int t1, .int t2, .int t3, .int t4])) (hR : RG cI ad w Gh) (hn : (f 0).toInt < (Gh 0).toInt ∧ (f 1).toInt < (Gh 1).toInt ∧ (f 0).toInt ≤ 6 ∧ (f 1).toInt ≤ 3) : NV l G (tyq cI cB cZ cO) yX7_carryOut cX7_carryOut 3 4 89 74 ad w [.ref (ad 55), .ref (ad 14), .int 3] (fun w1 => OK cI cB cZ cO ad w1 ∧ KB 14 w w1 ∧ RG cI ad w1 (goLaF Gh (f 0) (f 1).toNatClampNeg)) := by
  refine nk_v (own := "NoonShade$Text") rfl (by decide) (Nat.le_of_ble_eq_true rfl) ?_
  intro p e s m below meth c ls X hD hN hr hlk h hl
  have hx := X.1.1
  have hb := X.1.2.1
  have hown := X.1.2.2.2.1
  have hts := X.1.2.2.2.2
  have hl : lv_has ls 3 [(0, .ref (ad 55)), (1, .ref (ad 14)), (2, .int 3)] := hl
  obtain ⟨v1, e2⟩ : ∃ z : Int32, f 0 = z := ⟨_, rfl⟩
  have h3 := rgA_rd pn e2
  obtain ⟨v4, e5⟩ : ∃ z : Int32, f 1 = z := ⟨_, rfl⟩
  have h6 := rgA_rd pn e5
  obtain ⟨v7, e8⟩ : ∃ z : Int32, f 2 = z := ⟨_, rfl⟩
  have h9 := rgA_rd pn e8
  rw [e2, e5] at hn
  obtain ⟨hn0, hn1, hn2, hn3⟩ := hn
  refine lv_iload_n hx hb dX7_carryOut_0 rfl (lv_at hl 2 rfl) ?_
  refine lv_tableIn (tgt := 89) (off := 88) hx hb dX7_carryOut_1 (by decide) (by decide) (by decide) (by decide) ?_
  refine lv_aload_n hx hb dX7_carryOut_89 rfl (lv_at hl 1 rfl) ?_
  refine lv_aload_n hx hb dX7_carryOut_90 rfl (lv_at hl 0 rfl) ?_
  refine r_get kc7 X h 55 1 (by decide) rfl p55 (by decide) kv_413 rfl dX7_carryOut_91 ?_
  refine lv_iconst (v := 0) hx hb dX7_carryOut_94 (by decide) ?_
  refine o_iald (v := v1) X h 57 0 (by decide) rfl pf rfl (by unfold vp_in; decide) e2 dX7_carryOut_95 ?_
  refine lv_aload_n hx hb dX7_carryOut_96 rfl (lv_at hl 0 rfl) ?_
  refine r_get kc7 X h 55 1 (by decide) rfl p55 (by decide) kv_413 rfl dX7_carryOut_97 ?_
  refine lv_iconst (v := 1) hx hb dX7_carryOut_100 (by decide) ?_
  refine o_iald (v := v4) X h 57 0 (by decide) rfl pf rfl (by unfold vp_in; decide) e5 dX7_carryOut_101 ?_
  obtain ⟨q14, q15, q16, q17, q18, f13, h19, h20, h21, h22⟩ := (show sI ad 14 (w 14) from ok 14 (by decide))
  have f23 : w 14 = .inr (1, [.int q14, .int q15, .int q16, .int q17, .int q18, .ref (ad 15), .ref (ad 16), .ref (ad 17), .ref (ad 18), .ref (ad 19), .ref (ad 20), .ref (ad 21), .ref (ad 23), .ref (ad 25)]) := f13
  refine n_Vi (na := 2) (As := [.int v1, .int v4]) (rest := []) X hD hN h rfl (c_F_draw l G cI cB cZ cO ad w Gh ok v1 v4 (by omega) (by omega) (by omega) (by omega) hR hn0 hn1) ⟨kv_428, kv_236, kv_237, kv_37, kv_238⟩ rfl ⟨by decide, by decide, by decide⟩ ⟨Nat.le_of_ble_eq_true rfl, Nat.le_of_ble_eq_true rfl⟩ ⟨Nat.zero_le _, Nat.zero_le _⟩ (by decide) f23 rfl rfl hl.1 rfl (Nat.le_of_ble_eq_true rfl) dX7_carryOut_102 (fun r10 w11 H locs hp12 h => ?_)
  obtain ⟨ok24, kk25, hr26⟩ := hp12
  have kx27 : KB 14 w w11 := kk25
  obtain ⟨Gh28, eG29⟩ : ∃ zG : Nat → Int32, goLaF Gh v1 v4.toNatClampNeg = zG := ⟨_, rfl⟩
  rw [eG29] at hr26
  refine lv_pop hx hb dX7_carryOut_105 rfl ?_
  refine lv_goto (tgt := 139) hx hb dX7_carryOut_106 (by decide) ?_
  have hfin30 : RG cI ad w11 (goLaF Gh (f 0) (f 1).toNatClampNeg) := by
    rw [e2, e5, eG29]; exact hr26
  exact e_v X h hr hlk dX7_carryOut_139 ⟨ok24, kx27, hfin30⟩

set_option maxHeartbeats 4000000 in
set_option maxRecDepth 100000 in
theorem c_F_carryOut4 (l : Launch) (G : va_G) (cI cB cZ cO : ClassId) (ad : Nat → Nat) (w : Nat → va_E) (f : Nat → Int32) (t0 t1 t2 t3 t4 : Int32) (Gh : Nat → Int32) (ok : OK cI cB cZ cO ad w)   (pf : w 57 = .inl (cI, 3, .inl f)) (pn : rgA 0 99 f) (p55 : w 55 = .inr (5, [.ref (ad 56), .ref (ad 57), .int t0, .int t1, .int t2, .int t3, .int t4])) (hR : RG cI ad w Gh) (hn : (f 0).toInt < (Gh 1).toInt ∧ (f 1).toInt < (Gh 1).toInt ∧ (f 0).toInt ≤ 3 ∧ (f 1).toInt ≤ 3) : NV l G (tyq cI cB cZ cO) yX7_carryOut cX7_carryOut 3 3 68 74 ad w [.ref (ad 55), .ref (ad 14), .int 4] (fun w1 => OK cI cB cZ cO ad w1 ∧ KB 14 w w1 ∧ RG cI ad w1 (goPoF Gh (f 0).toNatClampNeg (f 1).toNatClampNeg)) := by
  refine nk_v (own := "NoonShade$Text") rfl (by decide) (Nat.le_of_ble_eq_true rfl) ?_
  intro p e s m below meth c ls X hD hN hr hlk h hl
  have hx := X.1.1
  have hb := X.1.2.1
  have hown := X.1.2.2.2.1
  have hts := X.1.2.2.2.2
  have hl : lv_has ls 3 [(0, .ref (ad 55)), (1, .ref (ad 14)), (2, .int 4)] := hl
  obtain ⟨v1, e2⟩ : ∃ z : Int32, f 0 = z := ⟨_, rfl⟩
  have h3 := rgA_rd pn e2
  obtain ⟨v4, e5⟩ : ∃ z : Int32, f 1 = z := ⟨_, rfl⟩
  have h6 := rgA_rd pn e5
  obtain ⟨v7, e8⟩ : ∃ z : Int32, f 2 = z := ⟨_, rfl⟩
  have h9 := rgA_rd pn e8
  rw [e2, e5] at hn
  obtain ⟨hn0, hn1, hn2, hn3⟩ := hn
  refine lv_iload_n hx hb dX7_carryOut_0 rfl (lv_at hl 2 rfl) ?_
  refine lv_tableIn (tgt := 109) (off := 108) hx hb dX7_carryOut_1 (by decide) (by decide) (by decide) (by decide) ?_
  refine lv_aload_n hx hb dX7_carryOut_109 rfl (lv_at hl 1 rfl) ?_
  refine lv_aload_n hx hb dX7_carryOut_110 rfl (lv_at hl 0 rfl) ?_
  refine r_get kc7 X h 55 1 (by decide) rfl p55 (by decide) kv_413 rfl dX7_carryOut_111 ?_
  refine lv_iconst (v := 0) hx hb dX7_carryOut_114 (by decide) ?_
  refine o_iald (v := v1) X h 57 0 (by decide) rfl pf rfl (by unfold vp_in; decide) e2 dX7_carryOut_115 ?_
  refine lv_aload_n hx hb dX7_carryOut_116 rfl (lv_at hl 0 rfl) ?_
  refine r_get kc7 X h 55 1 (by decide) rfl p55 (by decide) kv_413 rfl dX7_carryOut_117 ?_
  refine lv_iconst (v := 1) hx hb dX7_carryOut_120 (by decide) ?_
  refine o_iald (v := v4) X h 57 0 (by decide) rfl pf rfl (by unfold vp_in; decide) e5 dX7_carryOut_121 ?_
  obtain ⟨q14, q15, q16, q17, q18, f13, h19, h20, h21, h22⟩ := (show sI ad 14 (w 14) from ok 14 (by decide))
  have f23 : w 14 = .inr (1, [.int q14, .int q15, .int q16, .int q17, .int q18, .ref (ad 15), .ref (ad 16), .ref (ad 17), .ref (ad 18), .ref (ad 19), .ref (ad 20), .ref (ad 21), .ref (ad 23), .ref (ad 25)]) := f13
  refine n_Vi (na := 2) (As := [.int v1, .int v4]) (rest := []) X hD hN h rfl (c_F_pour l G cI cB cZ cO ad w Gh ok v1 v4 (by omega) (by omega) (by omega) (by omega) hR hn0 hn1) ⟨kv_429, kv_240, kv_241, kv_37, kv_242⟩ rfl ⟨by decide, by decide, by decide⟩ ⟨Nat.le_of_ble_eq_true rfl, Nat.le_of_ble_eq_true rfl⟩ ⟨Nat.zero_le _, Nat.zero_le _⟩ (by decide) f23 rfl rfl hl.1 rfl (Nat.le_of_ble_eq_true rfl) dX7_carryOut_122 (fun r10 w11 H locs hp12 h => ?_)
  obtain ⟨ok24, kk25, hr26⟩ := hp12
  have kx27 : KB 14 w w11 := kk25
  obtain ⟨Gh28, eG29⟩ : ∃ zG : Nat → Int32, goPoF Gh v1.toNatClampNeg v4.toNatClampNeg = zG := ⟨_, rfl⟩
  rw [eG29] at hr26
  refine lv_pop hx hb dX7_carryOut_125 rfl ?_
  refine lv_goto (tgt := 139) hx hb dX7_carryOut_126 (by decide) ?_
  have hfin30 : RG cI ad w11 (goPoF Gh (f 0).toNatClampNeg (f 1).toNatClampNeg) := by
    rw [e2, e5, eG29]; exact hr26
  exact e_v X h hr hlk dX7_carryOut_139 ⟨ok24, kx27, hfin30⟩

set_option maxHeartbeats 4000000 in
set_option maxRecDepth 100000 in
theorem c_F_carryOut5 (l : Launch) (G : va_G) (cI cB cZ cO : ClassId) (ad : Nat → Nat) (w : Nat → va_E) (f : Nat → Int32) (t0 t1 t2 t3 t4 : Int32) (Gh : Nat → Int32) (ok : OK cI cB cZ cO ad w)   (pf : w 57 = .inl (cI, 3, .inl f)) (pn : rgA 0 99 f) (p55 : w 55 = .inr (5, [.ref (ad 56), .ref (ad 57), .int t0, .int t1, .int t2, .int t3, .int t4])) (hR : RG cI ad w Gh) : NV l G (tyq cI cB cZ cO) yX7_carryOut cX7_carryOut 3 4 90 74 ad w [.ref (ad 55), .ref (ad 14), .int 5] (fun w1 => OK cI cB cZ cO ad w1 ∧ KB 14 w w1 ∧ RG cI ad w1 (goHsF (f 0).toNatClampNeg Gh)) := by
  refine nk_v (own := "NoonShade$Text") rfl (by decide) (Nat.le_of_ble_eq_true rfl) ?_
  intro p e s m below meth c ls X hD hN hr hlk h hl
  have hx := X.1.1
  have hb := X.1.2.1
  have hown := X.1.2.2.2.1
  have hts := X.1.2.2.2.2
  have hl : lv_has ls 3 [(0, .ref (ad 55)), (1, .ref (ad 14)), (2, .int 5)] := hl
  obtain ⟨v1, e2⟩ : ∃ z : Int32, f 0 = z := ⟨_, rfl⟩
  have h3 := rgA_rd pn e2
  obtain ⟨v4, e5⟩ : ∃ z : Int32, f 1 = z := ⟨_, rfl⟩
  have h6 := rgA_rd pn e5
  obtain ⟨v7, e8⟩ : ∃ z : Int32, f 2 = z := ⟨_, rfl⟩
  have h9 := rgA_rd pn e8
  refine lv_iload_n hx hb dX7_carryOut_0 rfl (lv_at hl 2 rfl) ?_
  refine lv_tableOut (tgt := 129) hx hb dX7_carryOut_1 (by decide) (by decide) ?_
  refine lv_aload_n hx hb dX7_carryOut_129 rfl (lv_at hl 1 rfl) ?_
  refine lv_aload_n hx hb dX7_carryOut_130 rfl (lv_at hl 0 rfl) ?_
  refine r_get kc7 X h 55 1 (by decide) rfl p55 (by decide) kv_413 rfl dX7_carryOut_131 ?_
  refine lv_iconst (v := 0) hx hb dX7_carryOut_134 (by decide) ?_
  refine o_iald (v := v1) X h 57 0 (by decide) rfl pf rfl (by unfold vp_in; decide) e2 dX7_carryOut_135 ?_
  obtain ⟨q14, q15, q16, q17, q18, f13, h19, h20, h21, h22⟩ := (show sI ad 14 (w 14) from ok 14 (by decide))
  have f23 : w 14 = .inr (1, [.int q14, .int q15, .int q16, .int q17, .int q18, .ref (ad 15), .ref (ad 16), .ref (ad 17), .ref (ad 18), .ref (ad 19), .ref (ad 20), .ref (ad 21), .ref (ad 23), .ref (ad 25)]) := f13
  refine n_Vv (na := 1) (As := [.int v1]) (rest := []) X hD hN h rfl (c_F_passHours l G cI cB cZ cO ad w Gh ok v1 (by omega) (by omega) hR ) ⟨kv_430, kv_251, kv_252, kv_37, kv_253⟩ rfl ⟨by decide, by decide, by decide⟩ ⟨Nat.le_of_ble_eq_true rfl, Nat.le_of_ble_eq_true rfl⟩ ⟨Nat.zero_le _, Nat.zero_le _⟩ (by decide) f23 rfl rfl hl.1 rfl (Nat.le_of_ble_eq_true rfl) dX7_carryOut_136 (fun w11 H locs hp12 h => ?_)
  obtain ⟨ok24, kk25, hr26⟩ := hp12
  have kx27 : KB 14 w w11 := kk25
  obtain ⟨Gh28, eG29⟩ : ∃ zG : Nat → Int32, goHsF v1.toNatClampNeg Gh = zG := ⟨_, rfl⟩
  rw [eG29] at hr26
  have hfin30 : RG cI ad w11 (goHsF (f 0).toNatClampNeg Gh) := by
    rw [e2, eG29]; exact hr26
  exact e_v X h hr hlk dX7_carryOut_139 ⟨ok24, kx27, hfin30⟩

set_option maxHeartbeats 4000000 in
set_option maxRecDepth 100000 in
theorem c_F_mayBegin0 (l : Launch) (G : va_G) (cI cB cZ cO : ClassId) (ad : Nat → Nat) (w : Nat → va_E) (ho so mi ca ja : Int32)  (x : Int32) (hl_x : (-1) ≤ x.toInt) (hh_x : x.toInt ≤ 5) (p14 : w 14 = .inr (1, [.int ho, .int so, .int mi, .int ca, .int ja, .ref (ad 15), .ref (ad 16), .ref (ad 17), .ref (ad 18), .ref (ad 19), .ref (ad 20), .ref (ad 21), .ref (ad 23), .ref (ad 25)])) : NI l G (tyq cI cB cZ cO) yX7_mayBegin cX7_mayBegin 3 (some .boolean) 0 0 74 ad w [.ref (ad 14), .int x, .int 0] (fun r w1 => w = w1 ∧ ((((x.toInt = 1 ∧ ca.toInt < 7) ∨ (x.toInt = 2 ∧ ja.toInt < 4) ∨ 3 ≤ x.toInt) ∧ r = 1) ∨ (¬ ((x.toInt = 1 ∧ ca.toInt < 7) ∨ (x.toInt = 2 ∧ ja.toInt < 4) ∨ 3 ≤ x.toInt) ∧ r = 0))) := by
  refine nk_i (own := "NoonShade$Text") rfl (by decide) (Nat.le_of_ble_eq_true rfl) ?_
  intro p e s m below meth c ls X hD hN hr hlk h hl
  have hx := X.1.1
  have hb := X.1.2.1
  have hown := X.1.2.2.2.1
  have hts := X.1.2.2.2.2
  have hl : lv_has ls 3 [(0, .ref (ad 14)), (1, .int x), (2, .int 0)] := hl
  refine lv_iload_n hx hb dX7_mayBegin_0 rfl (lv_at hl 1 rfl) ?_
  by_cases hs1 : (-1) ≤ (x).toInt ∧ (x).toInt ≤ 2
  · have ha2 : x = (-1) ∨ x = 0 ∨ x = 1 ∨ x = 2 := by simp only [fa_eq]; have := hs1; simp only [show (((-1) : Int32).toInt = (-1)) from rfl, show ((0 : Int32).toInt = 0) from rfl, show ((1 : Int32).toInt = 1) from rfl, show ((2 : Int32).toInt = 2) from rfl]; omega
    rcases ha2 with hq | hq | hq | hq
    · refine lv_tableIn (tgt := 32) (off := 31) hx hb dX7_mayBegin_1 (by rw [hq]; decide) (by rw [hq]; decide) (by rw [hq]; decide) (by decide) ?_
      refine lv_iconst (v := 0) hx hb dX7_mayBegin_32 (by decide) ?_
      exact e_n X h hr hlk rfl dX7_mayBegin_33 ⟨rfl, Or.inr ⟨by first | omega | (have q9 := congrArg Int32.toInt hq; have q8 : (-1 : Int32).toInt = -1 := rfl; have q0 : (0 : Int32).toInt = 0 := rfl; have q1 : (1 : Int32).toInt = 1 := rfl; have q2 : (2 : Int32).toInt = 2 := rfl; omega), rfl⟩⟩
    · refine lv_tableIn (tgt := 34) (off := 33) hx hb dX7_mayBegin_1 (by rw [hq]; decide) (by rw [hq]; decide) (by rw [hq]; decide) (by decide) ?_
      refine lv_iload_n hx hb dX7_mayBegin_34 rfl (lv_at hl 2 rfl) ?_
      exact e_n X h hr hlk rfl dX7_mayBegin_35 ⟨rfl, Or.inr ⟨by first | omega | (have q9 := congrArg Int32.toInt hq; have q8 : (-1 : Int32).toInt = -1 := rfl; have q0 : (0 : Int32).toInt = 0 := rfl; have q1 : (1 : Int32).toInt = 1 := rfl; have q2 : (2 : Int32).toInt = 2 := rfl; omega), rfl⟩⟩
    · refine lv_tableIn (tgt := 36) (off := 35) hx hb dX7_mayBegin_1 (by rw [hq]; decide) (by rw [hq]; decide) (by rw [hq]; decide) (by decide) ?_
      refine lv_iload_n hx hb dX7_mayBegin_36 rfl (lv_at hl 2 rfl) ?_
      refine lv_if_ne (tgt := 53) hx hb dX7_mayBegin_37 (by decide) (fun hc => absurd (by decide) hc) (fun _ => ?_)
      refine lv_aload_n hx hb dX7_mayBegin_40 rfl (lv_at hl 0 rfl) ?_
      refine r_get kc2 X h 14 3 (by decide) rfl p14 (by decide) kv_403 rfl dX7_mayBegin_41 ?_
      refine lv_bipush (v := 7) hx hb dX7_mayBegin_44 (by decide) ?_
      refine lv_icmp_ge (tgt := 53) hx hb dX7_mayBegin_46 (by decide) (fun hc3 => ?_) (fun hc3 => ?_)
      · have hc3 : 7 ≤ (ca).toInt := i_le hc3 rfl rfl
        refine lv_iconst (v := 0) hx hb dX7_mayBegin_53 (by decide) ?_
        exact e_n X h hr hlk rfl dX7_mayBegin_54 ⟨rfl, Or.inr ⟨by first | omega | (have q9 := congrArg Int32.toInt hq; have q8 : (-1 : Int32).toInt = -1 := rfl; have q0 : (0 : Int32).toInt = 0 := rfl; have q1 : (1 : Int32).toInt = 1 := rfl; have q2 : (2 : Int32).toInt = 2 := rfl; omega), rfl⟩⟩
      · have hc3 : ¬ 7 ≤ (ca).toInt := i_nle hc3 rfl rfl
        refine lv_iconst (v := 1) hx hb dX7_mayBegin_49 (by decide) ?_
        refine lv_goto (tgt := 54) hx hb dX7_mayBegin_50 (by decide) ?_
        exact e_n X h hr hlk rfl dX7_mayBegin_54 ⟨rfl, Or.inl ⟨by first | omega | (have q9 := congrArg Int32.toInt hq; have q8 : (-1 : Int32).toInt = -1 := rfl; have q0 : (0 : Int32).toInt = 0 := rfl; have q1 : (1 : Int32).toInt = 1 := rfl; have q2 : (2 : Int32).toInt = 2 := rfl; omega), rfl⟩⟩
    · refine lv_tableIn (tgt := 55) (off := 54) hx hb dX7_mayBegin_1 (by rw [hq]; decide) (by rw [hq]; decide) (by rw [hq]; decide) (by decide) ?_
      refine lv_iload_n hx hb dX7_mayBegin_55 rfl (lv_at hl 2 rfl) ?_
      refine lv_if_ne (tgt := 71) hx hb dX7_mayBegin_56 (by decide) (fun hc => absurd (by decide) hc) (fun _ => ?_)
      refine lv_aload_n hx hb dX7_mayBegin_59 rfl (lv_at hl 0 rfl) ?_
      refine r_get kc2 X h 14 4 (by decide) rfl p14 (by decide) kv_404 rfl dX7_mayBegin_60 ?_
      refine lv_iconst (v := 4) hx hb dX7_mayBegin_63 (by decide) ?_
      refine lv_icmp_ge (tgt := 71) hx hb dX7_mayBegin_64 (by decide) (fun hc4 => ?_) (fun hc4 => ?_)
      · have hc4 : 4 ≤ (ja).toInt := i_le hc4 rfl rfl
        refine lv_iconst (v := 0) hx hb dX7_mayBegin_71 (by decide) ?_
        exact e_n X h hr hlk rfl dX7_mayBegin_72 ⟨rfl, Or.inr ⟨by first | omega | (have q9 := congrArg Int32.toInt hq; have q8 : (-1 : Int32).toInt = -1 := rfl; have q0 : (0 : Int32).toInt = 0 := rfl; have q1 : (1 : Int32).toInt = 1 := rfl; have q2 : (2 : Int32).toInt = 2 := rfl; omega), rfl⟩⟩
      · have hc4 : ¬ 4 ≤ (ja).toInt := i_nle hc4 rfl rfl
        refine lv_iconst (v := 1) hx hb dX7_mayBegin_67 (by decide) ?_
        refine lv_goto (tgt := 72) hx hb dX7_mayBegin_68 (by decide) ?_
        exact e_n X h hr hlk rfl dX7_mayBegin_72 ⟨rfl, Or.inl ⟨by first | omega | (have q9 := congrArg Int32.toInt hq; have q8 : (-1 : Int32).toInt = -1 := rfl; have q0 : (0 : Int32).toInt = 0 := rfl; have q1 : (1 : Int32).toInt = 1 := rfl; have q2 : (2 : Int32).toInt = 2 := rfl; omega), rfl⟩⟩
  · refine lv_tableOut (tgt := 73) hx hb dX7_mayBegin_1 (by omega) (by decide) ?_
    refine lv_iload_n hx hb dX7_mayBegin_73 rfl (lv_at hl 2 rfl) ?_
    refine lv_if_ne (tgt := 81) hx hb dX7_mayBegin_74 (by decide) (fun hc => absurd (by decide) hc) (fun _ => ?_)
    refine lv_iconst (v := 1) hx hb dX7_mayBegin_77 (by decide) ?_
    refine lv_goto (tgt := 82) hx hb dX7_mayBegin_78 (by decide) ?_
    exact e_n X h hr hlk rfl dX7_mayBegin_82 ⟨rfl, Or.inl ⟨by first | omega | (have q9 := congrArg Int32.toInt hq; have q8 : (-1 : Int32).toInt = -1 := rfl; have q0 : (0 : Int32).toInt = 0 := rfl; have q1 : (1 : Int32).toInt = 1 := rfl; have q2 : (2 : Int32).toInt = 2 := rfl; omega), rfl⟩⟩

set_option maxHeartbeats 4000000 in
set_option maxRecDepth 100000 in
theorem c_F_mayBegin1 (l : Launch) (G : va_G) (cI cB cZ cO : ClassId) (ad : Nat → Nat) (w : Nat → va_E) (ho so mi ca ja : Int32)  (x : Int32) (hl_x : (-1) ≤ x.toInt) (hh_x : x.toInt ≤ 5) (p14 : w 14 = .inr (1, [.int ho, .int so, .int mi, .int ca, .int ja, .ref (ad 15), .ref (ad 16), .ref (ad 17), .ref (ad 18), .ref (ad 19), .ref (ad 20), .ref (ad 21), .ref (ad 23), .ref (ad 25)])) : NI l G (tyq cI cB cZ cO) yX7_mayBegin cX7_mayBegin 3 (some .boolean) 0 0 74 ad w [.ref (ad 14), .int x, .int 1] (fun r w1 => w = w1 ∧ ((x.toInt = 0 ∧ r = 1) ∨ (¬ x.toInt = 0 ∧ r = 0))) := by
  refine nk_i (own := "NoonShade$Text") rfl (by decide) (Nat.le_of_ble_eq_true rfl) ?_
  intro p e s m below meth c ls X hD hN hr hlk h hl
  have hx := X.1.1
  have hb := X.1.2.1
  have hown := X.1.2.2.2.1
  have hts := X.1.2.2.2.2
  have hl : lv_has ls 3 [(0, .ref (ad 14)), (1, .int x), (2, .int 1)] := hl
  refine lv_iload_n hx hb dX7_mayBegin_0 rfl (lv_at hl 1 rfl) ?_
  by_cases hs1 : (-1) ≤ (x).toInt ∧ (x).toInt ≤ 2
  · have ha2 : x = (-1) ∨ x = 0 ∨ x = 1 ∨ x = 2 := by simp only [fa_eq]; have := hs1; simp only [show (((-1) : Int32).toInt = (-1)) from rfl, show ((0 : Int32).toInt = 0) from rfl, show ((1 : Int32).toInt = 1) from rfl, show ((2 : Int32).toInt = 2) from rfl]; omega
    rcases ha2 with hq | hq | hq | hq
    · refine lv_tableIn (tgt := 32) (off := 31) hx hb dX7_mayBegin_1 (by rw [hq]; decide) (by rw [hq]; decide) (by rw [hq]; decide) (by decide) ?_
      refine lv_iconst (v := 0) hx hb dX7_mayBegin_32 (by decide) ?_
      exact e_n X h hr hlk rfl dX7_mayBegin_33 ⟨rfl, Or.inr ⟨by first | omega | (have q9 := congrArg Int32.toInt hq; have q8 : (-1 : Int32).toInt = -1 := rfl; have q0 : (0 : Int32).toInt = 0 := rfl; have q1 : (1 : Int32).toInt = 1 := rfl; have q2 : (2 : Int32).toInt = 2 := rfl; omega), rfl⟩⟩
    · refine lv_tableIn (tgt := 34) (off := 33) hx hb dX7_mayBegin_1 (by rw [hq]; decide) (by rw [hq]; decide) (by rw [hq]; decide) (by decide) ?_
      refine lv_iload_n hx hb dX7_mayBegin_34 rfl (lv_at hl 2 rfl) ?_
      exact e_n X h hr hlk rfl dX7_mayBegin_35 ⟨rfl, Or.inl ⟨by first | omega | (have q9 := congrArg Int32.toInt hq; have q8 : (-1 : Int32).toInt = -1 := rfl; have q0 : (0 : Int32).toInt = 0 := rfl; have q1 : (1 : Int32).toInt = 1 := rfl; have q2 : (2 : Int32).toInt = 2 := rfl; omega), rfl⟩⟩
    · refine lv_tableIn (tgt := 36) (off := 35) hx hb dX7_mayBegin_1 (by rw [hq]; decide) (by rw [hq]; decide) (by rw [hq]; decide) (by decide) ?_
      refine lv_iload_n hx hb dX7_mayBegin_36 rfl (lv_at hl 2 rfl) ?_
      refine lv_if_ne (tgt := 53) hx hb dX7_mayBegin_37 (by decide) (fun _ => ?_) (fun hc => absurd hc (by decide))
      refine lv_iconst (v := 0) hx hb dX7_mayBegin_53 (by decide) ?_
      exact e_n X h hr hlk rfl dX7_mayBegin_54 ⟨rfl, Or.inr ⟨by first | omega | (have q9 := congrArg Int32.toInt hq; have q8 : (-1 : Int32).toInt = -1 := rfl; have q0 : (0 : Int32).toInt = 0 := rfl; have q1 : (1 : Int32).toInt = 1 := rfl; have q2 : (2 : Int32).toInt = 2 := rfl; omega), rfl⟩⟩
    · refine lv_tableIn (tgt := 55) (off := 54) hx hb dX7_mayBegin_1 (by rw [hq]; decide) (by rw [hq]; decide) (by rw [hq]; decide) (by decide) ?_
      refine lv_iload_n hx hb dX7_mayBegin_55 rfl (lv_at hl 2 rfl) ?_
      refine lv_if_ne (tgt := 71) hx hb dX7_mayBegin_56 (by decide) (fun _ => ?_) (fun hc => absurd hc (by decide))
      refine lv_iconst (v := 0) hx hb dX7_mayBegin_71 (by decide) ?_
      exact e_n X h hr hlk rfl dX7_mayBegin_72 ⟨rfl, Or.inr ⟨by first | omega | (have q9 := congrArg Int32.toInt hq; have q8 : (-1 : Int32).toInt = -1 := rfl; have q0 : (0 : Int32).toInt = 0 := rfl; have q1 : (1 : Int32).toInt = 1 := rfl; have q2 : (2 : Int32).toInt = 2 := rfl; omega), rfl⟩⟩
  · refine lv_tableOut (tgt := 73) hx hb dX7_mayBegin_1 (by omega) (by decide) ?_
    refine lv_iload_n hx hb dX7_mayBegin_73 rfl (lv_at hl 2 rfl) ?_
    refine lv_if_ne (tgt := 81) hx hb dX7_mayBegin_74 (by decide) (fun _ => ?_) (fun hc => absurd hc (by decide))
    refine lv_iconst (v := 0) hx hb dX7_mayBegin_81 (by decide) ?_
    exact e_n X h hr hlk rfl dX7_mayBegin_82 ⟨rfl, Or.inr ⟨by first | omega | (have q9 := congrArg Int32.toInt hq; have q8 : (-1 : Int32).toInt = -1 := rfl; have q0 : (0 : Int32).toInt = 0 := rfl; have q1 : (1 : Int32).toInt = 1 := rfl; have q2 : (2 : Int32).toInt = 2 := rfl; omega), rfl⟩⟩
