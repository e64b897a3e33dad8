set_option maxHeartbeats 4000000 in
set_option maxRecDepth 100000 in
theorem c_R_init (l : Launch) (G : va_G) (cI cB cZ cO : ClassId) (ad : Nat → Nat) (w : Nat → va_E) (b : Nat) (a : Nat) (ha : ad b = a) (pf : w b = .inr (4, [.null, .int 0])) : MA l G (tyq cI cB cZ cO) yX6_init cX6_init 1 1 24 1 24 (b + 1) (b + 2) ad w [.ref a] (fun ad1 w1 => w1 b = .inr (4, [.ref (ad1 (b + 1)), .int 0]) ∧ w1 (b + 1) = .inl (cI, 24, .inl (fun _ => 0)) ∧ ∀ k, k < b → w1 k = w k) := by
  refine mk_a (own := "NoonShade$Rows") rfl (by decide) (Nat.le_of_ble_eq_true rfl) ?_
  intro p e s m below meth c ls X hD hN hr hlk hnm h hl
  have hx := X.1.1
  have hb := X.1.2.1
  have hown := X.1.2.2.2.1
  have hts := X.1.2.2.2.2
  have hin : meth.name = "<init>" := hnm
  have hl : lv_has ls 1 [(0, .ref a)] := hl
  refine lv_aload_n hx hb dX6_init_0 rfl (lv_at hl 0 rfl) ?_
  refine W.objInit hx hb hown (hts _ kw_295) (hts _ kw_296) (hts _ kw_297) rfl (by rw [X.1.2.2.1]; exact hl.1) rfl dX6_init_1 (Nat.le_of_ble_eq_true rfl) (Nat.le_of_ble_eq_true rfl) ?_
  refine W.eq (g2 := F0 m 4 ls []) rfl ?_
  refine lv_aload_n hx hb dX6_init_4 rfl (lv_at hl 0 rfl) ?_
  refine lv_bipush (v := 24) hx hb dX6_init_5 (by decide) ?_
  refine r_newa (atype := .int) (N := 24) (n1 := b + 2) (c1 := 1) (s1 := 24) X hD h 0 kw_298 rfl rfl (fun _ h9 => h9) (fun _ => ai) (by decide) (by decide) (by decide) rfl rfl rfl (Nat.le_of_ble_eq_true rfl) (Nat.le_of_ble_eq_true rfl) dX6_init_7 (fun q1 ad2 w4 H ea3 ew5 hD h => ?_)
  have a6 : ad2 (b + 1) = q1 := (congrFun ea3 _).trans (va_up_self _ _ _)
  have f7 : w4 (b + 1) = .inl (cI, 24, .inl (fun _ => 0)) := (congrFun ew5 _).trans (va_up_self _ _ _)
  have a8 : ad2 b = a := (congrFun ea3 _).trans ((va_up_ne _ _ (by omega)).trans ha)
  have f9 : w4 b = .inr (4, [.null, .int 0]) := ((congrFun ew5 _).trans ((va_up_ne _ _ (by omega)).trans pf))
  refine r_putF kc6 X hD h hin b 0 (by omega) a8 f9 (by decide) kw_159 rfl rfl rfl rfl (Nat.le_of_ble_eq_true rfl) dX6_init_9 (fun H locs w10 e11 h => ?_)
  have f12 : w10 b = .inr (4, [.ref q1, .int 0]) := (congrFun e11 _).trans (va_up_self _ _ _)
  have z13 : w10 b = .inr (4, [.ref (ad2 (b + 1)), .int 0]) := by rw [a6]; exact f12
  have f14 : w10 (b + 1) = .inl (cI, 24, .inl (fun _ => 0)) := ((congrFun e11 _).trans ((va_up_ne _ _ (by omega)).trans f7))
  refine e_a (n := b + 1) (ad := ad) (post := (fun ad1 w1 => w1 b = .inr (4, [.ref (ad1 (b + 1)), .int 0]) ∧ w1 (b + 1) = .inl (cI, 24, .inl (fun _ => 0)) ∧ ∀ k, k < b → w1 k = w k)) X hD h hr hlk dX6_init_12 ?_ ?_
  · exact (fun k hk => (congrFun ea3 k).trans (va_up_ne _ _ (by omega)))
  · exact ⟨z13, f14, fun k hk => ((congrFun e11 k).trans (va_up_ne _ _ (by omega))).trans ((congrFun ew5 k).trans (va_up_ne _ _ (by omega)))⟩

set_option maxHeartbeats 4000000 in
set_option maxRecDepth 100000 in
theorem c_P_init (l : Launch) (G : va_G) (cI cB cZ cO : ClassId) (ad : Nat → Nat) (w : Nat → va_E) (b : Nat) (a : Nat) (ha : ad b = a) (pf : w b = .inr (2, [.null, .int 0])) : MA l G (tyq cI cB cZ cO) yX4_init cX4_init 1 1 24 1 88 (b + 1) (b + 2) ad w [.ref a] (fun ad1 w1 => w1 b = .inr (2, [.ref (ad1 (b + 1)), .int 0]) ∧ w1 (b + 1) = .inl (cI, 88, .inl (fun _ => 0)) ∧ ∀ k, k < b → w1 k = w k) := by
  refine mk_a (own := "NoonShade$Past") rfl (by decide) (Nat.le_of_ble_eq_true rfl) ?_
  intro p e s m below meth c ls X hD hN hr hlk hnm h hl
  have hx := X.1.1
  have hb := X.1.2.1
  have hown := X.1.2.2.2.1
  have hts := X.1.2.2.2.2
  have hin : meth.name = "<init>" := hnm
  have hl : lv_has ls 1 [(0, .ref a)] := hl
  refine lv_aload_n hx hb dX4_init_0 rfl (lv_at hl 0 rfl) ?_
  refine W.objInit hx hb hown (hts _ kw_299) (hts _ kw_296) (hts _ kw_297) rfl (by rw [X.1.2.2.1]; exact hl.1) rfl dX4_init_1 (Nat.le_of_ble_eq_true rfl) (Nat.le_of_ble_eq_true rfl) ?_
  refine W.eq (g2 := F0 m 4 ls []) rfl ?_
  refine lv_aload_n hx hb dX4_init_4 rfl (lv_at hl 0 rfl) ?_
  refine lv_bipush (v := 88) hx hb dX4_init_5 (by decide) ?_
  refine r_newa (atype := .int) (N := 88) (n1 := b + 2) (c1 := 1) (s1 := 88) X hD h 0 kw_298 rfl rfl (fun _ h9 => h9) (fun _ => ai) (by decide) (by decide) (by decide) rfl rfl rfl (Nat.le_of_ble_eq_true rfl) (Nat.le_of_ble_eq_true rfl) dX4_init_7 (fun q1 ad2 w4 H ea3 ew5 hD h => ?_)
  have a6 : ad2 (b + 1) = q1 := (congrFun ea3 _).trans (va_up_self _ _ _)
  have f7 : w4 (b + 1) = .inl (cI, 88, .inl (fun _ => 0)) := (congrFun ew5 _).trans (va_up_self _ _ _)
  have a8 : ad2 b = a := (congrFun ea3 _).trans ((va_up_ne _ _ (by omega)).trans ha)
  have f9 : w4 b = .inr (2, [.null, .int 0]) := ((congrFun ew5 _).trans ((va_up_ne _ _ (by omega)).trans pf))
  refine r_putF kc4 X hD h hin b 0 (by omega) a8 f9 (by decide) kw_142 rfl rfl rfl rfl (Nat.le_of_ble_eq_true rfl) dX4_init_9 (fun H locs w10 e11 h => ?_)
  have f12 : w10 b = .inr (2, [.ref q1, .int 0]) := (congrFun e11 _).trans (va_up_self _ _ _)
  have z13 : w10 b = .inr (2, [.ref (ad2 (b + 1)), .int 0]) := by rw [a6]; exact f12
  have f14 : w10 (b + 1) = .inl (cI, 88, .inl (fun _ => 0)) := ((congrFun e11 _).trans ((va_up_ne _ _ (by omega)).trans f7))
  refine e_a (n := b + 1) (ad := ad) (post := (fun ad1 w1 => w1 b = .inr (2, [.ref (ad1 (b + 1)), .int 0]) ∧ w1 (b + 1) = .inl (cI, 88, .inl (fun _ => 0)) ∧ ∀ k, k < b → w1 k = w k)) X hD h hr hlk dX4_init_12 ?_ ?_
  · exact (fun k hk => (congrFun ea3 k).trans (va_up_ne _ _ (by omega)))
  · exact ⟨z13, f14, fun k hk => ((congrFun e11 k).trans (va_up_ne _ _ (by omega))).trans ((congrFun ew5 k).trans (va_up_ne _ _ (by omega)))⟩

set_option maxHeartbeats 4000000 in
set_option maxRecDepth 100000 in
theorem c_G_init (l : Launch) (G : va_G) (cI cB cZ cO : ClassId) (ad : Nat → Nat) (w : Nat → va_E) (b : Nat) (a : Nat) (ha : ad b = a) (pf : w b = .inr (0, [.null])) : MA l G (tyq cI cB cZ cO) yX1_init cX1_init 1 1 24 1 6 (b + 1) (b + 2) ad w [.ref a] (fun ad1 w1 => w1 b = .inr (0, [.ref (ad1 (b + 1))]) ∧ w1 (b + 1) = .inl (cI, 6, .inl (fun _ => 0)) ∧ ∀ k, k < b → w1 k = w k) := by
  refine mk_a (own := "NoonShade$Guess") rfl (by decide) (Nat.le_of_ble_eq_true rfl) ?_
  intro p e s m below meth c ls X hD hN hr hlk hnm h hl
  have hx := X.1.1
  have hb := X.1.2.1
  have hown := X.1.2.2.2.1
  have hts := X.1.2.2.2.2
  have hin : meth.name = "<init>" := hnm
  have hl : lv_has ls 1 [(0, .ref a)] := hl
  refine lv_aload_n hx hb dX1_init_0 rfl (lv_at hl 0 rfl) ?_
  refine W.objInit hx hb hown (hts _ kw_300) (hts _ kw_296) (hts _ kw_297) rfl (by rw [X.1.2.2.1]; exact hl.1) rfl dX1_init_1 (Nat.le_of_ble_eq_true rfl) (Nat.le_of_ble_eq_true rfl) ?_
  refine W.eq (g2 := F0 m 4 ls []) rfl ?_
  refine lv_aload_n hx hb dX1_init_4 rfl (lv_at hl 0 rfl) ?_
  refine lv_bipush (v := 6) hx hb dX1_init_5 (by decide) ?_
  refine r_newa (atype := .int) (N := 6) (n1 := b + 2) (c1 := 1) (s1 := 6) X hD h 0 kw_298 rfl rfl (fun _ h9 => h9) (fun _ => ai) (by decide) (by decide) (by decide) rfl rfl rfl (Nat.le_of_ble_eq_true rfl) (Nat.le_of_ble_eq_true rfl) dX1_init_7 (fun q1 ad2 w4 H ea3 ew5 hD h => ?_)
  have a6 : ad2 (b + 1) = q1 := (congrFun ea3 _).trans (va_up_self _ _ _)
  have f7 : w4 (b + 1) = .inl (cI, 6, .inl (fun _ => 0)) := (congrFun ew5 _).trans (va_up_self _ _ _)
  have a8 : ad2 b = a := (congrFun ea3 _).trans ((va_up_ne _ _ (by omega)).trans ha)
  have f9 : w4 b = .inr (0, [.null]) := ((congrFun ew5 _).trans ((va_up_ne _ _ (by omega)).trans pf))
  refine r_putF kc1 X hD h hin b 0 (by omega) a8 f9 (by decide) kw_301 rfl rfl rfl rfl (Nat.le_of_ble_eq_true rfl) dX1_init_9 (fun H locs w10 e11 h => ?_)
  have f12 : w10 b = .inr (0, [.ref q1]) := (congrFun e11 _).trans (va_up_self _ _ _)
  have z13 : w10 b = .inr (0, [.ref (ad2 (b + 1))]) := by rw [a6]; exact f12
  have f14 : w10 (b + 1) = .inl (cI, 6, .inl (fun _ => 0)) := ((congrFun e11 _).trans ((va_up_ne _ _ (by omega)).trans f7))
  refine e_a (n := b + 1) (ad := ad) (post := (fun ad1 w1 => w1 b = .inr (0, [.ref (ad1 (b + 1))]) ∧ w1 (b + 1) = .inl (cI, 6, .inl (fun _ => 0)) ∧ ∀ k, k < b → w1 k = w k)) X hD h hr hlk dX1_init_12 ?_ ?_
  · exact (fun k hk => (congrFun ea3 k).trans (va_up_ne _ _ (by omega)))
  · exact ⟨z13, f14, fun k hk => ((congrFun e11 k).trans (va_up_ne _ _ (by omega))).trans ((congrFun ew5 k).trans (va_up_ne _ _ (by omega)))⟩

set_option maxHeartbeats 4000000 in
set_option maxRecDepth 100000 in
theorem c_T_init (l : Launch) (G : va_G) (cI cB cZ cO : ClassId) (ad : Nat → Nat) (w : Nat → va_E) (b : Nat) (a : Nat) (ha : ad b = a) (pf : w b = .inr (5, [.null, .null, .int 0, .int 0, .int 0, .int 0, .int 0])) : MA l G (tyq cI cB cZ cO) yX7_init cX7_init 1 1 24 2 153 (b + 1) (b + 3) ad w [.ref a] (fun ad1 w1 => w1 b = .inr (5, [.ref (ad1 (b + 1)), .ref (ad1 (b + 2)), .int 0, .int 0, .int 0, .int 0, .int 0]) ∧ w1 (b + 1) = .inl (cB, 150, .inl (fun _ => 0)) ∧ w1 (b + 2) = .inl (cI, 3, .inl (fun _ => 0)) ∧ ∀ k, k < b → w1 k = w k) := by
  refine mk_a (own := "NoonShade$Text") rfl (by decide) (Nat.le_of_ble_eq_true rfl) ?_
  intro p e s m below meth c ls X hD hN hr hlk hnm h hl
  have hx := X.1.1
  have hb := X.1.2.1
  have hown := X.1.2.2.2.1
  have hts := X.1.2.2.2.2
  have hin : meth.name = "<init>" := hnm
  have hl : lv_has ls 1 [(0, .ref a)] := hl
  refine lv_aload_n hx hb dX7_init_0 rfl (lv_at hl 0 rfl) ?_
  refine W.objInit hx hb hown (hts _ kw_302) (hts _ kw_296) (hts _ kw_297) rfl (by rw [X.1.2.2.1]; exact hl.1) rfl dX7_init_1 (Nat.le_of_ble_eq_true rfl) (Nat.le_of_ble_eq_true rfl) ?_
  refine W.eq (g2 := F0 m 4 ls []) rfl ?_
  refine lv_aload_n hx hb dX7_init_4 rfl (lv_at hl 0 rfl) ?_
  refine lv_sipush (v := 150) hx hb dX7_init_5 (by decide) ?_
  refine r_newa (atype := .byte) (N := 150) (n1 := b + 2) (c1 := 1) (s1 := 150) X hD h 1 kw_303 rfl rfl (fun _ h9 => h9) (fun _ => ab) (by decide) (by decide) (by decide) rfl rfl rfl (Nat.le_of_ble_eq_true rfl) (Nat.le_of_ble_eq_true rfl) dX7_init_8 (fun q1 ad2 w4 H ea3 ew5 hD h => ?_)
  have a6 : ad2 (b + 1) = q1 := (congrFun ea3 _).trans (va_up_self _ _ _)
  have f7 : w4 (b + 1) = .inl (cB, 150, .inl (fun _ => 0)) := (congrFun ew5 _).trans (va_up_self _ _ _)
  have a8 : ad2 b = a := (congrFun ea3 _).trans ((va_up_ne _ _ (by omega)).trans ha)
  have f9 : w4 b = .inr (5, [.null, .null, .int 0, .int 0, .int 0, .int 0, .int 0]) := ((congrFun ew5 _).trans ((va_up_ne _ _ (by omega)).trans pf))
  refine r_putF kc7 X hD h hin b 0 (by omega) a8 f9 (by decide) kw_69 rfl rfl rfl rfl (Nat.le_of_ble_eq_true rfl) dX7_init_10 (fun H locs w10 e11 h => ?_)
  have f12 : w10 b = .inr (5, [.ref q1, .null, .int 0, .int 0, .int 0, .int 0, .int 0]) := (congrFun e11 _).trans (va_up_self _ _ _)
  refine lv_aload_n hx hb dX7_init_13 rfl (lv_at hl 0 rfl) ?_
  refine lv_iconst (v := 3) hx hb dX7_init_14 (by decide) ?_
  refine r_newa (atype := .int) (N := 3) (n1 := b + 3) (c1 := 2) (s1 := 153) X hD h 0 kw_298 rfl rfl (fun _ h9 => h9) (fun _ => ai) (by decide) (by decide) (by decide) rfl rfl rfl (Nat.le_of_ble_eq_true rfl) (Nat.le_of_ble_eq_true rfl) dX7_init_15 (fun q13 ad14 w16 H ea15 ew17 hD h => ?_)
  have a18 : ad14 (b + 2) = q13 := (congrFun ea15 _).trans (va_up_self _ _ _)
  have f19 : w16 (b + 2) = .inl (cI, 3, .inl (fun _ => 0)) := (congrFun ew17 _).trans (va_up_self _ _ _)
  have a20 : ad14 b = a := (congrFun ea15 _).trans ((va_up_ne _ _ (by omega)).trans a8)
  have f21 : w16 b = .inr (5, [.ref q1, .null, .int 0, .int 0, .int 0, .int 0, .int 0]) := ((congrFun ew17 _).trans ((va_up_ne _ _ (by omega)).trans f12))
  refine r_putF kc7 X hD h hin b 1 (by omega) a20 f21 (by decide) kw_304 rfl rfl rfl rfl (Nat.le_of_ble_eq_true rfl) dX7_init_17 (fun H locs w22 e23 h => ?_)
  have f24 : w22 b = .inr (5, [.ref q1, .ref q13, .int 0, .int 0, .int 0, .int 0, .int 0]) := (congrFun e23 _).trans (va_up_self _ _ _)
  have a25 : ad14 (b + 1) = q1 := (congrFun ea15 _).trans ((va_up_ne _ _ (by omega)).trans a6)
  have z26 : w22 b = .inr (5, [.ref (ad14 (b + 1)), .ref (ad14 (b + 2)), .int 0, .int 0, .int 0, .int 0, .int 0]) := by rw [a25, a18]; exact f24
  have f27 : w22 (b + 1) = .inl (cB, 150, .inl (fun _ => 0)) := ((congrFun e23 _).trans ((va_up_ne _ _ (by omega)).trans ((congrFun ew17 _).trans ((va_up_ne _ _ (by omega)).trans ((congrFun e11 _).trans ((va_up_ne _ _ (by omega)).trans f7))))))
  have f28 : w22 (b + 2) = .inl (cI, 3, .inl (fun _ => 0)) := ((congrFun e23 _).trans ((va_up_ne _ _ (by omega)).trans f19))
  refine e_a (n := b + 1) (ad := ad) (post := (fun ad1 w1 => w1 b = .inr (5, [.ref (ad1 (b + 1)), .ref (ad1 (b + 2)), .int 0, .int 0, .int 0, .int 0, .int 0]) ∧ w1 (b + 1) = .inl (cB, 150, .inl (fun _ => 0)) ∧ w1 (b + 2) = .inl (cI, 3, .inl (fun _ => 0)) ∧ ∀ k, k < b → w1 k = w k)) X hD h hr hlk dX7_init_20 ?_ ?_
  · exact (fun k hk => ((congrFun ea15 k).trans (va_up_ne _ _ (by omega))).trans ((congrFun ea3 k).trans (va_up_ne _ _ (by omega))))
  · exact ⟨z26, f27, f28, fun k hk => ((congrFun e23 k).trans (va_up_ne _ _ (by omega))).trans (((congrFun ew17 k).trans (va_up_ne _ _ (by omega))).trans (((congrFun e11 k).trans (va_up_ne _ _ (by omega))).trans ((congrFun ew5 k).trans (va_up_ne _ _ (by omega)))))⟩

set_option maxHeartbeats 4000000 in
set_option maxRecDepth 100000 in
theorem c_L_init (l : Launch) (G : va_G) (cI cB cZ cO : ClassId) (ad : Nat → Nat) (w : Nat → va_E) (b : Nat) (a : Nat) (ha : ad b = a) (pf : w b = .inr (3, [.null, .null, .null, .int 0, .int 0, .int 0])) : MA l G (tyq cI cB cZ cO) yX5_init cX5_init 1 1 24 3 276 (b + 1) (b + 4) ad w [.ref a] (fun ad1 w1 => w1 b = .inr (3, [.ref (ad1 (b + 1)), .ref (ad1 (b + 2)), .ref (ad1 (b + 3)), .int 0, .int 0, .int 0]) ∧ w1 (b + 1) = .inl (cI, 28, .inl (fun _ => 0)) ∧ w1 (b + 2) = .inl (cI, 244, .inl (fun _ => 0)) ∧ w1 (b + 3) = .inl (cI, 4, .inl (fun _ => 0)) ∧ ∀ k, k < b → w1 k = w k) := by
  refine mk_a (own := "NoonShade$Plan") rfl (by decide) (Nat.le_of_ble_eq_true rfl) ?_
  intro p e s m below meth c ls X hD hN hr hlk hnm h hl
  have hx := X.1.1
  have hb := X.1.2.1
  have hown := X.1.2.2.2.1
  have hts := X.1.2.2.2.2
  have hin : meth.name = "<init>" := hnm
  have hl : lv_has ls 1 [(0, .ref a)] := hl
  refine lv_aload_n hx hb dX5_init_0 rfl (lv_at hl 0 rfl) ?_
  refine W.objInit hx hb hown (hts _ kw_305) (hts _ kw_296) (hts _ kw_297) rfl (by rw [X.1.2.2.1]; exact hl.1) rfl dX5_init_1 (Nat.le_of_ble_eq_true rfl) (Nat.le_of_ble_eq_true rfl) ?_
  refine W.eq (g2 := F0 m 4 ls []) rfl ?_
  refine lv_aload_n hx hb dX5_init_4 rfl (lv_at hl 0 rfl) ?_
  refine lv_bipush (v := 28) hx hb dX5_init_5 (by decide) ?_
  refine r_newa (atype := .int) (N := 28) (n1 := b + 2) (c1 := 1) (s1 := 28) X hD h 0 kw_298 rfl rfl (fun _ h9 => h9) (fun _ => ai) (by decide) (by decide) (by decide) rfl rfl rfl (Nat.le_of_ble_eq_true rfl) (Nat.le_of_ble_eq_true rfl) dX5_init_7 (fun q1 ad2 w4 H ea3 ew5 hD h => ?_)
  have a6 : ad2 (b + 1) = q1 := (congrFun ea3 _).trans (va_up_self _ _ _)
  have f7 : w4 (b + 1) = .inl (cI, 28, .inl (fun _ => 0)) := (congrFun ew5 _).trans (va_up_self _ _ _)
  have a8 : ad2 b = a := (congrFun ea3 _).trans ((va_up_ne _ _ (by omega)).trans ha)
  have f9 : w4 b = .inr (3, [.null, .null, .null, .int 0, .int 0, .int 0]) := ((congrFun ew5 _).trans ((va_up_ne _ _ (by omega)).trans pf))
  refine r_putF kc5 X hD h hin b 0 (by omega) a8 f9 (by decide) kw_306 rfl rfl rfl rfl (Nat.le_of_ble_eq_true rfl) dX5_init_9 (fun H locs w10 e11 h => ?_)
  have f12 : w10 b = .inr (3, [.ref q1, .null, .null, .int 0, .int 0, .int 0]) := (congrFun e11 _).trans (va_up_self _ _ _)
  refine lv_aload_n hx hb dX5_init_12 rfl (lv_at hl 0 rfl) ?_
  refine lv_sipush (v := 244) hx hb dX5_init_13 (by decide) ?_
  refine r_newa (atype := .int) (N := 244) (n1 := b + 3) (c1 := 2) (s1 := 272) X hD h 0 kw_298 rfl rfl (fun _ h9 => h9) (fun _ => ai) (by decide) (by decide) (by decide) rfl rfl rfl (Nat.le_of_ble_eq_true rfl) (Nat.le_of_ble_eq_true rfl) dX5_init_16 (fun q13 ad14 w16 H ea15 ew17 hD h => ?_)
  have a18 : ad14 (b + 2) = q13 := (congrFun ea15 _).trans (va_up_self _ _ _)
  have f19 : w16 (b + 2) = .inl (cI, 244, .inl (fun _ => 0)) := (congrFun ew17 _).trans (va_up_self _ _ _)
  have a20 : ad14 b = a := (congrFun ea15 _).trans ((va_up_ne _ _ (by omega)).trans a8)
  have f21 : w16 b = .inr (3, [.ref q1, .null, .null, .int 0, .int 0, .int 0]) := ((congrFun ew17 _).trans ((va_up_ne _ _ (by omega)).trans f12))
  refine r_putF kc5 X hD h hin b 1 (by omega) a20 f21 (by decide) kw_307 rfl rfl rfl rfl (Nat.le_of_ble_eq_true rfl) dX5_init_18 (fun H locs w22 e23 h => ?_)
  have f24 : w22 b = .inr (3, [.ref q1, .ref q13, .null, .int 0, .int 0, .int 0]) := (congrFun e23 _).trans (va_up_self _ _ _)
  refine lv_aload_n hx hb dX5_init_21 rfl (lv_at hl 0 rfl) ?_
  refine lv_iconst (v := 4) hx hb dX5_init_22 (by decide) ?_
  refine r_newa (atype := .int) (N := 4) (n1 := b + 4) (c1 := 3) (s1 := 276) X hD h 0 kw_298 rfl rfl (fun _ h9 => h9) (fun _ => ai) (by decide) (by decide) (by decide) rfl rfl rfl (Nat.le_of_ble_eq_true rfl) (Nat.le_of_ble_eq_true rfl) dX5_init_23 (fun q25 ad26 w28 H ea27 ew29 hD h => ?_)
  have a30 : ad26 (b + 3) = q25 := (congrFun ea27 _).trans (va_up_self _ _ _)
  have f31 : w28 (b + 3) = .inl (cI, 4, .inl (fun _ => 0)) := (congrFun ew29 _).trans (va_up_self _ _ _)
  have a32 : ad26 b = a := (congrFun ea27 _).trans ((va_up_ne _ _ (by omega)).trans a20)
  have f33 : w28 b = .inr (3, [.ref q1, .ref q13, .null, .int 0, .int 0, .int 0]) := ((congrFun ew29 _).trans ((va_up_ne _ _ (by omega)).trans f24))
  refine r_putF kc5 X hD h hin b 2 (by omega) a32 f33 (by decide) kw_308 rfl rfl rfl rfl (Nat.le_of_ble_eq_true rfl) dX5_init_25 (fun H locs w34 e35 h => ?_)
  have f36 : w34 b = .inr (3, [.ref q1, .ref q13, .ref q25, .int 0, .int 0, .int 0]) := (congrFun e35 _).trans (va_up_self _ _ _)
  have a37 : ad14 (b + 1) = q1 := (congrFun ea15 _).trans ((va_up_ne _ _ (by omega)).trans a6)
  have a38 : ad26 (b + 1) = q1 := (congrFun ea27 _).trans ((va_up_ne _ _ (by omega)).trans a37)
  have a39 : ad26 (b + 2) = q13 := (congrFun ea27 _).trans ((va_up_ne _ _ (by omega)).trans a18)
  have z40 : w34 b = .inr (3, [.ref (ad26 (b + 1)), .ref (ad26 (b + 2)), .ref (ad26 (b + 3)), .int 0, .int 0, .int 0]) := by rw [a38, a39, a30]; exact f36
  have f41 : w34 (b + 1) = .inl (cI, 28, .inl (fun _ => 0)) := ((congrFun e35 _).trans ((va_up_ne _ _ (by omega)).trans ((congrFun ew29 _).trans ((va_up_ne _ _ (by omega)).trans ((congrFun e23 _).trans ((va_up_ne _ _ (by omega)).trans ((congrFun ew17 _).trans ((va_up_ne _ _ (by omega)).trans ((congrFun e11 _).trans ((va_up_ne _ _ (by omega)).trans f7))))))))))
  have f42 : w34 (b + 2) = .inl (cI, 244, .inl (fun _ => 0)) := ((congrFun e35 _).trans ((va_up_ne _ _ (by omega)).trans ((congrFun ew29 _).trans ((va_up_ne _ _ (by omega)).trans ((congrFun e23 _).trans ((va_up_ne _ _ (by omega)).trans f19))))))
  have f43 : w34 (b + 3) = .inl (cI, 4, .inl (fun _ => 0)) := ((congrFun e35 _).trans ((va_up_ne _ _ (by omega)).trans f31))
  refine e_a (n := b + 1) (ad := ad) (post := (fun ad1 w1 => w1 b = .inr (3, [.ref (ad1 (b + 1)), .ref (ad1 (b + 2)), .ref (ad1 (b + 3)), .int 0, .int 0, .int 0]) ∧ w1 (b + 1) = .inl (cI, 28, .inl (fun _ => 0)) ∧ w1 (b + 2) = .inl (cI, 244, .inl (fun _ => 0)) ∧ w1 (b + 3) = .inl (cI, 4, .inl (fun _ => 0)) ∧ ∀ k, k < b → w1 k = w k)) X hD h hr hlk dX5_init_28 ?_ ?_
  · exact (fun k hk => ((congrFun ea27 k).trans (va_up_ne _ _ (by omega))).trans (((congrFun ea15 k).trans (va_up_ne _ _ (by omega))).trans ((congrFun ea3 k).trans (va_up_ne _ _ (by omega)))))
  · exact ⟨z40, f41, f42, f43, fun k hk => ((congrFun e35 k).trans (va_up_ne _ _ (by omega))).trans (((congrFun ew29 k).trans (va_up_ne _ _ (by omega))).trans (((congrFun e23 k).trans (va_up_ne _ _ (by omega))).trans (((congrFun ew17 k).trans (va_up_ne _ _ (by omega))).trans (((congrFun e11 k).trans (va_up_ne _ _ (by omega))).trans ((congrFun ew5 k).trans (va_up_ne _ _ (by omega)))))))⟩

set_option maxHeartbeats 4000000 in
set_option maxRecDepth 100000 in
theorem c_I_init (l : Launch) (G : va_G) (cI cB cZ cO : ClassId) (ad : Nat → Nat) (w : Nat → va_E) (b : Nat) (a : Nat) (ha : ad b = a) (pf : w b = .inr (1, [.int 0, .int 0, .int 0, .int 0, .int 0, .null, .null, .null, .null, .null, .null, .null, .null, .null])) : MA l G (tyq cI cB cZ cO) yX2_init cX2_init 1 2 44 12 175 (b + 1) (b + 13) ad w [.ref a] (fun ad1 w1 => w1 b = .inr (1, [.int 0, .int 0, .int 0, .int 0, .int 0, .ref (ad1 (b + 1)), .ref (ad1 (b + 2)), .ref (ad1 (b + 3)), .ref (ad1 (b + 4)), .ref (ad1 (b + 5)), .ref (ad1 (b + 6)), .ref (ad1 (b + 7)), .ref (ad1 (b + 9)), .ref (ad1 (b + 11))]) ∧ w1 (b + 1) = .inl (cI, 7, .inl (fun _ => 0)) ∧ w1 (b + 2) = .inl (cI, 7, .inl (fun _ => 0)) ∧ w1 (b + 3) = .inl (cI, 7, .inl (fun _ => 0)) ∧ w1 (b + 4) = .inl (cI, 4, .inl (fun _ => 0)) ∧ w1 (b + 5) = .inl (cI, 4, .inl (fun _ => 0)) ∧ w1 (b + 6) = .inl (cI, 4, .inl (fun _ => 0)) ∧ w1 (b + 7) = .inr (4, [.ref (ad1 (b + 8)), .int 0]) ∧ w1 (b + 8) = .inl (cI, 24, .inl (fun _ => 0)) ∧ w1 (b + 9) = .inr (4, [.ref (ad1 (b + 10)), .int 0]) ∧ w1 (b + 10) = .inl (cI, 24, .inl (fun _ => 0)) ∧ w1 (b + 11) = .inr (2, [.ref (ad1 (b + 12)), .int 0]) ∧ w1 (b + 12) = .inl (cI, 88, .inl (fun _ => 0)) ∧ ∀ k, k < b → w1 k = w k) := by
  refine mk_a (own := "NoonShade$Isle") rfl (by decide) (Nat.le_of_ble_eq_true rfl) ?_
  intro p e s m below meth c ls X hD hN hr hlk hnm h hl
  have hx := X.1.1
  have hb := X.1.2.1
  have hown := X.1.2.2.2.1
  have hts := X.1.2.2.2.2
  have hin : meth.name = "<init>" := hnm
  have hl : lv_has ls 1 [(0, .ref a)] := hl
  refine lv_aload_n hx hb dX2_init_0 rfl (lv_at hl 0 rfl) ?_
  refine W.objInit hx hb hown (hts _ kw_309) (hts _ kw_296) (hts _ kw_297) rfl (by rw [X.1.2.2.1]; exact hl.1) rfl dX2_init_1 (Nat.le_of_ble_eq_true rfl) (Nat.le_of_ble_eq_true rfl) ?_
  refine W.eq (g2 := F0 m 4 ls []) rfl ?_
  refine lv_aload_n hx hb dX2_init_4 rfl (lv_at hl 0 rfl) ?_
  refine lv_bipush (v := 7) hx hb dX2_init_5 (by decide) ?_
  refine r_newa (atype := .int) (N := 7) (n1 := b + 2) (c1 := 1) (s1 := 7) X hD h 0 kw_298 rfl rfl (fun _ h9 => h9) (fun _ => ai) (by decide) (by decide) (by decide) rfl rfl rfl (Nat.le_of_ble_eq_true rfl) (Nat.le_of_ble_eq_true rfl) dX2_init_7 (fun q1 ad2 w4 H ea3 ew5 hD h => ?_)
  have a6 : ad2 (b + 1) = q1 := (congrFun ea3 _).trans (va_up_self _ _ _)
  have f7 : w4 (b + 1) = .inl (cI, 7, .inl (fun _ => 0)) := (congrFun ew5 _).trans (va_up_self _ _ _)
  have a8 : ad2 b = a := (congrFun ea3 _).trans ((va_up_ne _ _ (by omega)).trans ha)
  have f9 : w4 b = .inr (1, [.int 0, .int 0, .int 0, .int 0, .int 0, .null, .null, .null, .null, .null, .null, .null, .null, .null]) := ((congrFun ew5 _).trans ((va_up_ne _ _ (by omega)).trans pf))
  refine r_putF kc2 X hD h hin b 5 (by omega) a8 f9 (by decide) kw_46 rfl rfl rfl rfl (Nat.le_of_ble_eq_true rfl) dX2_init_9 (fun H locs w10 e11 h => ?_)
  have f12 : w10 b = .inr (1, [.int 0, .int 0, .int 0, .int 0, .int 0, .ref q1, .null, .null, .null, .null, .null, .null, .null, .null]) := (congrFun e11 _).trans (va_up_self _ _ _)
  refine lv_aload_n hx hb dX2_init_12 rfl (lv_at hl 0 rfl) ?_
  refine lv_bipush (v := 7) hx hb dX2_init_13 (by decide) ?_
  refine r_newa (atype := .int) (N := 7) (n1 := b + 3) (c1 := 2) (s1 := 14) X hD h 0 kw_298 rfl rfl (fun _ h9 => h9) (fun _ => ai) (by decide) (by decide) (by decide) rfl rfl rfl (Nat.le_of_ble_eq_true rfl) (Nat.le_of_ble_eq_true rfl) dX2_init_15 (fun q13 ad14 w16 H ea15 ew17 hD h => ?_)
  have a18 : ad14 (b + 2) = q13 := (congrFun ea15 _).trans (va_up_self _ _ _)
  have f19 : w16 (b + 2) = .inl (cI, 7, .inl (fun _ => 0)) := (congrFun ew17 _).trans (va_up_self _ _ _)
  have a20 : ad14 b = a := (congrFun ea15 _).trans ((va_up_ne _ _ (by omega)).trans a8)
  have f21 : w16 b = .inr (1, [.int 0, .int 0, .int 0, .int 0, .int 0, .ref q1, .null, .null, .null, .null, .null, .null, .null, .null]) := ((congrFun ew17 _).trans ((va_up_ne _ _ (by omega)).trans f12))
  refine r_putF kc2 X hD h hin b 6 (by omega) a20 f21 (by decide) kw_47 rfl rfl rfl rfl (Nat.le_of_ble_eq_true rfl) dX2_init_17 (fun H locs w22 e23 h => ?_)
  have f24 : w22 b = .inr (1, [.int 0, .int 0, .int 0, .int 0, .int 0, .ref q1, .ref q13, .null, .null, .null, .null, .null, .null, .null]) := (congrFun e23 _).trans (va_up_self _ _ _)
  refine lv_aload_n hx hb dX2_init_20 rfl (lv_at hl 0 rfl) ?_
  refine lv_bipush (v := 7) hx hb dX2_init_21 (by decide) ?_
  refine r_newa (atype := .int) (N := 7) (n1 := b + 4) (c1 := 3) (s1 := 21) X hD h 0 kw_298 rfl rfl (fun _ h9 => h9) (fun _ => ai) (by decide) (by decide) (by decide) rfl rfl rfl (Nat.le_of_ble_eq_true rfl) (Nat.le_of_ble_eq_true rfl) dX2_init_23 (fun q25 ad26 w28 H ea27 ew29 hD h => ?_)
  have a30 : ad26 (b + 3) = q25 := (congrFun ea27 _).trans (va_up_self _ _ _)
  have f31 : w28 (b + 3) = .inl (cI, 7, .inl (fun _ => 0)) := (congrFun ew29 _).trans (va_up_self _ _ _)
  have a32 : ad26 b = a := (congrFun ea27 _).trans ((va_up_ne _ _ (by omega)).trans a20)
  have f33 : w28 b = .inr (1, [.int 0, .int 0, .int 0, .int 0, .int 0, .ref q1, .ref q13, .null, .null, .null, .null, .null, .null, .null]) := ((congrFun ew29 _).trans ((va_up_ne _ _ (by omega)).trans f24))
  refine r_putF kc2 X hD h hin b 7 (by omega) a32 f33 (by decide) kw_48 rfl rfl rfl rfl (Nat.le_of_ble_eq_true rfl) dX2_init_25 (fun H locs w34 e35 h => ?_)
  have f36 : w34 b = .inr (1, [.int 0, .int 0, .int 0, .int 0, .int 0, .ref q1, .ref q13, .ref q25, .null, .null, .null, .null, .null, .null]) := (congrFun e35 _).trans (va_up_self _ _ _)
  refine lv_aload_n hx hb dX2_init_28 rfl (lv_at hl 0 rfl) ?_
  refine lv_iconst (v := 4) hx hb dX2_init_29 (by decide) ?_
  refine r_newa (atype := .int) (N := 4) (n1 := b + 5) (c1 := 4) (s1 := 25) X hD h 0 kw_298 rfl rfl (fun _ h9 => h9) (fun _ => ai) (by decide) (by decide) (by decide) rfl rfl rfl (Nat.le_of_ble_eq_true rfl) (Nat.le_of_ble_eq_true rfl) dX2_init_30 (fun q37 ad38 w40 H ea39 ew41 hD h => ?_)
  have a42 : ad38 (b + 4) = q37 := (congrFun ea39 _).trans (va_up_self _ _ _)
  have f43 : w40 (b + 4) = .inl (cI, 4, .inl (fun _ => 0)) := (congrFun ew41 _).trans (va_up_self _ _ _)
  have a44 : ad38 b = a := (congrFun ea39 _).trans ((va_up_ne _ _ (by omega)).trans a32)
  have f45 : w40 b = .inr (1, [.int 0, .int 0, .int 0, .int 0, .int 0, .ref q1, .ref q13, .ref q25, .null, .null, .null, .null, .null, .null]) := ((congrFun ew41 _).trans ((va_up_ne _ _ (by omega)).trans f36))
  refine r_putF kc2 X hD h hin b 8 (by omega) a44 f45 (by decide) kw_49 rfl rfl rfl rfl (Nat.le_of_ble_eq_true rfl) dX2_init_32 (fun H locs w46 e47 h => ?_)
  have f48 : w46 b = .inr (1, [.int 0, .int 0, .int 0, .int 0, .int 0, .ref q1, .ref q13, .ref q25, .ref q37, .null, .null, .null, .null, .null]) := (congrFun e47 _).trans (va_up_self _ _ _)
  refine lv_aload_n hx hb dX2_init_35 rfl (lv_at hl 0 rfl) ?_
  refine lv_iconst (v := 4) hx hb dX2_init_36 (by decide) ?_
  refine r_newa (atype := .int) (N := 4) (n1 := b + 6) (c1 := 5) (s1 := 29) X hD h 0 kw_298 rfl rfl (fun _ h9 => h9) (fun _ => ai) (by decide) (by decide) (by decide) rfl rfl rfl (Nat.le_of_ble_eq_true rfl) (Nat.le_of_ble_eq_true rfl) dX2_init_37 (fun q49 ad50 w52 H ea51 ew53 hD h => ?_)
  have a54 : ad50 (b + 5) = q49 := (congrFun ea51 _).trans (va_up_self _ _ _)
  have f55 : w52 (b + 5) = .inl (cI, 4, .inl (fun _ => 0)) := (congrFun ew53 _).trans (va_up_self _ _ _)
  have a56 : ad50 b = a := (congrFun ea51 _).trans ((va_up_ne _ _ (by omega)).trans a44)
  have f57 : w52 b = .inr (1, [.int 0, .int 0, .int 0, .int 0, .int 0, .ref q1, .ref q13, .ref q25, .ref q37, .null, .null, .null, .null, .null]) := ((congrFun ew53 _).trans ((va_up_ne _ _ (by omega)).trans f48))
  refine r_putF kc2 X hD h hin b 9 (by omega) a56 f57 (by decide) kw_50 rfl rfl rfl rfl (Nat.le_of_ble_eq_true rfl) dX2_init_39 (fun H locs w58 e59 h => ?_)
  have f60 : w58 b = .inr (1, [.int 0, .int 0, .int 0, .int 0, .int 0, .ref q1, .ref q13, .ref q25, .ref q37, .ref q49, .null, .null, .null, .null]) := (congrFun e59 _).trans (va_up_self _ _ _)
  refine lv_aload_n hx hb dX2_init_42 rfl (lv_at hl 0 rfl) ?_
  refine lv_iconst (v := 4) hx hb dX2_init_43 (by decide) ?_
  refine r_newa (atype := .int) (N := 4) (n1 := b + 7) (c1 := 6) (s1 := 33) X hD h 0 kw_298 rfl rfl (fun _ h9 => h9) (fun _ => ai) (by decide) (by decide) (by decide) rfl rfl rfl (Nat.le_of_ble_eq_true rfl) (Nat.le_of_ble_eq_true rfl) dX2_init_44 (fun q61 ad62 w64 H ea63 ew65 hD h => ?_)
  have a66 : ad62 (b + 6) = q61 := (congrFun ea63 _).trans (va_up_self _ _ _)
  have f67 : w64 (b + 6) = .inl (cI, 4, .inl (fun _ => 0)) := (congrFun ew65 _).trans (va_up_self _ _ _)
  have a68 : ad62 b = a := (congrFun ea63 _).trans ((va_up_ne _ _ (by omega)).trans a56)
  have f69 : w64 b = .inr (1, [.int 0, .int 0, .int 0, .int 0, .int 0, .ref q1, .ref q13, .ref q25, .ref q37, .ref q49, .null, .null, .null, .null]) := ((congrFun ew65 _).trans ((va_up_ne _ _ (by omega)).trans f60))
  refine r_putF kc2 X hD h hin b 10 (by omega) a68 f69 (by decide) kw_51 rfl rfl rfl rfl (Nat.le_of_ble_eq_true rfl) dX2_init_46 (fun H locs w70 e71 h => ?_)
  have f72 : w70 b = .inr (1, [.int 0, .int 0, .int 0, .int 0, .int 0, .ref q1, .ref q13, .ref q25, .ref q37, .ref q49, .ref q61, .null, .null, .null]) := (congrFun e71 _).trans (va_up_self _ _ _)
  refine lv_aload_n hx hb dX2_init_49 rfl (lv_at hl 0 rfl) ?_
  refine r_new kc6 (fs := [.null, .int 0]) (n1 := b + 8) (c1 := 7) (s1 := 35) X hD h kw_310 kw_311 kw_29 (by decide +kernel) rfl rfl rfl (Nat.le_of_ble_eq_true rfl) (Nat.le_of_ble_eq_true rfl) dX2_init_50 (fun q73 ad74 w76 H ea75 ew77 hD h => ?_)
  have a78 : ad74 (b + 7) = q73 := (congrFun ea75 _).trans (va_up_self _ _ _)
  have f79 : w76 (b + 7) = .inr (4, [.null, .int 0]) := (congrFun ew77 _).trans (va_up_self _ _ _)
  refine lv_dup hx hb dX2_init_53 rfl ?_
  refine q_AN (na := 0) (As := []) (rest := [.ref q73, .ref a]) (host := "NoonShade") X hD hN h (c_R_init l G cI cB cZ cO ad74 w76 (b + 7) q73 a78 f79) (by decide) kw_312 kw_29 kw_313 rfl ⟨by decide, by decide, by decide⟩ ⟨Nat.le_of_ble_eq_true rfl, Nat.le_of_ble_eq_true rfl⟩ ⟨Nat.le_of_ble_eq_true rfl, Nat.le_of_ble_eq_true rfl⟩ rfl hl.1 rfl (Nat.le_of_ble_eq_true rfl) dX2_init_54 (fun ad80 w81 H locs ho82 hp83 hD h => ?_)
  refine W.widen (k := 8) (n := 59) (Nat.le_refl _) (Nat.le_refl _) ?_
  obtain ⟨f84, f85, hf86⟩ := hp83
  have a87 : ad74 b = a := (congrFun ea75 _).trans ((va_up_ne _ _ (by omega)).trans a68)
  have a88 : ad80 b = a := (ho82 _ (by omega)).trans a87
  have f89 : w81 b = .inr (1, [.int 0, .int 0, .int 0, .int 0, .int 0, .ref q1, .ref q13, .ref q25, .ref q37, .ref q49, .ref q61, .null, .null, .null]) := ((hf86 _ (by omega)).trans ((congrFun ew77 _).trans ((va_up_ne _ _ (by omega)).trans f72)))
  refine r_putF kc2 X hD h hin b 11 (by omega) a88 f89 (by decide) kw_25 rfl rfl rfl rfl (Nat.le_of_ble_eq_true rfl) dX2_init_57 (fun H locs w90 e91 h => ?_)
  have f92 : w90 b = .inr (1, [.int 0, .int 0, .int 0, .int 0, .int 0, .ref q1, .ref q13, .ref q25, .ref q37, .ref q49, .ref q61, .ref q73, .null, .null]) := (congrFun e91 _).trans (va_up_self _ _ _)
  refine lv_aload_n hx hb dX2_init_60 rfl (lv_at hl 0 rfl) ?_
  refine r_new kc6 (fs := [.null, .int 0]) (n1 := b + 10) (c1 := 9) (s1 := 61) X hD h kw_310 kw_311 kw_29 (by decide +kernel) rfl rfl rfl (Nat.le_of_ble_eq_true rfl) (Nat.le_of_ble_eq_true rfl) dX2_init_61 (fun q93 ad94 w96 H ea95 ew97 hD h => ?_)
  have a98 : ad94 (b + 9) = q93 := (congrFun ea95 _).trans (va_up_self _ _ _)
  have f99 : w96 (b + 9) = .inr (4, [.null, .int 0]) := (congrFun ew97 _).trans (va_up_self _ _ _)
  refine lv_dup hx hb dX2_init_64 rfl ?_
  refine q_AN (na := 0) (As := []) (rest := [.ref q93, .ref a]) (host := "NoonShade") X hD hN h (c_R_init l G cI cB cZ cO ad94 w96 (b + 9) q93 a98 f99) (by decide) kw_312 kw_29 kw_313 rfl ⟨by decide, by decide, by decide⟩ ⟨Nat.le_of_ble_eq_true rfl, Nat.le_of_ble_eq_true rfl⟩ ⟨Nat.le_of_ble_eq_true rfl, Nat.le_of_ble_eq_true rfl⟩ rfl hl.1 rfl (Nat.le_of_ble_eq_true rfl) dX2_init_65 (fun ad100 w101 H locs ho102 hp103 hD h => ?_)
  refine W.widen (k := 10) (n := 85) (Nat.le_refl _) (Nat.le_refl _) ?_
  obtain ⟨f104, f105, hf106⟩ := hp103
  have a107 : ad94 b = a := (congrFun ea95 _).trans ((va_up_ne _ _ (by omega)).trans a88)
  have a108 : ad100 b = a := (ho102 _ (by omega)).trans a107
  have f109 : w101 b = .inr (1, [.int 0, .int 0, .int 0, .int 0, .int 0, .ref q1, .ref q13, .ref q25, .ref q37, .ref q49, .ref q61, .ref q73, .null, .null]) := ((hf106 _ (by omega)).trans ((congrFun ew97 _).trans ((va_up_ne _ _ (by omega)).trans f92)))
  refine r_putF kc2 X hD h hin b 12 (by omega) a108 f109 (by decide) kw_31 rfl rfl rfl rfl (Nat.le_of_ble_eq_true rfl) dX2_init_68 (fun H locs w110 e111 h => ?_)
  have f112 : w110 b = .inr (1, [.int 0, .int 0, .int 0, .int 0, .int 0, .ref q1, .ref q13, .ref q25, .ref q37, .ref q49, .ref q61, .ref q73, .ref q93, .null]) := (congrFun e111 _).trans (va_up_self _ _ _)
  refine lv_aload_n hx hb dX2_init_71 rfl (lv_at hl 0 rfl) ?_
  refine r_new kc4 (fs := [.null, .int 0]) (n1 := b + 12) (c1 := 11) (s1 := 87) X hD h kw_314 kw_315 kw_36 (by decide +kernel) rfl rfl rfl (Nat.le_of_ble_eq_true rfl) (Nat.le_of_ble_eq_true rfl) dX2_init_72 (fun q113 ad114 w116 H ea115 ew117 hD h => ?_)
  have a118 : ad114 (b + 11) = q113 := (congrFun ea115 _).trans (va_up_self _ _ _)
  have f119 : w116 (b + 11) = .inr (2, [.null, .int 0]) := (congrFun ew117 _).trans (va_up_self _ _ _)
  refine lv_dup hx hb dX2_init_75 rfl ?_
  refine q_AN (na := 0) (As := []) (rest := [.ref q113, .ref a]) (host := "NoonShade") X hD hN h (c_P_init l G cI cB cZ cO ad114 w116 (b + 11) q113 a118 f119) (by decide) kw_316 kw_36 kw_317 rfl ⟨by decide, by decide, by decide⟩ ⟨Nat.le_of_ble_eq_true rfl, Nat.le_of_ble_eq_true rfl⟩ ⟨Nat.le_of_ble_eq_true rfl, Nat.le_of_ble_eq_true rfl⟩ rfl hl.1 rfl (Nat.le_of_ble_eq_true rfl) dX2_init_76 (fun ad120 w121 H locs ho122 hp123 hD h => ?_)
  refine W.widen (k := 12) (n := 175) (Nat.le_refl _) (Nat.le_refl _) ?_
  obtain ⟨f124, f125, hf126⟩ := hp123
  have a127 : ad114 b = a := (congrFun ea115 _).trans ((va_up_ne _ _ (by omega)).trans a108)
  have a128 : ad120 b = a := (ho122 _ (by omega)).trans a127
  have f129 : w121 b = .inr (1, [.int 0, .int 0, .int 0, .int 0, .int 0, .ref q1, .ref q13, .ref q25, .ref q37, .ref q49, .ref q61, .ref q73, .ref q93, .null]) := ((hf126 _ (by omega)).trans ((congrFun ew117 _).trans ((va_up_ne _ _ (by omega)).trans f112)))
  refine r_putF kc2 X hD h hin b 13 (by omega) a128 f129 (by decide) kw_32 rfl rfl rfl rfl (Nat.le_of_ble_eq_true rfl) dX2_init_79 (fun H locs w130 e131 h => ?_)
  have f132 : w130 b = .inr (1, [.int 0, .int 0, .int 0, .int 0, .int 0, .ref q1, .ref q13, .ref q25, .ref q37, .ref q49, .ref q61, .ref q73, .ref q93, .ref q113]) := (congrFun e131 _).trans (va_up_self _ _ _)
  have a133 : ad14 (b + 1) = q1 := (congrFun ea15 _).trans ((va_up_ne _ _ (by omega)).trans a6)
  have a134 : ad26 (b + 1) = q1 := (congrFun ea27 _).trans ((va_up_ne _ _ (by omega)).trans a133)
  have a135 : ad38 (b + 1) = q1 := (congrFun ea39 _).trans ((va_up_ne _ _ (by omega)).trans a134)
  have a136 : ad50 (b + 1) = q1 := (congrFun ea51 _).trans ((va_up_ne _ _ (by omega)).trans a135)
  have a137 : ad62 (b + 1) = q1 := (congrFun ea63 _).trans ((va_up_ne _ _ (by omega)).trans a136)
  have a138 : ad74 (b + 1) = q1 := (congrFun ea75 _).trans ((va_up_ne _ _ (by omega)).trans a137)
  have a139 : ad80 (b + 1) = q1 := (ho82 _ (by omega)).trans a138
  have a140 : ad94 (b + 1) = q1 := (congrFun ea95 _).trans ((va_up_ne _ _ (by omega)).trans a139)
  have a141 : ad100 (b + 1) = q1 := (ho102 _ (by omega)).trans a140
  have a142 : ad114 (b + 1) = q1 := (congrFun ea115 _).trans ((va_up_ne _ _ (by omega)).trans a141)
  have a143 : ad120 (b + 1) = q1 := (ho122 _ (by omega)).trans a142
  have a144 : ad26 (b + 2) = q13 := (congrFun ea27 _).trans ((va_up_ne _ _ (by omega)).trans a18)
  have a145 : ad38 (b + 2) = q13 := (congrFun ea39 _).trans ((va_up_ne _ _ (by omega)).trans a144)
  have a146 : ad50 (b + 2) = q13 := (congrFun ea51 _).trans ((va_up_ne _ _ (by omega)).trans a145)
  have a147 : ad62 (b + 2) = q13 := (congrFun ea63 _).trans ((va_up_ne _ _ (by omega)).trans a146)
  have a148 : ad74 (b + 2) = q13 := (congrFun ea75 _).trans ((va_up_ne _ _ (by omega)).trans a147)
  have a149 : ad80 (b + 2) = q13 := (ho82 _ (by omega)).trans a148
  have a150 : ad94 (b + 2) = q13 := (congrFun ea95 _).trans ((va_up_ne _ _ (by omega)).trans a149)
  have a151 : ad100 (b + 2) = q13 := (ho102 _ (by omega)).trans a150
  have a152 : ad114 (b + 2) = q13 := (congrFun ea115 _).trans ((va_up_ne _ _ (by omega)).trans a151)
  have a153 : ad120 (b + 2) = q13 := (ho122 _ (by omega)).trans a152
  have a154 : ad38 (b + 3) = q25 := (congrFun ea39 _).trans ((va_up_ne _ _ (by omega)).trans a30)
  have a155 : ad50 (b + 3) = q25 := (congrFun ea51 _).trans ((va_up_ne _ _ (by omega)).trans a154)
  have a156 : ad62 (b + 3) = q25 := (congrFun ea63 _).trans ((va_up_ne _ _ (by omega)).trans a155)
  have a157 : ad74 (b + 3) = q25 := (congrFun ea75 _).trans ((va_up_ne _ _ (by omega)).trans a156)
  have a158 : ad80 (b + 3) = q25 := (ho82 _ (by omega)).trans a157
  have a159 : ad94 (b + 3) = q25 := (congrFun ea95 _).trans ((va_up_ne _ _ (by omega)).trans a158)
  have a160 : ad100 (b + 3) = q25 := (ho102 _ (by omega)).trans a159
  have a161 : ad114 (b + 3) = q25 := (congrFun ea115 _).trans ((va_up_ne _ _ (by omega)).trans a160)
  have a162 : ad120 (b + 3) = q25 := (ho122 _ (by omega)).trans a161
  have a163 : ad50 (b + 4) = q37 := (congrFun ea51 _).trans ((va_up_ne _ _ (by omega)).trans a42)
  have a164 : ad62 (b + 4) = q37 := (congrFun ea63 _).trans ((va_up_ne _ _ (by omega)).trans a163)
  have a165 : ad74 (b + 4) = q37 := (congrFun ea75 _).trans ((va_up_ne _ _ (by omega)).trans a164)
  have a166 : ad80 (b + 4) = q37 := (ho82 _ (by omega)).trans a165
  have a167 : ad94 (b + 4) = q37 := (congrFun ea95 _).trans ((va_up_ne _ _ (by omega)).trans a166)
  have a168 : ad100 (b + 4) = q37 := (ho102 _ (by omega)).trans a167
  have a169 : ad114 (b + 4) = q37 := (congrFun ea115 _).trans ((va_up_ne _ _ (by omega)).trans a168)
  have a170 : ad120 (b + 4) = q37 := (ho122 _ (by omega)).trans a169
  have a171 : ad62 (b + 5) = q49 := (congrFun ea63 _).trans ((va_up_ne _ _ (by omega)).trans a54)
  have a172 : ad74 (b + 5) = q49 := (congrFun ea75 _).trans ((va_up_ne _ _ (by omega)).trans a171)
  have a173 : ad80 (b + 5) = q49 := (ho82 _ (by omega)).trans a172
  have a174 : ad94 (b + 5) = q49 := (congrFun ea95 _).trans ((va_up_ne _ _ (by omega)).trans a173)
  have a175 : ad100 (b + 5) = q49 := (ho102 _ (by omega)).trans a174
  have a176 : ad114 (b + 5) = q49 := (congrFun ea115 _).trans ((va_up_ne _ _ (by omega)).trans a175)
  have a177 : ad120 (b + 5) = q49 := (ho122 _ (by omega)).trans a176
  have a178 : ad74 (b + 6) = q61 := (congrFun ea75 _).trans ((va_up_ne _ _ (by omega)).trans a66)
  have a179 : ad80 (b + 6) = q61 := (ho82 _ (by omega)).trans a178
  have a180 : ad94 (b + 6) = q61 := (congrFun ea95 _).trans ((va_up_ne _ _ (by omega)).trans a179)
  have a181 : ad100 (b + 6) = q61 := (ho102 _ (by omega)).trans a180
  have a182 : ad114 (b + 6) = q61 := (congrFun ea115 _).trans ((va_up_ne _ _ (by omega)).trans a181)
  have a183 : ad120 (b + 6) = q61 := (ho122 _ (by omega)).trans a182
  have a184 : ad80 (b + 7) = q73 := (ho82 _ (by omega)).trans a78
  have a185 : ad94 (b + 7) = q73 := (congrFun ea95 _).trans ((va_up_ne _ _ (by omega)).trans a184)
  have a186 : ad100 (b + 7) = q73 := (ho102 _ (by omega)).trans a185
  have a187 : ad114 (b + 7) = q73 := (congrFun ea115 _).trans ((va_up_ne _ _ (by omega)).trans a186)
  have a188 : ad120 (b + 7) = q73 := (ho122 _ (by omega)).trans a187
  have a189 : ad100 (b + 9) = q93 := (ho102 _ (by omega)).trans a98
  have a190 : ad114 (b + 9) = q93 := (congrFun ea115 _).trans ((va_up_ne _ _ (by omega)).trans a189)
  have a191 : ad120 (b + 9) = q93 := (ho122 _ (by omega)).trans a190
  have a192 : ad120 (b + 11) = q113 := (ho122 _ (by omega)).trans a118
  have z193 : w130 b = .inr (1, [.int 0, .int 0, .int 0, .int 0, .int 0, .ref (ad120 (b + 1)), .ref (ad120 (b + 2)), .ref (ad120 (b + 3)), .ref (ad120 (b + 4)), .ref (ad120 (b + 5)), .ref (ad120 (b + 6)), .ref (ad120 (b + 7)), .ref (ad120 (b + 9)), .ref (ad120 (b + 11))]) := by rw [a143, a153, a162, a170, a177, a183, a188, a191, a192]; exact f132
  have f194 : w130 (b + 1) = .inl (cI, 7, .inl (fun _ => 0)) := ((congrFun e131 _).trans ((va_up_ne _ _ (by omega)).trans ((hf126 _ (by omega)).trans ((congrFun ew117 _).trans ((va_up_ne _ _ (by omega)).trans ((congrFun e111 _).trans ((va_up_ne _ _ (by omega)).trans ((hf106 _ (by omega)).trans ((congrFun ew97 _).trans ((va_up_ne _ _ (by omega)).trans ((congrFun e91 _).trans ((va_up_ne _ _ (by omega)).trans ((hf86 _ (by omega)).trans ((congrFun ew77 _).trans ((va_up_ne _ _ (by omega)).trans ((congrFun e71 _).trans ((va_up_ne _ _ (by omega)).trans ((congrFun ew65 _).trans ((va_up_ne _ _ (by omega)).trans ((congrFun e59 _).trans ((va_up_ne _ _ (by omega)).trans ((congrFun ew53 _).trans ((va_up_ne _ _ (by omega)).trans ((congrFun e47 _).trans ((va_up_ne _ _ (by omega)).trans ((congrFun ew41 _).trans ((va_up_ne _ _ (by omega)).trans ((congrFun e35 _).trans ((va_up_ne _ _ (by omega)).trans ((congrFun ew29 _).trans ((va_up_ne _ _ (by omega)).trans ((congrFun e23 _).trans ((va_up_ne _ _ (by omega)).trans ((congrFun ew17 _).trans ((va_up_ne _ _ (by omega)).trans ((congrFun e11 _).trans ((va_up_ne _ _ (by omega)).trans f7)))))))))))))))))))))))))))))))))))))
  have f195 : w130 (b + 2) = .inl (cI, 7, .inl (fun _ => 0)) := ((congrFun e131 _).trans ((va_up_ne _ _ (by omega)).trans ((hf126 _ (by omega)).trans ((congrFun ew117 _).trans ((va_up_ne _ _ (by omega)).trans ((congrFun e111 _).trans ((va_up_ne _ _ (by omega)).trans ((hf106 _ (by omega)).trans ((congrFun ew97 _).trans ((va_up_ne _ _ (by omega)).trans ((congrFun e91 _).trans ((va_up_ne _ _ (by omega)).trans ((hf86 _ (by omega)).trans ((congrFun ew77 _).trans ((va_up_ne _ _ (by omega)).trans ((congrFun e71 _).trans ((va_up_ne _ _ (by omega)).trans ((congrFun ew65 _).trans ((va_up_ne _ _ (by omega)).trans ((congrFun e59 _).trans ((va_up_ne _ _ (by omega)).trans ((congrFun ew53 _).trans ((va_up_ne _ _ (by omega)).trans ((congrFun e47 _).trans ((va_up_ne _ _ (by omega)).trans ((congrFun ew41 _).trans ((va_up_ne _ _ (by omega)).trans ((congrFun e35 _).trans ((va_up_ne _ _ (by omega)).trans ((congrFun ew29 _).trans ((va_up_ne _ _ (by omega)).trans ((congrFun e23 _).trans ((va_up_ne _ _ (by omega)).trans f19)))))))))))))))))))))))))))))))))
  have f196 : w130 (b + 3) = .inl (cI, 7, .inl (fun _ => 0)) := ((congrFun e131 _).trans ((va_up_ne _ _ (by omega)).trans ((hf126 _ (by omega)).trans ((congrFun ew117 _).trans ((va_up_ne _ _ (by omega)).trans ((congrFun e111 _).trans ((va_up_ne _ _ (by omega)).trans ((hf106 _ (by omega)).trans ((congrFun ew97 _).trans ((va_up_ne _ _ (by omega)).trans ((congrFun e91 _).trans ((va_up_ne _ _ (by omega)).trans ((hf86 _ (by omega)).trans ((congrFun ew77 _).trans ((va_up_ne _ _ (by omega)).trans ((congrFun e71 _).trans ((va_up_ne _ _ (by omega)).trans ((congrFun ew65 _).trans ((va_up_ne _ _ (by omega)).trans ((congrFun e59 _).trans ((va_up_ne _ _ (by omega)).trans ((congrFun ew53 _).trans ((va_up_ne _ _ (by omega)).trans ((congrFun e47 _).trans ((va_up_ne _ _ (by omega)).trans ((congrFun ew41 _).trans ((va_up_ne _ _ (by omega)).trans ((congrFun e35 _).trans ((va_up_ne _ _ (by omega)).trans f31)))))))))))))))))))))))))))))
  have f197 : w130 (b + 4) = .inl (cI, 4, .inl (fun _ => 0)) := ((congrFun e131 _).trans ((va_up_ne _ _ (by omega)).trans ((hf126 _ (by omega)).trans ((congrFun ew117 _).trans ((va_up_ne _ _ (by omega)).trans ((congrFun e111 _).trans ((va_up_ne _ _ (by omega)).trans ((hf106 _ (by omega)).trans ((congrFun ew97 _).trans ((va_up_ne _ _ (by omega)).trans ((congrFun e91 _).trans ((va_up_ne _ _ (by omega)).trans ((hf86 _ (by omega)).trans ((congrFun ew77 _).trans ((va_up_ne _ _ (by omega)).trans ((congrFun e71 _).trans ((va_up_ne _ _ (by omega)).trans ((congrFun ew65 _).trans ((va_up_ne _ _ (by omega)).trans ((congrFun e59 _).trans ((va_up_ne _ _ (by omega)).trans ((congrFun ew53 _).trans ((va_up_ne _ _ (by omega)).trans ((congrFun e47 _).trans ((va_up_ne _ _ (by omega)).trans f43)))))))))))))))))))))))))
  have f198 : w130 (b + 5) = .inl (cI, 4, .inl (fun _ => 0)) := ((congrFun e131 _).trans ((va_up_ne _ _ (by omega)).trans ((hf126 _ (by omega)).trans ((congrFun ew117 _).trans ((va_up_ne _ _ (by omega)).trans ((congrFun e111 _).trans ((va_up_ne _ _ (by omega)).trans ((hf106 _ (by omega)).trans ((congrFun ew97 _).trans ((va_up_ne _ _ (by omega)).trans ((congrFun e91 _).trans ((va_up_ne _ _ (by omega)).trans ((hf86 _ (by omega)).trans ((congrFun ew77 _).trans ((va_up_ne _ _ (by omega)).trans ((congrFun e71 _).trans ((va_up_ne _ _ (by omega)).trans ((congrFun ew65 _).trans ((va_up_ne _ _ (by omega)).trans ((congrFun e59 _).trans ((va_up_ne _ _ (by omega)).trans f55)))))))))))))))))))))
  have f199 : w130 (b + 6) = .inl (cI, 4, .inl (fun _ => 0)) := ((congrFun e131 _).trans ((va_up_ne _ _ (by omega)).trans ((hf126 _ (by omega)).trans ((congrFun ew117 _).trans ((va_up_ne _ _ (by omega)).trans ((congrFun e111 _).trans ((va_up_ne _ _ (by omega)).trans ((hf106 _ (by omega)).trans ((congrFun ew97 _).trans ((va_up_ne _ _ (by omega)).trans ((congrFun e91 _).trans ((va_up_ne _ _ (by omega)).trans ((hf86 _ (by omega)).trans ((congrFun ew77 _).trans ((va_up_ne _ _ (by omega)).trans ((congrFun e71 _).trans ((va_up_ne _ _ (by omega)).trans f67)))))))))))))))))
  have f200 : w130 (b + 7) = .inr (4, [.ref (ad80 (b + 8)), .int 0]) := ((congrFun e131 _).trans ((va_up_ne _ _ (by omega)).trans ((hf126 _ (by omega)).trans ((congrFun ew117 _).trans ((va_up_ne _ _ (by omega)).trans ((congrFun e111 _).trans ((va_up_ne _ _ (by omega)).trans ((hf106 _ (by omega)).trans ((congrFun ew97 _).trans ((va_up_ne _ _ (by omega)).trans ((congrFun e91 _).trans ((va_up_ne _ _ (by omega)).trans f84))))))))))))
  have a201 : ad94 (b + 8) = (ad80 (b + 8)) := (congrFun ea95 _).trans ((va_up_ne _ _ (by omega)).trans (rfl : ad80 (b + 8) = ad80 (b + 8)))
  have a202 : ad100 (b + 8) = (ad80 (b + 8)) := (ho102 _ (by omega)).trans a201
  have a203 : ad114 (b + 8) = (ad80 (b + 8)) := (congrFun ea115 _).trans ((va_up_ne _ _ (by omega)).trans a202)
  have a204 : ad120 (b + 8) = (ad80 (b + 8)) := (ho122 _ (by omega)).trans a203
  have z205 : w130 (b + 7) = .inr (4, [.ref (ad120 (b + 8)), .int 0]) := by rw [a204]; exact f200
  have f206 : w130 (b + 8) = .inl (cI, 24, .inl (fun _ => 0)) := ((congrFun e131 _).trans ((va_up_ne _ _ (by omega)).trans ((hf126 _ (by omega)).trans ((congrFun ew117 _).trans ((va_up_ne _ _ (by omega)).trans ((congrFun e111 _).trans ((va_up_ne _ _ (by omega)).trans ((hf106 _ (by omega)).trans ((congrFun ew97 _).trans ((va_up_ne _ _ (by omega)).trans ((congrFun e91 _).trans ((va_up_ne _ _ (by omega)).trans f85))))))))))))
  have f207 : w130 (b + 9) = .inr (4, [.ref (ad100 (b + 10)), .int 0]) := ((congrFun e131 _).trans ((va_up_ne _ _ (by omega)).trans ((hf126 _ (by omega)).trans ((congrFun ew117 _).trans ((va_up_ne _ _ (by omega)).trans ((congrFun e111 _).trans ((va_up_ne _ _ (by omega)).trans f104)))))))
  have a208 : ad114 (b + 10) = (ad100 (b + 10)) := (congrFun ea115 _).trans ((va_up_ne _ _ (by omega)).trans (rfl : ad100 (b + 10) = ad100 (b + 10)))
  have a209 : ad120 (b + 10) = (ad100 (b + 10)) := (ho122 _ (by omega)).trans a208
  have z210 : w130 (b + 9) = .inr (4, [.ref (ad120 (b + 10)), .int 0]) := by rw [a209]; exact f207
  have f211 : w130 (b + 10) = .inl (cI, 24, .inl (fun _ => 0)) := ((congrFun e131 _).trans ((va_up_ne _ _ (by omega)).trans ((hf126 _ (by omega)).trans ((congrFun ew117 _).trans ((va_up_ne _ _ (by omega)).trans ((congrFun e111 _).trans ((va_up_ne _ _ (by omega)).trans f105)))))))
  have f212 : w130 (b + 11) = .inr (2, [.ref (ad120 (b + 12)), .int 0]) := ((congrFun e131 _).trans ((va_up_ne _ _ (by omega)).trans f124))
  have z213 : w130 (b + 11) = .inr (2, [.ref (ad120 (b + 12)), .int 0]) := f212
  have f214 : w130 (b + 12) = .inl (cI, 88, .inl (fun _ => 0)) := ((congrFun e131 _).trans ((va_up_ne _ _ (by omega)).trans f125))
  refine e_a (n := b + 1) (ad := ad) (post := (fun ad1 w1 => w1 b = .inr (1, [.int 0, .int 0, .int 0, .int 0, .int 0, .ref (ad1 (b + 1)), .ref (ad1 (b + 2)), .ref (ad1 (b + 3)), .ref (ad1 (b + 4)), .ref (ad1 (b + 5)), .ref (ad1 (b + 6)), .ref (ad1 (b + 7)), .ref (ad1 (b + 9)), .ref (ad1 (b + 11))]) ∧ w1 (b + 1) = .inl (cI, 7, .inl (fun _ => 0)) ∧ w1 (b + 2) = .inl (cI, 7, .inl (fun _ => 0)) ∧ w1 (b + 3) = .inl (cI, 7, .inl (fun _ => 0)) ∧ w1 (b + 4) = .inl (cI, 4, .inl (fun _ => 0)) ∧ w1 (b + 5) = .inl (cI, 4, .inl (fun _ => 0)) ∧ w1 (b + 6) = .inl (cI, 4, .inl (fun _ => 0)) ∧ w1 (b + 7) = .inr (4, [.ref (ad1 (b + 8)), .int 0]) ∧ w1 (b + 8) = .inl (cI, 24, .inl (fun _ => 0)) ∧ w1 (b + 9) = .inr (4, [.ref (ad1 (b + 10)), .int 0]) ∧ w1 (b + 10) = .inl (cI, 24, .inl (fun _ => 0)) ∧ w1 (b + 11) = .inr (2, [.ref (ad1 (b + 12)), .int 0]) ∧ w1 (b + 12) = .inl (cI, 88, .inl (fun _ => 0)) ∧ ∀ k, k < b → w1 k = w k)) X hD h hr hlk dX2_init_82 ?_ ?_
  · exact (fun k hk => (ho122 k (by omega)).trans (((congrFun ea115 k).trans (va_up_ne _ _ (by omega))).trans ((ho102 k (by omega)).trans (((congrFun ea95 k).trans (va_up_ne _ _ (by omega))).trans ((ho82 k (by omega)).trans (((congrFun ea75 k).trans (va_up_ne _ _ (by omega))).trans (((congrFun ea63 k).trans (va_up_ne _ _ (by omega))).trans (((congrFun ea51 k).trans (va_up_ne _ _ (by omega))).trans (((congrFun ea39 k).trans (va_up_ne _ _ (by omega))).trans (((congrFun ea27 k).trans (va_up_ne _ _ (by omega))).trans (((congrFun ea15 k).trans (va_up_ne _ _ (by omega))).trans ((congrFun ea3 k).trans (va_up_ne _ _ (by omega))))))))))))))
  · exact ⟨z193, f194, f195, f196, f197, f198, f199, z205, f206, z210, f211, z213, f214, fun k hk => ((congrFun e131 k).trans (va_up_ne _ _ (by omega))).trans ((hf126 k (by omega)).trans (((congrFun ew117 k).trans (va_up_ne _ _ (by omega))).trans (((congrFun e111 k).trans (va_up_ne _ _ (by omega))).trans ((hf106 k (by omega)).trans (((congrFun ew97 k).trans (va_up_ne _ _ (by omega))).trans (((congrFun e91 k).trans (va_up_ne _ _ (by omega))).trans ((hf86 k (by omega)).trans (((congrFun ew77 k).trans (va_up_ne _ _ (by omega))).trans (((congrFun e71 k).trans (va_up_ne _ _ (by omega))).trans (((congrFun ew65 k).trans (va_up_ne _ _ (by omega))).trans (((congrFun e59 k).trans (va_up_ne _ _ (by omega))).trans (((congrFun ew53 k).trans (va_up_ne _ _ (by omega))).trans (((congrFun e47 k).trans (va_up_ne _ _ (by omega))).trans (((congrFun ew41 k).trans (va_up_ne _ _ (by omega))).trans (((congrFun e35 k).trans (va_up_ne _ _ (by omega))).trans (((congrFun ew29 k).trans (va_up_ne _ _ (by omega))).trans (((congrFun e23 k).trans (va_up_ne _ _ (by omega))).trans (((congrFun ew17 k).trans (va_up_ne _ _ (by omega))).trans (((congrFun e11 k).trans (va_up_ne _ _ (by omega))).trans ((congrFun ew5 k).trans (va_up_ne _ _ (by omega))))))))))))))))))))))⟩
