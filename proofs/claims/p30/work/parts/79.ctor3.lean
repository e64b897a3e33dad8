set_option maxHeartbeats 4000000 in
set_option maxRecDepth 100000 in
theorem c_M_init (l : Launch) (G : va_G) (cI cB cZ cO : ClassId) (ad : Nat → Nat) (w : Nat → va_E) (a : Nat) (ha : ad 64 = a) (pf : w 64 = .inr (7, [.null, .null, .null, .null, .long 0, .long 0, .null, .int 0, .null, .null, .int 0, .int 0, .int 0, .int 0, .int 0, .null, .null])) : MA l G (tyq cI cB cZ cO) yX9_init cX9_init 1 1 24 9 825 65 74 ad w [.ref a] (fun ad1 w1 => (∀ k, k < 74 → 64 ≤ k → w1 k = fr0 cI cB cZ cO ad1 k) ∧ ∀ k, k < 64 → w1 k = w k) := by
  refine mk_a (own := "NoonShadeModel") rfl (by decide) (Nat.le_of_ble_eq_true rfl) ?_
  intro p e s m below meth c ls X hD hN hr hlk hnm h hl
  have hx := X.1.1
  have hb := X.1.2.1
  have hown := X.1.2.2.2.1
  have hts := X.1.2.2.2.2
  have hin : meth.name = "<init>" := hnm
  have hl : lv_has ls 1 [(0, .ref a)] := hl
  refine lv_aload_n hx hb dX9_init_0 rfl (lv_at hl 0 rfl) ?_
  refine W.objInit hx hb hown (hts _ kw_340) (hts _ kw_296) (hts _ kw_297) rfl (by rw [X.1.2.2.1]; exact hl.1) rfl dX9_init_1 (Nat.le_of_ble_eq_true rfl) (Nat.le_of_ble_eq_true rfl) ?_
  refine W.eq (g2 := F0 m 4 ls []) rfl ?_
  refine lv_aload_n hx hb dX9_init_4 rfl (lv_at hl 0 rfl) ?_
  refine lv_sipush (v := 177) hx hb dX9_init_5 (by decide) ?_
  refine r_newa (atype := .int) (N := 177) (n1 := 66) (c1 := 1) (s1 := 177) X hD h 0 kw_298 rfl rfl (fun _ h9 => h9) (fun _ => ai) (by decide) (by decide) (by decide) rfl rfl rfl (Nat.le_of_ble_eq_true rfl) (Nat.le_of_ble_eq_true rfl) dX9_init_8 (fun q1 ad2 w4 H ea3 ew5 hD h => ?_)
  have a6 : ad2 65 = q1 := (congrFun ea3 _).trans (va_up_self _ _ _)
  have f7 : w4 65 = .inl (cI, 177, .inl (fun _ => 0)) := (congrFun ew5 _).trans (va_up_self _ _ _)
  have a8 : ad2 64 = a := (congrFun ea3 _).trans ((va_up_ne _ _ (by decide)).trans ha)
  have f9 : w4 64 = .inr (7, [.null, .null, .null, .null, .long 0, .long 0, .null, .int 0, .null, .null, .int 0, .int 0, .int 0, .int 0, .int 0, .null, .null]) := ((congrFun ew5 _).trans ((va_up_ne _ _ (by decide)).trans pf))
  refine r_putF kc9 X hD h hin 64 0 (by decide) a8 f9 (by decide) kw_187 rfl rfl rfl rfl (Nat.le_of_ble_eq_true rfl) dX9_init_10 (fun H locs w10 e11 h => ?_)
  have f12 : w10 64 = .inr (7, [.ref q1, .null, .null, .null, .long 0, .long 0, .null, .int 0, .null, .null, .int 0, .int 0, .int 0, .int 0, .int 0, .null, .null]) := (congrFun e11 _).trans (va_up_self _ _ _)
  refine lv_aload_n hx hb dX9_init_13 rfl (lv_at hl 0 rfl) ?_
  refine lv_sipush (v := 354) hx hb dX9_init_14 (by decide) ?_
  refine r_newa (atype := .int) (N := 354) (n1 := 67) (c1 := 2) (s1 := 531) X hD h 0 kw_298 rfl rfl (fun _ h9 => h9) (fun _ => ai) (by decide) (by decide) (by decide) rfl rfl rfl (Nat.le_of_ble_eq_true rfl) (Nat.le_of_ble_eq_true rfl) dX9_init_17 (fun q13 ad14 w16 H ea15 ew17 hD h => ?_)
  have a18 : ad14 66 = q13 := (congrFun ea15 _).trans (va_up_self _ _ _)
  have f19 : w16 66 = .inl (cI, 354, .inl (fun _ => 0)) := (congrFun ew17 _).trans (va_up_self _ _ _)
  have a20 : ad14 64 = a := (congrFun ea15 _).trans ((va_up_ne _ _ (by decide)).trans a8)
  have f21 : w16 64 = .inr (7, [.ref q1, .null, .null, .null, .long 0, .long 0, .null, .int 0, .null, .null, .int 0, .int 0, .int 0, .int 0, .int 0, .null, .null]) := ((congrFun ew17 _).trans ((va_up_ne _ _ (by decide)).trans f12))
  refine r_putF kc9 X hD h hin 64 1 (by decide) a20 f21 (by decide) kw_264 rfl rfl rfl rfl (Nat.le_of_ble_eq_true rfl) dX9_init_19 (fun H locs w22 e23 h => ?_)
  have f24 : w22 64 = .inr (7, [.ref q1, .ref q13, .null, .null, .long 0, .long 0, .null, .int 0, .null, .null, .int 0, .int 0, .int 0, .int 0, .int 0, .null, .null]) := (congrFun e23 _).trans (va_up_self _ _ _)
  refine lv_aload_n hx hb dX9_init_22 rfl (lv_at hl 0 rfl) ?_
  refine lv_iconst (v := 2) hx hb dX9_init_23 (by decide) ?_
  refine r_newa (atype := .boolean) (N := 2) (n1 := 68) (c1 := 3) (s1 := 533) X hD h 2 kw_323 rfl rfl (fun _ h9 => h9) (fun _ => az) (by decide) (by decide) (by decide) rfl rfl rfl (Nat.le_of_ble_eq_true rfl) (Nat.le_of_ble_eq_true rfl) dX9_init_24 (fun q25 ad26 w28 H ea27 ew29 hD h => ?_)
  have a30 : ad26 67 = q25 := (congrFun ea27 _).trans (va_up_self _ _ _)
  have f31 : w28 67 = .inl (cZ, 2, .inl (fun _ => 0)) := (congrFun ew29 _).trans (va_up_self _ _ _)
  have a32 : ad26 64 = a := (congrFun ea27 _).trans ((va_up_ne _ _ (by decide)).trans a20)
  have f33 : w28 64 = .inr (7, [.ref q1, .ref q13, .null, .null, .long 0, .long 0, .null, .int 0, .null, .null, .int 0, .int 0, .int 0, .int 0, .int 0, .null, .null]) := ((congrFun ew29 _).trans ((va_up_ne _ _ (by decide)).trans f24))
  refine r_putF kc9 X hD h hin 64 2 (by decide) a32 f33 (by decide) kw_262 rfl rfl rfl rfl (Nat.le_of_ble_eq_true rfl) dX9_init_26 (fun H locs w34 e35 h => ?_)
  have f36 : w34 64 = .inr (7, [.ref q1, .ref q13, .ref q25, .null, .long 0, .long 0, .null, .int 0, .null, .null, .int 0, .int 0, .int 0, .int 0, .int 0, .null, .null]) := (congrFun e35 _).trans (va_up_self _ _ _)
  refine lv_aload_n hx hb dX9_init_29 rfl (lv_at hl 0 rfl) ?_
  refine lv_iconst (v := 3) hx hb dX9_init_30 (by decide) ?_
  refine r_newa (atype := .int) (N := 3) (n1 := 69) (c1 := 4) (s1 := 536) X hD h 0 kw_298 rfl rfl (fun _ h9 => h9) (fun _ => ai) (by decide) (by decide) (by decide) rfl rfl rfl (Nat.le_of_ble_eq_true rfl) (Nat.le_of_ble_eq_true rfl) dX9_init_31 (fun q37 ad38 w40 H ea39 ew41 hD h => ?_)
  have a42 : ad38 68 = q37 := (congrFun ea39 _).trans (va_up_self _ _ _)
  have f43 : w40 68 = .inl (cI, 3, .inl (fun _ => 0)) := (congrFun ew41 _).trans (va_up_self _ _ _)
  have a44 : ad38 64 = a := (congrFun ea39 _).trans ((va_up_ne _ _ (by decide)).trans a32)
  have f45 : w40 64 = .inr (7, [.ref q1, .ref q13, .ref q25, .null, .long 0, .long 0, .null, .int 0, .null, .null, .int 0, .int 0, .int 0, .int 0, .int 0, .null, .null]) := ((congrFun ew41 _).trans ((va_up_ne _ _ (by decide)).trans f36))
  refine r_putF kc9 X hD h hin 64 3 (by decide) a44 f45 (by decide) kw_186 rfl rfl rfl rfl (Nat.le_of_ble_eq_true rfl) dX9_init_33 (fun H locs w46 e47 h => ?_)
  have f48 : w46 64 = .inr (7, [.ref q1, .ref q13, .ref q25, .ref q37, .long 0, .long 0, .null, .int 0, .null, .null, .int 0, .int 0, .int 0, .int 0, .int 0, .null, .null]) := (congrFun e47 _).trans (va_up_self _ _ _)
  refine lv_aload_n hx hb dX9_init_36 rfl (lv_at hl 0 rfl) ?_
  refine lv_lconst (v := 1) hx hb dX9_init_37 (by decide) ?_
  refine r_put kc9 X hD h 64 5 (by decide) a44 f48 (by decide) kw_260 rfl rfl rfl (Nat.le_of_ble_eq_true rfl) dX9_init_38 (fun H locs w49 e50 h => ?_)
  have f51 : w49 64 = .inr (7, [.ref q1, .ref q13, .ref q25, .ref q37, .long 0, .long 1, .null, .int 0, .null, .null, .int 0, .int 0, .int 0, .int 0, .int 0, .null, .null]) := (congrFun e50 _).trans (va_up_self _ _ _)
  refine lv_aload_n hx hb dX9_init_41 rfl (lv_at hl 0 rfl) ?_
  refine lv_bipush (v := 41) hx hb dX9_init_42 (by decide) ?_
  refine r_newa (atype := .int) (N := 41) (n1 := 70) (c1 := 5) (s1 := 577) X hD h 0 kw_298 rfl rfl (fun _ h9 => h9) (fun _ => ai) (by decide) (by decide) (by decide) rfl rfl rfl (Nat.le_of_ble_eq_true rfl) (Nat.le_of_ble_eq_true rfl) dX9_init_44 (fun q52 ad53 w55 H ea54 ew56 hD h => ?_)
  have a57 : ad53 69 = q52 := (congrFun ea54 _).trans (va_up_self _ _ _)
  have f58 : w55 69 = .inl (cI, 41, .inl (fun _ => 0)) := (congrFun ew56 _).trans (va_up_self _ _ _)
  have a59 : ad53 64 = a := (congrFun ea54 _).trans ((va_up_ne _ _ (by decide)).trans a44)
  have f60 : w55 64 = .inr (7, [.ref q1, .ref q13, .ref q25, .ref q37, .long 0, .long 1, .null, .int 0, .null, .null, .int 0, .int 0, .int 0, .int 0, .int 0, .null, .null]) := ((congrFun ew56 _).trans ((va_up_ne _ _ (by decide)).trans f51))
  refine r_putF kc9 X hD h hin 64 6 (by decide) a59 f60 (by decide) kw_281 rfl rfl rfl rfl (Nat.le_of_ble_eq_true rfl) dX9_init_46 (fun H locs w61 e62 h => ?_)
  have f63 : w61 64 = .inr (7, [.ref q1, .ref q13, .ref q25, .ref q37, .long 0, .long 1, .ref q52, .int 0, .null, .null, .int 0, .int 0, .int 0, .int 0, .int 0, .null, .null]) := (congrFun e62 _).trans (va_up_self _ _ _)
  refine lv_aload_n hx hb dX9_init_49 rfl (lv_at hl 0 rfl) ?_
  refine lv_bipush (v := 6) hx hb dX9_init_50 (by decide) ?_
  refine r_newa (atype := .int) (N := 6) (n1 := 71) (c1 := 6) (s1 := 583) X hD h 0 kw_298 rfl rfl (fun _ h9 => h9) (fun _ => ai) (by decide) (by decide) (by decide) rfl rfl rfl (Nat.le_of_ble_eq_true rfl) (Nat.le_of_ble_eq_true rfl) dX9_init_52 (fun q64 ad65 w67 H ea66 ew68 hD h => ?_)
  have a69 : ad65 70 = q64 := (congrFun ea66 _).trans (va_up_self _ _ _)
  have f70 : w67 70 = .inl (cI, 6, .inl (fun _ => 0)) := (congrFun ew68 _).trans (va_up_self _ _ _)
  have a71 : ad65 64 = a := (congrFun ea66 _).trans ((va_up_ne _ _ (by decide)).trans a59)
  have f72 : w67 64 = .inr (7, [.ref q1, .ref q13, .ref q25, .ref q37, .long 0, .long 1, .ref q52, .int 0, .null, .null, .int 0, .int 0, .int 0, .int 0, .int 0, .null, .null]) := ((congrFun ew68 _).trans ((va_up_ne _ _ (by decide)).trans f63))
  refine r_putF kc9 X hD h hin 64 8 (by decide) a71 f72 (by decide) kw_341 rfl rfl rfl rfl (Nat.le_of_ble_eq_true rfl) dX9_init_54 (fun H locs w73 e74 h => ?_)
  have f75 : w73 64 = .inr (7, [.ref q1, .ref q13, .ref q25, .ref q37, .long 0, .long 1, .ref q52, .int 0, .ref q64, .null, .int 0, .int 0, .int 0, .int 0, .int 0, .null, .null]) := (congrFun e74 _).trans (va_up_self _ _ _)
  refine lv_aload_n hx hb dX9_init_57 rfl (lv_at hl 0 rfl) ?_
  refine lv_sipush (v := 150) hx hb dX9_init_58 (by decide) ?_
  refine r_newa (atype := .int) (N := 150) (n1 := 72) (c1 := 7) (s1 := 733) X hD h 0 kw_298 rfl rfl (fun _ h9 => h9) (fun _ => ai) (by decide) (by decide) (by decide) rfl rfl rfl (Nat.le_of_ble_eq_true rfl) (Nat.le_of_ble_eq_true rfl) dX9_init_61 (fun q76 ad77 w79 H ea78 ew80 hD h => ?_)
  have a81 : ad77 71 = q76 := (congrFun ea78 _).trans (va_up_self _ _ _)
  have f82 : w79 71 = .inl (cI, 150, .inl (fun _ => 0)) := (congrFun ew80 _).trans (va_up_self _ _ _)
  have a83 : ad77 64 = a := (congrFun ea78 _).trans ((va_up_ne _ _ (by decide)).trans a71)
  have f84 : w79 64 = .inr (7, [.ref q1, .ref q13, .ref q25, .ref q37, .long 0, .long 1, .ref q52, .int 0, .ref q64, .null, .int 0, .int 0, .int 0, .int 0, .int 0, .null, .null]) := ((congrFun ew80 _).trans ((va_up_ne _ _ (by decide)).trans f75))
  refine r_putF kc9 X hD h hin 64 9 (by decide) a83 f84 (by decide) kw_228 rfl rfl rfl rfl (Nat.le_of_ble_eq_true rfl) dX9_init_63 (fun H locs w85 e86 h => ?_)
  have f87 : w85 64 = .inr (7, [.ref q1, .ref q13, .ref q25, .ref q37, .long 0, .long 1, .ref q52, .int 0, .ref q64, .ref q76, .int 0, .int 0, .int 0, .int 0, .int 0, .null, .null]) := (congrFun e86 _).trans (va_up_self _ _ _)
  refine lv_aload_n hx hb dX9_init_66 rfl (lv_at hl 0 rfl) ?_
  refine lv_bipush (v := 89) hx hb dX9_init_67 (by decide) ?_
  refine r_newa (atype := .int) (N := 89) (n1 := 73) (c1 := 8) (s1 := 822) X hD h 0 kw_298 rfl rfl (fun _ h9 => h9) (fun _ => ai) (by decide) (by decide) (by decide) rfl rfl rfl (Nat.le_of_ble_eq_true rfl) (Nat.le_of_ble_eq_true rfl) dX9_init_69 (fun q88 ad89 w91 H ea90 ew92 hD h => ?_)
  have a93 : ad89 72 = q88 := (congrFun ea90 _).trans (va_up_self _ _ _)
  have f94 : w91 72 = .inl (cI, 89, .inl (fun _ => 0)) := (congrFun ew92 _).trans (va_up_self _ _ _)
  have a95 : ad89 64 = a := (congrFun ea90 _).trans ((va_up_ne _ _ (by decide)).trans a83)
  have f96 : w91 64 = .inr (7, [.ref q1, .ref q13, .ref q25, .ref q37, .long 0, .long 1, .ref q52, .int 0, .ref q64, .ref q76, .int 0, .int 0, .int 0, .int 0, .int 0, .null, .null]) := ((congrFun ew92 _).trans ((va_up_ne _ _ (by decide)).trans f87))
  refine r_putF kc9 X hD h hin 64 15 (by decide) a95 f96 (by decide) kw_342 rfl rfl rfl rfl (Nat.le_of_ble_eq_true rfl) dX9_init_71 (fun H locs w97 e98 h => ?_)
  have f99 : w97 64 = .inr (7, [.ref q1, .ref q13, .ref q25, .ref q37, .long 0, .long 1, .ref q52, .int 0, .ref q64, .ref q76, .int 0, .int 0, .int 0, .int 0, .int 0, .ref q88, .null]) := (congrFun e98 _).trans (va_up_self _ _ _)
  refine lv_aload_n hx hb dX9_init_74 rfl (lv_at hl 0 rfl) ?_
  refine lv_iconst (v := 3) hx hb dX9_init_75 (by decide) ?_
  refine r_newa (atype := .int) (N := 3) (n1 := 74) (c1 := 9) (s1 := 825) X hD h 0 kw_298 rfl rfl (fun _ h9 => h9) (fun _ => ai) (by decide) (by decide) (by decide) rfl rfl rfl (Nat.le_of_ble_eq_true rfl) (Nat.le_of_ble_eq_true rfl) dX9_init_76 (fun q100 ad101 w103 H ea102 ew104 hD h => ?_)
  have a105 : ad101 73 = q100 := (congrFun ea102 _).trans (va_up_self _ _ _)
  have f106 : w103 73 = .inl (cI, 3, .inl (fun _ => 0)) := (congrFun ew104 _).trans (va_up_self _ _ _)
  have a107 : ad101 64 = a := (congrFun ea102 _).trans ((va_up_ne _ _ (by decide)).trans a95)
  have f108 : w103 64 = .inr (7, [.ref q1, .ref q13, .ref q25, .ref q37, .long 0, .long 1, .ref q52, .int 0, .ref q64, .ref q76, .int 0, .int 0, .int 0, .int 0, .int 0, .ref q88, .null]) := ((congrFun ew104 _).trans ((va_up_ne _ _ (by decide)).trans f99))
  refine r_putF kc9 X hD h hin 64 16 (by decide) a107 f108 (by decide) kw_343 rfl rfl rfl rfl (Nat.le_of_ble_eq_true rfl) dX9_init_78 (fun H locs w109 e110 h => ?_)
  have f111 : w109 64 = .inr (7, [.ref q1, .ref q13, .ref q25, .ref q37, .long 0, .long 1, .ref q52, .int 0, .ref q64, .ref q76, .int 0, .int 0, .int 0, .int 0, .int 0, .ref q88, .ref q100]) := (congrFun e110 _).trans (va_up_self _ _ _)
  refine lv_aload_n hx hb dX9_init_81 rfl (lv_at hl 0 rfl) ?_
  refine r_get kc9 X h 64 0 (by decide) a107 f111 (by decide) kw_187 rfl dX9_init_82 ?_
  refine lv_iconst (v := 0) hx hb dX9_init_85 (by decide) ?_
  have a112 : ad14 65 = q1 := (congrFun ea15 _).trans ((va_up_ne _ _ (by decide)).trans a6)
  have a113 : ad26 65 = q1 := (congrFun ea27 _).trans ((va_up_ne _ _ (by decide)).trans a112)
  have a114 : ad38 65 = q1 := (congrFun ea39 _).trans ((va_up_ne _ _ (by decide)).trans a113)
  have a115 : ad53 65 = q1 := (congrFun ea54 _).trans ((va_up_ne _ _ (by decide)).trans a114)
  have a116 : ad65 65 = q1 := (congrFun ea66 _).trans ((va_up_ne _ _ (by decide)).trans a115)
  have a117 : ad77 65 = q1 := (congrFun ea78 _).trans ((va_up_ne _ _ (by decide)).trans a116)
  have a118 : ad89 65 = q1 := (congrFun ea90 _).trans ((va_up_ne _ _ (by decide)).trans a117)
  have a119 : ad101 65 = q1 := (congrFun ea102 _).trans ((va_up_ne _ _ (by decide)).trans a118)
  have f120 : w109 65 = .inl (cI, 177, .inl (fun _ => 0)) := ((congrFun e110 _).trans ((va_up_ne _ _ (by decide)).trans ((congrFun ew104 _).trans ((va_up_ne _ _ (by decide)).trans ((congrFun e98 _).trans ((va_up_ne _ _ (by decide)).trans ((congrFun ew92 _).trans ((va_up_ne _ _ (by decide)).trans ((congrFun e86 _).trans ((va_up_ne _ _ (by decide)).trans ((congrFun ew80 _).trans ((va_up_ne _ _ (by decide)).trans ((congrFun e74 _).trans ((va_up_ne _ _ (by decide)).trans ((congrFun ew68 _).trans ((va_up_ne _ _ (by decide)).trans ((congrFun e62 _).trans ((va_up_ne _ _ (by decide)).trans ((congrFun ew56 _).trans ((va_up_ne _ _ (by decide)).trans ((congrFun e50 _).trans ((va_up_ne _ _ (by decide)).trans ((congrFun e47 _).trans ((va_up_ne _ _ (by decide)).trans ((congrFun ew41 _).trans ((va_up_ne _ _ (by decide)).trans ((congrFun e35 _).trans ((va_up_ne _ _ (by decide)).trans ((congrFun ew29 _).trans ((va_up_ne _ _ (by decide)).trans ((congrFun e23 _).trans ((va_up_ne _ _ (by decide)).trans ((congrFun ew17 _).trans ((va_up_ne _ _ (by decide)).trans ((congrFun e11 _).trans ((va_up_ne _ _ (by decide)).trans f7))))))))))))))))))))))))))))))))))))
  refine W.eq (g2 := F0 m 86 ls [.int 0, .ref (ad101 65)]) (by rw [a119]) ?_
  refine q_Sv (na := 2) (As := [.ref (ad101 65), .int 0]) (rest := []) X hD hN h (c_M_begin l G cI cB cZ cO ad101 w109 0 f120) ⟨kw_208, kw_209, kw_190, kw_210⟩ ⟨by decide, by decide, by decide⟩ ⟨Nat.le_of_ble_eq_true rfl, Nat.le_of_ble_eq_true rfl⟩ ⟨Nat.le_of_ble_eq_true rfl, Nat.le_of_ble_eq_true rfl⟩ rfl hl.1 rfl (Nat.le_of_ble_eq_true rfl) dX9_init_86 (fun w121 H locs hp122 h => ?_)
  obtain ⟨f123, hf125⟩ := hp122
  have f124 : w121 65 = .inl (cI, 177, .inl (fun _ => 0)) := by rw [f123, upd0]
  have f126 : w121 64 = .inr (7, [.ref q1, .ref q13, .ref q25, .ref q37, .long 0, .long 1, .ref q52, .int 0, .ref q64, .ref q76, .int 0, .int 0, .int 0, .int 0, .int 0, .ref q88, .ref q100]) := ((hf125 _ (by decide)).trans f111)
  have a127 : ad26 66 = q13 := (congrFun ea27 _).trans ((va_up_ne _ _ (by decide)).trans a18)
  have a128 : ad38 66 = q13 := (congrFun ea39 _).trans ((va_up_ne _ _ (by decide)).trans a127)
  have a129 : ad53 66 = q13 := (congrFun ea54 _).trans ((va_up_ne _ _ (by decide)).trans a128)
  have a130 : ad65 66 = q13 := (congrFun ea66 _).trans ((va_up_ne _ _ (by decide)).trans a129)
  have a131 : ad77 66 = q13 := (congrFun ea78 _).trans ((va_up_ne _ _ (by decide)).trans a130)
  have a132 : ad89 66 = q13 := (congrFun ea90 _).trans ((va_up_ne _ _ (by decide)).trans a131)
  have a133 : ad101 66 = q13 := (congrFun ea102 _).trans ((va_up_ne _ _ (by decide)).trans a132)
  have a134 : ad38 67 = q25 := (congrFun ea39 _).trans ((va_up_ne _ _ (by decide)).trans a30)
  have a135 : ad53 67 = q25 := (congrFun ea54 _).trans ((va_up_ne _ _ (by decide)).trans a134)
  have a136 : ad65 67 = q25 := (congrFun ea66 _).trans ((va_up_ne _ _ (by decide)).trans a135)
  have a137 : ad77 67 = q25 := (congrFun ea78 _).trans ((va_up_ne _ _ (by decide)).trans a136)
  have a138 : ad89 67 = q25 := (congrFun ea90 _).trans ((va_up_ne _ _ (by decide)).trans a137)
  have a139 : ad101 67 = q25 := (congrFun ea102 _).trans ((va_up_ne _ _ (by decide)).trans a138)
  have a140 : ad53 68 = q37 := (congrFun ea54 _).trans ((va_up_ne _ _ (by decide)).trans a42)
  have a141 : ad65 68 = q37 := (congrFun ea66 _).trans ((va_up_ne _ _ (by decide)).trans a140)
  have a142 : ad77 68 = q37 := (congrFun ea78 _).trans ((va_up_ne _ _ (by decide)).trans a141)
  have a143 : ad89 68 = q37 := (congrFun ea90 _).trans ((va_up_ne _ _ (by decide)).trans a142)
  have a144 : ad101 68 = q37 := (congrFun ea102 _).trans ((va_up_ne _ _ (by decide)).trans a143)
  have a145 : ad65 69 = q52 := (congrFun ea66 _).trans ((va_up_ne _ _ (by decide)).trans a57)
  have a146 : ad77 69 = q52 := (congrFun ea78 _).trans ((va_up_ne _ _ (by decide)).trans a145)
  have a147 : ad89 69 = q52 := (congrFun ea90 _).trans ((va_up_ne _ _ (by decide)).trans a146)
  have a148 : ad101 69 = q52 := (congrFun ea102 _).trans ((va_up_ne _ _ (by decide)).trans a147)
  have a149 : ad77 70 = q64 := (congrFun ea78 _).trans ((va_up_ne _ _ (by decide)).trans a69)
  have a150 : ad89 70 = q64 := (congrFun ea90 _).trans ((va_up_ne _ _ (by decide)).trans a149)
  have a151 : ad101 70 = q64 := (congrFun ea102 _).trans ((va_up_ne _ _ (by decide)).trans a150)
  have a152 : ad89 71 = q76 := (congrFun ea90 _).trans ((va_up_ne _ _ (by decide)).trans a81)
  have a153 : ad101 71 = q76 := (congrFun ea102 _).trans ((va_up_ne _ _ (by decide)).trans a152)
  have a154 : ad101 72 = q88 := (congrFun ea102 _).trans ((va_up_ne _ _ (by decide)).trans a93)
  have z155 : w121 64 = .inr (7, [.ref (ad101 65), .ref (ad101 66), .ref (ad101 67), .ref (ad101 68), .long 0, .long 1, .ref (ad101 69), .int 0, .ref (ad101 70), .ref (ad101 71), .int 0, .int 0, .int 0, .int 0, .int 0, .ref (ad101 72), .ref (ad101 73)]) := by rw [a119, a133, a139, a144, a148, a151, a153, a154, a105]; exact f126
  have f156 : w121 66 = .inl (cI, 354, .inl (fun _ => 0)) := ((hf125 _ (by decide)).trans ((congrFun e110 _).trans ((va_up_ne _ _ (by decide)).trans ((congrFun ew104 _).trans ((va_up_ne _ _ (by decide)).trans ((congrFun e98 _).trans ((va_up_ne _ _ (by decide)).trans ((congrFun ew92 _).trans ((va_up_ne _ _ (by decide)).trans ((congrFun e86 _).trans ((va_up_ne _ _ (by decide)).trans ((congrFun ew80 _).trans ((va_up_ne _ _ (by decide)).trans ((congrFun e74 _).trans ((va_up_ne _ _ (by decide)).trans ((congrFun ew68 _).trans ((va_up_ne _ _ (by decide)).trans ((congrFun e62 _).trans ((va_up_ne _ _ (by decide)).trans ((congrFun ew56 _).trans ((va_up_ne _ _ (by decide)).trans ((congrFun e50 _).trans ((va_up_ne _ _ (by decide)).trans ((congrFun e47 _).trans ((va_up_ne _ _ (by decide)).trans ((congrFun ew41 _).trans ((va_up_ne _ _ (by decide)).trans ((congrFun e35 _).trans ((va_up_ne _ _ (by decide)).trans ((congrFun ew29 _).trans ((va_up_ne _ _ (by decide)).trans ((congrFun e23 _).trans ((va_up_ne _ _ (by decide)).trans f19)))))))))))))))))))))))))))))))))
  have f157 : w121 67 = .inl (cZ, 2, .inl (fun _ => 0)) := ((hf125 _ (by decide)).trans ((congrFun e110 _).trans ((va_up_ne _ _ (by decide)).trans ((congrFun ew104 _).trans ((va_up_ne _ _ (by decide)).trans ((congrFun e98 _).trans ((va_up_ne _ _ (by decide)).trans ((congrFun ew92 _).trans ((va_up_ne _ _ (by decide)).trans ((congrFun e86 _).trans ((va_up_ne _ _ (by decide)).trans ((congrFun ew80 _).trans ((va_up_ne _ _ (by decide)).trans ((congrFun e74 _).trans ((va_up_ne _ _ (by decide)).trans ((congrFun ew68 _).trans ((va_up_ne _ _ (by decide)).trans ((congrFun e62 _).trans ((va_up_ne _ _ (by decide)).trans ((congrFun ew56 _).trans ((va_up_ne _ _ (by decide)).trans ((congrFun e50 _).trans ((va_up_ne _ _ (by decide)).trans ((congrFun e47 _).trans ((va_up_ne _ _ (by decide)).trans ((congrFun ew41 _).trans ((va_up_ne _ _ (by decide)).trans ((congrFun e35 _).trans ((va_up_ne _ _ (by decide)).trans f31)))))))))))))))))))))))))))))
  have f158 : w121 68 = .inl (cI, 3, .inl (fun _ => 0)) := ((hf125 _ (by decide)).trans ((congrFun e110 _).trans ((va_up_ne _ _ (by decide)).trans ((congrFun ew104 _).trans ((va_up_ne _ _ (by decide)).trans ((congrFun e98 _).trans ((va_up_ne _ _ (by decide)).trans ((congrFun ew92 _).trans ((va_up_ne _ _ (by decide)).trans ((congrFun e86 _).trans ((va_up_ne _ _ (by decide)).trans ((congrFun ew80 _).trans ((va_up_ne _ _ (by decide)).trans ((congrFun e74 _).trans ((va_up_ne _ _ (by decide)).trans ((congrFun ew68 _).trans ((va_up_ne _ _ (by decide)).trans ((congrFun e62 _).trans ((va_up_ne _ _ (by decide)).trans ((congrFun ew56 _).trans ((va_up_ne _ _ (by decide)).trans ((congrFun e50 _).trans ((va_up_ne _ _ (by decide)).trans ((congrFun e47 _).trans ((va_up_ne _ _ (by decide)).trans f43)))))))))))))))))))))))))
  have f159 : w121 69 = .inl (cI, 41, .inl (fun _ => 0)) := ((hf125 _ (by decide)).trans ((congrFun e110 _).trans ((va_up_ne _ _ (by decide)).trans ((congrFun ew104 _).trans ((va_up_ne _ _ (by decide)).trans ((congrFun e98 _).trans ((va_up_ne _ _ (by decide)).trans ((congrFun ew92 _).trans ((va_up_ne _ _ (by decide)).trans ((congrFun e86 _).trans ((va_up_ne _ _ (by decide)).trans ((congrFun ew80 _).trans ((va_up_ne _ _ (by decide)).trans ((congrFun e74 _).trans ((va_up_ne _ _ (by decide)).trans ((congrFun ew68 _).trans ((va_up_ne _ _ (by decide)).trans ((congrFun e62 _).trans ((va_up_ne _ _ (by decide)).trans f58)))))))))))))))))))
  have f160 : w121 70 = .inl (cI, 6, .inl (fun _ => 0)) := ((hf125 _ (by decide)).trans ((congrFun e110 _).trans ((va_up_ne _ _ (by decide)).trans ((congrFun ew104 _).trans ((va_up_ne _ _ (by decide)).trans ((congrFun e98 _).trans ((va_up_ne _ _ (by decide)).trans ((congrFun ew92 _).trans ((va_up_ne _ _ (by decide)).trans ((congrFun e86 _).trans ((va_up_ne _ _ (by decide)).trans ((congrFun ew80 _).trans ((va_up_ne _ _ (by decide)).trans ((congrFun e74 _).trans ((va_up_ne _ _ (by decide)).trans f70)))))))))))))))
  have f161 : w121 71 = .inl (cI, 150, .inl (fun _ => 0)) := ((hf125 _ (by decide)).trans ((congrFun e110 _).trans ((va_up_ne _ _ (by decide)).trans ((congrFun ew104 _).trans ((va_up_ne _ _ (by decide)).trans ((congrFun e98 _).trans ((va_up_ne _ _ (by decide)).trans ((congrFun ew92 _).trans ((va_up_ne _ _ (by decide)).trans ((congrFun e86 _).trans ((va_up_ne _ _ (by decide)).trans f82)))))))))))
  have f162 : w121 72 = .inl (cI, 89, .inl (fun _ => 0)) := ((hf125 _ (by decide)).trans ((congrFun e110 _).trans ((va_up_ne _ _ (by decide)).trans ((congrFun ew104 _).trans ((va_up_ne _ _ (by decide)).trans ((congrFun e98 _).trans ((va_up_ne _ _ (by decide)).trans f94)))))))
  have f163 : w121 73 = .inl (cI, 3, .inl (fun _ => 0)) := ((hf125 _ (by decide)).trans ((congrFun e110 _).trans ((va_up_ne _ _ (by decide)).trans f106)))
  have hF : ∀ k, k < 74 → 64 ≤ k → w121 k = fr0 cI cB cZ cO ad101 k := by
    intro k h1 h2
    match k, h1, h2 with
    | 64, _, _ => exact z155
    | 65, _, _ => exact f124
    | 66, _, _ => exact f156
    | 67, _, _ => exact f157
    | 68, _, _ => exact f158
    | 69, _, _ => exact f159
    | 70, _, _ => exact f160
    | 71, _, _ => exact f161
    | 72, _, _ => exact f162
    | 73, _, _ => exact f163
    | k + 74, h1, _ => exact absurd h1 (Nat.not_lt.mpr (Nat.le_add_left _ _))
  refine e_a (n := 65) (ad := ad) (post := (fun ad1 w1 => (∀ k, k < 74 → 64 ≤ k → w1 k = fr0 cI cB cZ cO ad1 k) ∧ ∀ k, k < 64 → w1 k = w k)) X hD h hr hlk dX9_init_89 ?_ ?_
  · exact (fun k hk => ((congrFun ea102 k).trans (va_up_ne _ _ (by omega))).trans (((congrFun ea90 k).trans (va_up_ne _ _ (by omega))).trans (((congrFun ea78 k).trans (va_up_ne _ _ (by omega))).trans (((congrFun ea66 k).trans (va_up_ne _ _ (by omega))).trans (((congrFun ea54 k).trans (va_up_ne _ _ (by omega))).trans (((congrFun ea39 k).trans (va_up_ne _ _ (by omega))).trans (((congrFun ea27 k).trans (va_up_ne _ _ (by omega))).trans (((congrFun ea15 k).trans (va_up_ne _ _ (by omega))).trans ((congrFun ea3 k).trans (va_up_ne _ _ (by omega)))))))))))
  · exact ⟨hF, fun k hk => (hf125 k (by omega)).trans (((congrFun e110 k).trans (va_up_ne _ _ (by omega))).trans (((congrFun ew104 k).trans (va_up_ne _ _ (by omega))).trans (((congrFun e98 k).trans (va_up_ne _ _ (by omega))).trans (((congrFun ew92 k).trans (va_up_ne _ _ (by omega))).trans (((congrFun e86 k).trans (va_up_ne _ _ (by omega))).trans (((congrFun ew80 k).trans (va_up_ne _ _ (by omega))).trans (((congrFun e74 k).trans (va_up_ne _ _ (by omega))).trans (((congrFun ew68 k).trans (va_up_ne _ _ (by omega))).trans (((congrFun e62 k).trans (va_up_ne _ _ (by omega))).trans (((congrFun ew56 k).trans (va_up_ne _ _ (by omega))).trans (((congrFun e50 k).trans (va_up_ne _ _ (by omega))).trans (((congrFun e47 k).trans (va_up_ne _ _ (by omega))).trans (((congrFun ew41 k).trans (va_up_ne _ _ (by omega))).trans (((congrFun e35 k).trans (va_up_ne _ _ (by omega))).trans (((congrFun ew29 k).trans (va_up_ne _ _ (by omega))).trans (((congrFun e23 k).trans (va_up_ne _ _ (by omega))).trans (((congrFun ew17 k).trans (va_up_ne _ _ (by omega))).trans (((congrFun e11 k).trans (va_up_ne _ _ (by omega))).trans ((congrFun ew5 k).trans (va_up_ne _ _ (by omega)))))))))))))))))))))⟩
