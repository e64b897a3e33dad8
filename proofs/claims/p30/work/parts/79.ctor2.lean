set_option maxHeartbeats 4000000 in
set_option maxRecDepth 100000 in
theorem c_X_init (l : Launch) (G : va_G) (cI cB cZ cO : ClassId) (ad : Nat → Nat) (w : Nat → va_E) (a : Nat) (ha : ad 0 = a) (pf : w 0 = .inr (6, [.null, .null, .null, .null, .null, .null, .null, .long 0, .long 0, .int 0, .int 0, .int 0])) : MA l G (tyq cI cB cZ cO) yX8_init cX8_init 1 3 64 63 1209 1 64 ad w [.ref a] (fun ad1 w1 => (∀ k, k < 64 → 0 ≤ k → w1 k = fr0 cI cB cZ cO ad1 k) ∧ ∀ k, k < 0 → w1 k = w k) := by
  refine mk_a (own := "NoonShade") rfl (by decide) (Nat.le_of_ble_eq_true rfl) ?_
  intro p e s m below meth c ls X hD hN hr hlk hnm h hl
  have hx := X.1.1
  have hb := X.1.2.1
  have hown := X.1.2.2.2.1
  have hts := X.1.2.2.2.2
  have hin : meth.name = "<init>" := hnm
  have hl : lv_has ls 1 [(0, .ref a)] := hl
  refine lv_aload_n hx hb dX8_init_0 rfl (lv_at hl 0 rfl) ?_
  refine W.objInit hx hb hown (hts _ kw_318) (hts _ kw_296) (hts _ kw_297) rfl (by rw [X.1.2.2.1]; exact hl.1) rfl dX8_init_1 (Nat.le_of_ble_eq_true rfl) (Nat.le_of_ble_eq_true rfl) ?_
  refine W.eq (g2 := F0 m 4 ls []) rfl ?_
  refine lv_aload_n hx hb dX8_init_4 rfl (lv_at hl 0 rfl) ?_
  refine r_new kc2 (fs := [.int 0, .int 0, .int 0, .int 0, .int 0, .null, .null, .null, .null, .null, .null, .null, .null, .null]) (n1 := 2) (c1 := 1) (s1 := 14) X hD h kw_319 kw_320 kw_9 (by decide +kernel) rfl rfl rfl (Nat.le_of_ble_eq_true rfl) (Nat.le_of_ble_eq_true rfl) dX8_init_5 (fun q1 ad2 w4 H ea3 ew5 hD h => ?_)
  have a6 : ad2 1 = q1 := (congrFun ea3 _).trans (va_up_self _ _ _)
  have f7 : w4 1 = .inr (1, [.int 0, .int 0, .int 0, .int 0, .int 0, .null, .null, .null, .null, .null, .null, .null, .null, .null]) := (congrFun ew5 _).trans (va_up_self _ _ _)
  refine lv_dup hx hb dX8_init_8 rfl ?_
  refine q_AN (na := 0) (As := []) (rest := [.ref q1, .ref a]) (host := "NoonShade") X hD hN h (c_I_init l G cI cB cZ cO ad2 w4 1 q1 a6 f7) (by decide) kw_321 kw_9 kw_322 rfl ⟨by decide, by decide, by decide⟩ ⟨Nat.le_of_ble_eq_true rfl, Nat.le_of_ble_eq_true rfl⟩ ⟨Nat.le_of_ble_eq_true rfl, Nat.le_of_ble_eq_true rfl⟩ rfl hl.1 rfl (Nat.le_of_ble_eq_true rfl) dX8_init_9 (fun ad8 w9 H locs ho10 hp11 hD h => ?_)
  refine W.widen (k := 13) (n := 189) (Nat.le_refl _) (Nat.le_refl _) ?_
  obtain ⟨f12, f13, f14, f15, f16, f17, f18, f19, f20, f21, f22, f23, f24, hf25⟩ := hp11
  have a26 : ad2 0 = a := (congrFun ea3 _).trans ((va_up_ne _ _ (by decide)).trans ha)
  have a27 : ad8 0 = a := (ho10 _ (by decide)).trans a26
  have f28 : w9 0 = .inr (6, [.null, .null, .null, .null, .null, .null, .null, .long 0, .long 0, .int 0, .int 0, .int 0]) := ((hf25 _ (by decide)).trans ((congrFun ew5 _).trans ((va_up_ne _ _ (by decide)).trans pf)))
  refine r_putF kc8 X hD h hin 0 0 (by decide) a27 f28 (by decide) kw_5 rfl rfl rfl rfl (Nat.le_of_ble_eq_true rfl) dX8_init_12 (fun H locs w29 e30 h => ?_)
  have f31 : w29 0 = .inr (6, [.ref q1, .null, .null, .null, .null, .null, .null, .long 0, .long 0, .int 0, .int 0, .int 0]) := (congrFun e30 _).trans (va_up_self _ _ _)
  refine lv_aload_n hx hb dX8_init_15 rfl (lv_at hl 0 rfl) ?_
  refine r_new kc2 (fs := [.int 0, .int 0, .int 0, .int 0, .int 0, .null, .null, .null, .null, .null, .null, .null, .null, .null]) (n1 := 15) (c1 := 14) (s1 := 203) X hD h kw_319 kw_320 kw_9 (by decide +kernel) rfl rfl rfl (Nat.le_of_ble_eq_true rfl) (Nat.le_of_ble_eq_true rfl) dX8_init_16 (fun q32 ad33 w35 H ea34 ew36 hD h => ?_)
  have a37 : ad33 14 = q32 := (congrFun ea34 _).trans (va_up_self _ _ _)
  have f38 : w35 14 = .inr (1, [.int 0, .int 0, .int 0, .int 0, .int 0, .null, .null, .null, .null, .null, .null, .null, .null, .null]) := (congrFun ew36 _).trans (va_up_self _ _ _)
  refine lv_dup hx hb dX8_init_19 rfl ?_
  refine q_AN (na := 0) (As := []) (rest := [.ref q32, .ref a]) (host := "NoonShade") X hD hN h (c_I_init l G cI cB cZ cO ad33 w35 14 q32 a37 f38) (by decide) kw_321 kw_9 kw_322 rfl ⟨by decide, by decide, by decide⟩ ⟨Nat.le_of_ble_eq_true rfl, Nat.le_of_ble_eq_true rfl⟩ ⟨Nat.le_of_ble_eq_true rfl, Nat.le_of_ble_eq_true rfl⟩ rfl hl.1 rfl (Nat.le_of_ble_eq_true rfl) dX8_init_20 (fun ad39 w40 H locs ho41 hp42 hD h => ?_)
  refine W.widen (k := 26) (n := 378) (Nat.le_refl _) (Nat.le_refl _) ?_
  obtain ⟨f43, f44, f45, f46, f47, f48, f49, f50, f51, f52, f53, f54, f55, hf56⟩ := hp42
  have a57 : ad33 0 = a := (congrFun ea34 _).trans ((va_up_ne _ _ (by decide)).trans a27)
  clear f7 a26 hf25 f28 f38 a27
  have a58 : ad39 0 = a := (ho41 _ (by decide)).trans a57
  have f59 : w40 0 = .inr (6, [.ref q1, .null, .null, .null, .null, .null, .null, .long 0, .long 0, .int 0, .int 0, .int 0]) := ((hf56 _ (by decide)).trans ((congrFun ew36 _).trans ((va_up_ne _ _ (by decide)).trans f31)))
  refine r_putF kc8 X hD h hin 0 1 (by decide) a58 f59 (by decide) kw_91 rfl rfl rfl rfl (Nat.le_of_ble_eq_true rfl) dX8_init_23 (fun H locs w60 e61 h => ?_)
  have f62 : w60 0 = .inr (6, [.ref q1, .ref q32, .null, .null, .null, .null, .null, .long 0, .long 0, .int 0, .int 0, .int 0]) := (congrFun e61 _).trans (va_up_self _ _ _)
  refine lv_aload_n hx hb dX8_init_26 rfl (lv_at hl 0 rfl) ?_
  refine lv_iconst (v := 2) hx hb dX8_init_27 (by decide) ?_
  refine r_newq (C := "") (N := 2) (n1 := 28) (c1 := 27) (s1 := 380) X hN hD h 3 kw_319 rfl (by decide) (by decide) (by decide) rfl rfl rfl (Nat.le_of_ble_eq_true rfl) (Nat.le_of_ble_eq_true rfl) dX8_init_28 (fun q63 ad64 w66 H ea65 ew67 hD h => ?_)
  have a68 : ad64 27 = q63 := (congrFun ea65 _).trans (va_up_self _ _ _)
  have f69 : w66 27 = .inl (cO, 2, .inr (.inr (.inr (.inr (fun _ => none))))) := (congrFun ew67 _).trans (va_up_self _ _ _)
  refine lv_dup hx hb dX8_init_31 rfl ?_
  refine lv_iconst (v := 0) hx hb dX8_init_32 (by decide) ?_
  refine r_new kc2 (fs := [.int 0, .int 0, .int 0, .int 0, .int 0, .null, .null, .null, .null, .null, .null, .null, .null, .null]) (n1 := 29) (c1 := 28) (s1 := 394) X hD h kw_319 kw_320 kw_9 (by decide +kernel) rfl rfl rfl (Nat.le_of_ble_eq_true rfl) (Nat.le_of_ble_eq_true rfl) dX8_init_33 (fun q70 ad71 w73 H ea72 ew74 hD h => ?_)
  have a75 : ad71 28 = q70 := (congrFun ea72 _).trans (va_up_self _ _ _)
  have f76 : w73 28 = .inr (1, [.int 0, .int 0, .int 0, .int 0, .int 0, .null, .null, .null, .null, .null, .null, .null, .null, .null]) := (congrFun ew74 _).trans (va_up_self _ _ _)
  refine lv_dup hx hb dX8_init_36 rfl ?_
  refine q_AN (na := 0) (As := []) (rest := [.ref q70, .int 0, .ref q63, .ref q63, .ref a]) (host := "NoonShade") X hD hN h (c_I_init l G cI cB cZ cO ad71 w73 28 q70 a75 f76) (by decide) kw_321 kw_9 kw_322 rfl ⟨by decide, by decide, by decide⟩ ⟨Nat.le_of_ble_eq_true rfl, Nat.le_of_ble_eq_true rfl⟩ ⟨Nat.le_of_ble_eq_true rfl, Nat.le_of_ble_eq_true rfl⟩ rfl hl.1 rfl (Nat.le_of_ble_eq_true rfl) dX8_init_37 (fun ad77 w78 H locs ho79 hp80 hD h => ?_)
  refine W.widen (k := 40) (n := 569) (Nat.le_refl _) (Nat.le_refl _) ?_
  obtain ⟨f81, f82, f83, f84, f85, f86, f87, f88, f89, f90, f91, f92, f93, hf94⟩ := hp80
  have a95 : ad71 27 = q63 := (congrFun ea72 _).trans ((va_up_ne _ _ (by decide)).trans a68)
  have a96 : ad77 27 = q63 := (ho79 _ (by decide)).trans a95
  clear a57 f31 f59 f76 a68 a95
  have a97 : ad77 28 = q70 := (ho79 _ (by decide)).trans a75
  have f98 : w78 27 = .inl (cO, 2, .inr (.inr (.inr (.inr (fun _ => none))))) := ((hf94 _ (by decide)).trans ((congrFun ew74 _).trans ((va_up_ne _ _ (by decide)).trans f69)))
  refine r_aast (r := ("NoonShade$Isle", TX2, 14)) (f1 := va_up (fun _ => none) 0 (some q70)) X hD h 27 28 3 1 (by decide) a96 f98 (by decide) a97 f81 rfl rfl (by unfold vp_in; decide) rfl dX8_init_40 (fun H locs w99 e100 h => ?_)
  have f101 : w99 27 = .inl (cO, 2, .inr (.inr (.inr (.inr (va_up (fun _ => none) 0 (some q70)))))) := (congrFun e100 _).trans (va_up_self _ _ _)
  refine lv_dup hx hb dX8_init_41 rfl ?_
  refine lv_iconst (v := 1) hx hb dX8_init_42 (by decide) ?_
  refine r_new kc2 (fs := [.int 0, .int 0, .int 0, .int 0, .int 0, .null, .null, .null, .null, .null, .null, .null, .null, .null]) (n1 := 42) (c1 := 41) (s1 := 583) X hD h kw_319 kw_320 kw_9 (by decide +kernel) rfl rfl rfl (Nat.le_of_ble_eq_true rfl) (Nat.le_of_ble_eq_true rfl) dX8_init_43 (fun q102 ad103 w105 H ea104 ew106 hD h => ?_)
  have a107 : ad103 41 = q102 := (congrFun ea104 _).trans (va_up_self _ _ _)
  have f108 : w105 41 = .inr (1, [.int 0, .int 0, .int 0, .int 0, .int 0, .null, .null, .null, .null, .null, .null, .null, .null, .null]) := (congrFun ew106 _).trans (va_up_self _ _ _)
  refine lv_dup hx hb dX8_init_46 rfl ?_
  refine q_AN (na := 0) (As := []) (rest := [.ref q102, .int 1, .ref q63, .ref q63, .ref a]) (host := "NoonShade") X hD hN h (c_I_init l G cI cB cZ cO ad103 w105 41 q102 a107 f108) (by decide) kw_321 kw_9 kw_322 rfl ⟨by decide, by decide, by decide⟩ ⟨Nat.le_of_ble_eq_true rfl, Nat.le_of_ble_eq_true rfl⟩ ⟨Nat.le_of_ble_eq_true rfl, Nat.le_of_ble_eq_true rfl⟩ rfl hl.1 rfl (Nat.le_of_ble_eq_true rfl) dX8_init_47 (fun ad109 w110 H locs ho111 hp112 hD h => ?_)
  refine W.widen (k := 53) (n := 758) (Nat.le_refl _) (Nat.le_refl _) ?_
  obtain ⟨f113, f114, f115, f116, f117, f118, f119, f120, f121, f122, f123, f124, f125, hf126⟩ := hp112
  have a127 : ad103 27 = q63 := (congrFun ea104 _).trans ((va_up_ne _ _ (by decide)).trans a96)
  have a128 : ad109 27 = q63 := (ho111 _ (by decide)).trans a127
  clear a75 f69 f98 f108 a96 a127
  have a129 : ad109 41 = q102 := (ho111 _ (by decide)).trans a107
  have f130 : w110 27 = .inl (cO, 2, .inr (.inr (.inr (.inr (va_up (fun _ => none) 0 (some q70)))))) := ((hf126 _ (by decide)).trans ((congrFun ew106 _).trans ((va_up_ne _ _ (by decide)).trans f101)))
  refine r_aast (r := ("NoonShade$Isle", TX2, 14)) (f1 := va_up (va_up (fun _ => none) 0 (some q70)) 1 (some q102)) X hD h 27 41 3 1 (by decide) a128 f130 (by decide) a129 f113 rfl rfl (by unfold vp_in; decide) rfl dX8_init_50 (fun H locs w131 e132 h => ?_)
  have f133 : w131 27 = .inl (cO, 2, .inr (.inr (.inr (.inr (va_up (va_up (fun _ => none) 0 (some q70)) 1 (some q102)))))) := (congrFun e132 _).trans (va_up_self _ _ _)
  have a134 : ad64 0 = a := (congrFun ea65 _).trans ((va_up_ne _ _ (by decide)).trans a58)
  have a135 : ad71 0 = a := (congrFun ea72 _).trans ((va_up_ne _ _ (by decide)).trans a134)
  have a136 : ad77 0 = a := (ho79 _ (by decide)).trans a135
  clear a107 f101 f130 a58 a134 a135
  have a137 : ad103 0 = a := (congrFun ea104 _).trans ((va_up_ne _ _ (by decide)).trans a136)
  have a138 : ad109 0 = a := (ho111 _ (by decide)).trans a137
  have f139 : w131 0 = .inr (6, [.ref q1, .ref q32, .null, .null, .null, .null, .null, .long 0, .long 0, .int 0, .int 0, .int 0]) := ((congrFun e132 _).trans ((va_up_ne _ _ (by decide)).trans ((hf126 _ (by decide)).trans ((congrFun ew106 _).trans ((va_up_ne _ _ (by decide)).trans ((congrFun e100 _).trans ((va_up_ne _ _ (by decide)).trans ((hf94 _ (by decide)).trans ((congrFun ew74 _).trans ((va_up_ne _ _ (by decide)).trans ((congrFun ew67 _).trans ((va_up_ne _ _ (by decide)).trans f62))))))))))))
  refine r_putF kc8 X hD h hin 0 2 (by decide) a138 f139 (by decide) kw_170 rfl rfl rfl rfl (Nat.le_of_ble_eq_true rfl) dX8_init_51 (fun H locs w140 e141 h => ?_)
  have f142 : w140 0 = .inr (6, [.ref q1, .ref q32, .ref q63, .null, .null, .null, .null, .long 0, .long 0, .int 0, .int 0, .int 0]) := (congrFun e141 _).trans (va_up_self _ _ _)
  refine lv_aload_n hx hb dX8_init_54 rfl (lv_at hl 0 rfl) ?_
  refine lv_iconst (v := 2) hx hb dX8_init_55 (by decide) ?_
  refine r_newa (atype := .boolean) (N := 2) (n1 := 55) (c1 := 54) (s1 := 760) X hD h 2 kw_323 rfl rfl (fun _ h9 => h9) (fun _ => az) (by decide) (by decide) (by decide) rfl rfl rfl (Nat.le_of_ble_eq_true rfl) (Nat.le_of_ble_eq_true rfl) dX8_init_56 (fun q143 ad144 w146 H ea145 ew147 hD h => ?_)
  have a148 : ad144 54 = q143 := (congrFun ea145 _).trans (va_up_self _ _ _)
  have f149 : w146 54 = .inl (cZ, 2, .inl (fun _ => 0)) := (congrFun ew147 _).trans (va_up_self _ _ _)
  have a150 : ad144 0 = a := (congrFun ea145 _).trans ((va_up_ne _ _ (by decide)).trans a138)
  have f151 : w146 0 = .inr (6, [.ref q1, .ref q32, .ref q63, .null, .null, .null, .null, .long 0, .long 0, .int 0, .int 0, .int 0]) := ((congrFun ew147 _).trans ((va_up_ne _ _ (by decide)).trans f142))
  clear a136 a137 f62 f139 a138 f142
  refine r_putF kc8 X hD h hin 0 3 (by decide) a150 f151 (by decide) kw_105 rfl rfl rfl rfl (Nat.le_of_ble_eq_true rfl) dX8_init_58 (fun H locs w152 e153 h => ?_)
  have f154 : w152 0 = .inr (6, [.ref q1, .ref q32, .ref q63, .ref q143, .null, .null, .null, .long 0, .long 0, .int 0, .int 0, .int 0]) := (congrFun e153 _).trans (va_up_self _ _ _)
  refine lv_aload_n hx hb dX8_init_61 rfl (lv_at hl 0 rfl) ?_
  refine r_new kc7 (fs := [.null, .null, .int 0, .int 0, .int 0, .int 0, .int 0]) (n1 := 56) (c1 := 55) (s1 := 767) X hD h kw_324 kw_325 kw_67 (by decide +kernel) rfl rfl rfl (Nat.le_of_ble_eq_true rfl) (Nat.le_of_ble_eq_true rfl) dX8_init_62 (fun q155 ad156 w158 H ea157 ew159 hD h => ?_)
  have a160 : ad156 55 = q155 := (congrFun ea157 _).trans (va_up_self _ _ _)
  have f161 : w158 55 = .inr (5, [.null, .null, .int 0, .int 0, .int 0, .int 0, .int 0]) := (congrFun ew159 _).trans (va_up_self _ _ _)
  refine lv_dup hx hb dX8_init_65 rfl ?_
  refine q_AN (na := 0) (As := []) (rest := [.ref q155, .ref a]) (host := "NoonShade") X hD hN h (c_T_init l G cI cB cZ cO ad156 w158 55 q155 a160 f161) (by decide) kw_326 kw_67 kw_327 rfl ⟨by decide, by decide, by decide⟩ ⟨Nat.le_of_ble_eq_true rfl, Nat.le_of_ble_eq_true rfl⟩ ⟨Nat.le_of_ble_eq_true rfl, Nat.le_of_ble_eq_true rfl⟩ rfl hl.1 rfl (Nat.le_of_ble_eq_true rfl) dX8_init_66 (fun ad162 w163 H locs ho164 hp165 hD h => ?_)
  refine W.widen (k := 57) (n := 920) (Nat.le_refl _) (Nat.le_refl _) ?_
  obtain ⟨f166, f167, f168, hf169⟩ := hp165
  have a170 : ad156 0 = a := (congrFun ea157 _).trans ((va_up_ne _ _ (by decide)).trans a150)
  have a171 : ad162 0 = a := (ho164 _ (by decide)).trans a170
  have f172 : w163 0 = .inr (6, [.ref q1, .ref q32, .ref q63, .ref q143, .null, .null, .null, .long 0, .long 0, .int 0, .int 0, .int 0]) := ((hf169 _ (by decide)).trans ((congrFun ew159 _).trans ((va_up_ne _ _ (by decide)).trans f154)))
  refine r_putF kc8 X hD h hin 0 4 (by decide) a171 f172 (by decide) kw_70 rfl rfl rfl rfl (Nat.le_of_ble_eq_true rfl) dX8_init_69 (fun H locs w173 e174 h => ?_)
  clear f151 f161 a150 a170 f154 f172
  have f175 : w173 0 = .inr (6, [.ref q1, .ref q32, .ref q63, .ref q143, .ref q155, .null, .null, .long 0, .long 0, .int 0, .int 0, .int 0]) := (congrFun e174 _).trans (va_up_self _ _ _)
  refine lv_aload_n hx hb dX8_init_72 rfl (lv_at hl 0 rfl) ?_
  refine r_new kc5 (fs := [.null, .null, .null, .int 0, .int 0, .int 0]) (n1 := 59) (c1 := 58) (s1 := 926) X hD h kw_328 kw_329 kw_330 (by decide +kernel) rfl rfl rfl (Nat.le_of_ble_eq_true rfl) (Nat.le_of_ble_eq_true rfl) dX8_init_73 (fun q176 ad177 w179 H ea178 ew180 hD h => ?_)
  have a181 : ad177 58 = q176 := (congrFun ea178 _).trans (va_up_self _ _ _)
  have f182 : w179 58 = .inr (3, [.null, .null, .null, .int 0, .int 0, .int 0]) := (congrFun ew180 _).trans (va_up_self _ _ _)
  refine lv_dup hx hb dX8_init_76 rfl ?_
  refine q_AN (na := 0) (As := []) (rest := [.ref q176, .ref a]) (host := "NoonShade") X hD hN h (c_L_init l G cI cB cZ cO ad177 w179 58 q176 a181 f182) (by decide) kw_331 kw_330 kw_332 rfl ⟨by decide, by decide, by decide⟩ ⟨Nat.le_of_ble_eq_true rfl, Nat.le_of_ble_eq_true rfl⟩ ⟨Nat.le_of_ble_eq_true rfl, Nat.le_of_ble_eq_true rfl⟩ rfl hl.1 rfl (Nat.le_of_ble_eq_true rfl) dX8_init_77 (fun ad183 w184 H locs ho185 hp186 hD h => ?_)
  refine W.widen (k := 61) (n := 1202) (Nat.le_refl _) (Nat.le_refl _) ?_
  obtain ⟨f187, f188, f189, f190, hf191⟩ := hp186
  have a192 : ad177 0 = a := (congrFun ea178 _).trans ((va_up_ne _ _ (by decide)).trans a171)
  have a193 : ad183 0 = a := (ho185 _ (by decide)).trans a192
  have f194 : w184 0 = .inr (6, [.ref q1, .ref q32, .ref q63, .ref q143, .ref q155, .null, .null, .long 0, .long 0, .int 0, .int 0, .int 0]) := ((hf191 _ (by decide)).trans ((congrFun ew180 _).trans ((va_up_ne _ _ (by decide)).trans f175)))
  refine r_putF kc8 X hD h hin 0 5 (by decide) a193 f194 (by decide) kw_333 rfl rfl rfl rfl (Nat.le_of_ble_eq_true rfl) dX8_init_80 (fun H locs w195 e196 h => ?_)
  have f197 : w195 0 = .inr (6, [.ref q1, .ref q32, .ref q63, .ref q143, .ref q155, .ref q176, .null, .long 0, .long 0, .int 0, .int 0, .int 0]) := (congrFun e196 _).trans (va_up_self _ _ _)
  refine lv_aload_n hx hb dX8_init_83 rfl (lv_at hl 0 rfl) ?_
  refine r_new kc1 (fs := [.null]) (n1 := 63) (c1 := 62) (s1 := 1203) X hD h kw_334 kw_335 kw_336 (by decide +kernel) rfl rfl rfl (Nat.le_of_ble_eq_true rfl) (Nat.le_of_ble_eq_true rfl) dX8_init_84 (fun q198 ad199 w201 H ea200 ew202 hD h => ?_)
  have a203 : ad199 62 = q198 := (congrFun ea200 _).trans (va_up_self _ _ _)
  have f204 : w201 62 = .inr (0, [.null]) := (congrFun ew202 _).trans (va_up_self _ _ _)
  refine lv_dup hx hb dX8_init_87 rfl ?_
  refine q_AN (na := 0) (As := []) (rest := [.ref q198, .ref a]) (host := "NoonShade") X hD hN h (c_G_init l G cI cB cZ cO ad199 w201 62 q198 a203 f204) (by decide) kw_337 kw_336 kw_338 rfl ⟨by decide, by decide, by decide⟩ ⟨Nat.le_of_ble_eq_true rfl, Nat.le_of_ble_eq_true rfl⟩ ⟨Nat.le_of_ble_eq_true rfl, Nat.le_of_ble_eq_true rfl⟩ rfl hl.1 rfl (Nat.le_of_ble_eq_true rfl) dX8_init_88 (fun ad205 w206 H locs ho207 hp208 hD h => ?_)
  clear f182 a171 a192 f175 f194 f204
  refine W.widen (k := 63) (n := 1209) (Nat.le_refl _) (Nat.le_refl _) ?_
  obtain ⟨f209, f210, hf211⟩ := hp208
  have a212 : ad199 0 = a := (congrFun ea200 _).trans ((va_up_ne _ _ (by decide)).trans a193)
  have a213 : ad205 0 = a := (ho207 _ (by decide)).trans a212
  have f214 : w206 0 = .inr (6, [.ref q1, .ref q32, .ref q63, .ref q143, .ref q155, .ref q176, .null, .long 0, .long 0, .int 0, .int 0, .int 0]) := ((hf211 _ (by decide)).trans ((congrFun ew202 _).trans ((va_up_ne _ _ (by decide)).trans f197)))
  refine r_putF kc8 X hD h hin 0 6 (by decide) a213 f214 (by decide) kw_339 rfl rfl rfl rfl (Nat.le_of_ble_eq_true rfl) dX8_init_91 (fun H locs w215 e216 h => ?_)
  have f217 : w215 0 = .inr (6, [.ref q1, .ref q32, .ref q63, .ref q143, .ref q155, .ref q176, .ref q198, .long 0, .long 0, .int 0, .int 0, .int 0]) := (congrFun e216 _).trans (va_up_self _ _ _)
  refine lv_aload_n hx hb dX8_init_94 rfl (lv_at hl 0 rfl) ?_
  refine lv_lconst (v := 0) hx hb dX8_init_95 (by decide) ?_
  refine r_put kc8 X hD h 0 7 (by decide) a213 f217 (by decide) kw_103 rfl rfl rfl (Nat.le_of_ble_eq_true rfl) dX8_init_96 (fun H locs w218 e219 h => ?_)
  have f220 : w218 0 = .inr (6, [.ref q1, .ref q32, .ref q63, .ref q143, .ref q155, .ref q176, .ref q198, .long 0, .long 0, .int 0, .int 0, .int 0]) := (congrFun e219 _).trans (va_up_self _ _ _)
  refine lv_aload_n hx hb dX8_init_99 rfl (lv_at hl 0 rfl) ?_
  refine lv_lconst (v := 1) hx hb dX8_init_100 (by decide) ?_
  refine r_put kc8 X hD h 0 8 (by decide) a213 f220 (by decide) kw_104 rfl rfl rfl (Nat.le_of_ble_eq_true rfl) dX8_init_101 (fun H locs w221 e222 h => ?_)
  clear a193 a212 f197 f214 f217 a213 f220
  have f223 : w221 0 = .inr (6, [.ref q1, .ref q32, .ref q63, .ref q143, .ref q155, .ref q176, .ref q198, .long 0, .long 1, .int 0, .int 0, .int 0]) := (congrFun e222 _).trans (va_up_self _ _ _)
  have a224 : ad8 1 = q1 := (ho10 _ (by decide)).trans a6
  have a225 : ad33 1 = q1 := (congrFun ea34 _).trans ((va_up_ne _ _ (by decide)).trans a224)
  have a226 : ad39 1 = q1 := (ho41 _ (by decide)).trans a225
  have a227 : ad64 1 = q1 := (congrFun ea65 _).trans ((va_up_ne _ _ (by decide)).trans a226)
  have a228 : ad71 1 = q1 := (congrFun ea72 _).trans ((va_up_ne _ _ (by decide)).trans a227)
  have a229 : ad77 1 = q1 := (ho79 _ (by decide)).trans a228
  clear a6 a224 a225 a226 a227 a228
  have a230 : ad103 1 = q1 := (congrFun ea104 _).trans ((va_up_ne _ _ (by decide)).trans a229)
  have a231 : ad109 1 = q1 := (ho111 _ (by decide)).trans a230
  have a232 : ad144 1 = q1 := (congrFun ea145 _).trans ((va_up_ne _ _ (by decide)).trans a231)
  have a233 : ad156 1 = q1 := (congrFun ea157 _).trans ((va_up_ne _ _ (by decide)).trans a232)
  have a234 : ad162 1 = q1 := (ho164 _ (by decide)).trans a233
  have a235 : ad177 1 = q1 := (congrFun ea178 _).trans ((va_up_ne _ _ (by decide)).trans a234)
  clear a229 a230 a231 a232 a233 a234
  have a236 : ad183 1 = q1 := (ho185 _ (by decide)).trans a235
  have a237 : ad199 1 = q1 := (congrFun ea200 _).trans ((va_up_ne _ _ (by decide)).trans a236)
  have a238 : ad205 1 = q1 := (ho207 _ (by decide)).trans a237
  have a239 : ad39 14 = q32 := (ho41 _ (by decide)).trans a37
  have a240 : ad64 14 = q32 := (congrFun ea65 _).trans ((va_up_ne _ _ (by decide)).trans a239)
  have a241 : ad71 14 = q32 := (congrFun ea72 _).trans ((va_up_ne _ _ (by decide)).trans a240)
  clear a235 a236 a237 a37 a239 a240
  have a242 : ad77 14 = q32 := (ho79 _ (by decide)).trans a241
  have a243 : ad103 14 = q32 := (congrFun ea104 _).trans ((va_up_ne _ _ (by decide)).trans a242)
  have a244 : ad109 14 = q32 := (ho111 _ (by decide)).trans a243
  have a245 : ad144 14 = q32 := (congrFun ea145 _).trans ((va_up_ne _ _ (by decide)).trans a244)
  have a246 : ad156 14 = q32 := (congrFun ea157 _).trans ((va_up_ne _ _ (by decide)).trans a245)
  have a247 : ad162 14 = q32 := (ho164 _ (by decide)).trans a246
  clear a241 a242 a243 a244 a245 a246
  have a248 : ad177 14 = q32 := (congrFun ea178 _).trans ((va_up_ne _ _ (by decide)).trans a247)
  have a249 : ad183 14 = q32 := (ho185 _ (by decide)).trans a248
  have a250 : ad199 14 = q32 := (congrFun ea200 _).trans ((va_up_ne _ _ (by decide)).trans a249)
  have a251 : ad205 14 = q32 := (ho207 _ (by decide)).trans a250
  have a252 : ad144 27 = q63 := (congrFun ea145 _).trans ((va_up_ne _ _ (by decide)).trans a128)
  have a253 : ad156 27 = q63 := (congrFun ea157 _).trans ((va_up_ne _ _ (by decide)).trans a252)
  clear a247 a248 a249 a250 a128 a252
  have a254 : ad162 27 = q63 := (ho164 _ (by decide)).trans a253
  have a255 : ad177 27 = q63 := (congrFun ea178 _).trans ((va_up_ne _ _ (by decide)).trans a254)
  have a256 : ad183 27 = q63 := (ho185 _ (by decide)).trans a255
  have a257 : ad199 27 = q63 := (congrFun ea200 _).trans ((va_up_ne _ _ (by decide)).trans a256)
  have a258 : ad205 27 = q63 := (ho207 _ (by decide)).trans a257
  have a259 : ad156 54 = q143 := (congrFun ea157 _).trans ((va_up_ne _ _ (by decide)).trans a148)
  clear a253 a254 a255 a256 a257 a148
  have a260 : ad162 54 = q143 := (ho164 _ (by decide)).trans a259
  have a261 : ad177 54 = q143 := (congrFun ea178 _).trans ((va_up_ne _ _ (by decide)).trans a260)
  have a262 : ad183 54 = q143 := (ho185 _ (by decide)).trans a261
  have a263 : ad199 54 = q143 := (congrFun ea200 _).trans ((va_up_ne _ _ (by decide)).trans a262)
  have a264 : ad205 54 = q143 := (ho207 _ (by decide)).trans a263
  have a265 : ad162 55 = q155 := (ho164 _ (by decide)).trans a160
  clear a259 a260 a261 a262 a263 a160
  have a266 : ad177 55 = q155 := (congrFun ea178 _).trans ((va_up_ne _ _ (by decide)).trans a265)
  have a267 : ad183 55 = q155 := (ho185 _ (by decide)).trans a266
  have a268 : ad199 55 = q155 := (congrFun ea200 _).trans ((va_up_ne _ _ (by decide)).trans a267)
  have a269 : ad205 55 = q155 := (ho207 _ (by decide)).trans a268
  have a270 : ad183 58 = q176 := (ho185 _ (by decide)).trans a181
  have a271 : ad199 58 = q176 := (congrFun ea200 _).trans ((va_up_ne _ _ (by decide)).trans a270)
  clear a265 a266 a267 a268 a181 a270
  have a272 : ad205 58 = q176 := (ho207 _ (by decide)).trans a271
  have a273 : ad205 62 = q198 := (ho207 _ (by decide)).trans a203
  have z274 : w221 0 = .inr (6, [.ref (ad205 1), .ref (ad205 14), .ref (ad205 27), .ref (ad205 54), .ref (ad205 55), .ref (ad205 58), .ref (ad205 62), .long 0, .long 1, .int 0, .int 0, .int 0]) := by rw [a238, a251, a258, a264, a269, a272, a273]; exact f223
  clear a271 a203 f223 a238 a251 a258 a264 a269 a272 a273
  have f275 : w221 1 = .inr (1, [.int 0, .int 0, .int 0, .int 0, .int 0, .ref (ad8 2), .ref (ad8 3), .ref (ad8 4), .ref (ad8 5), .ref (ad8 6), .ref (ad8 7), .ref (ad8 8), .ref (ad8 10), .ref (ad8 12)]) := ((congrFun e222 _).trans ((va_up_ne _ _ (by decide)).trans ((congrFun e219 _).trans ((va_up_ne _ _ (by decide)).trans ((congrFun e216 _).trans ((va_up_ne _ _ (by decide)).trans ((hf211 _ (by decide)).trans ((congrFun ew202 _).trans ((va_up_ne _ _ (by decide)).trans ((congrFun e196 _).trans ((va_up_ne _ _ (by decide)).trans ((hf191 _ (by decide)).trans ((congrFun ew180 _).trans ((va_up_ne _ _ (by decide)).trans ((congrFun e174 _).trans ((va_up_ne _ _ (by decide)).trans ((hf169 _ (by decide)).trans ((congrFun ew159 _).trans ((va_up_ne _ _ (by decide)).trans ((congrFun e153 _).trans ((va_up_ne _ _ (by decide)).trans ((congrFun ew147 _).trans ((va_up_ne _ _ (by decide)).trans ((congrFun e141 _).trans ((va_up_ne _ _ (by decide)).trans ((congrFun e132 _).trans ((va_up_ne _ _ (by decide)).trans ((hf126 _ (by decide)).trans ((congrFun ew106 _).trans ((va_up_ne _ _ (by decide)).trans ((congrFun e100 _).trans ((va_up_ne _ _ (by decide)).trans ((hf94 _ (by decide)).trans ((congrFun ew74 _).trans ((va_up_ne _ _ (by decide)).trans ((congrFun ew67 _).trans ((va_up_ne _ _ (by decide)).trans ((congrFun e61 _).trans ((va_up_ne _ _ (by decide)).trans ((hf56 _ (by decide)).trans ((congrFun ew36 _).trans ((va_up_ne _ _ (by decide)).trans ((congrFun e30 _).trans ((va_up_ne _ _ (by decide)).trans f12))))))))))))))))))))))))))))))))))))))))))))
  have a276 : ad33 2 = (ad8 2) := (congrFun ea34 _).trans ((va_up_ne _ _ (by decide)).trans (rfl : ad8 2 = ad8 2))
  have a277 : ad39 2 = (ad8 2) := (ho41 _ (by decide)).trans a276
  have a278 : ad64 2 = (ad8 2) := (congrFun ea65 _).trans ((va_up_ne _ _ (by decide)).trans a277)
  have a279 : ad71 2 = (ad8 2) := (congrFun ea72 _).trans ((va_up_ne _ _ (by decide)).trans a278)
  have a280 : ad77 2 = (ad8 2) := (ho79 _ (by decide)).trans a279
  have a281 : ad103 2 = (ad8 2) := (congrFun ea104 _).trans ((va_up_ne _ _ (by decide)).trans a280)
  clear f12 a276 a277 a278 a279 a280
  have a282 : ad109 2 = (ad8 2) := (ho111 _ (by decide)).trans a281
  have a283 : ad144 2 = (ad8 2) := (congrFun ea145 _).trans ((va_up_ne _ _ (by decide)).trans a282)
  have a284 : ad156 2 = (ad8 2) := (congrFun ea157 _).trans ((va_up_ne _ _ (by decide)).trans a283)
  have a285 : ad162 2 = (ad8 2) := (ho164 _ (by decide)).trans a284
  have a286 : ad177 2 = (ad8 2) := (congrFun ea178 _).trans ((va_up_ne _ _ (by decide)).trans a285)
  have a287 : ad183 2 = (ad8 2) := (ho185 _ (by decide)).trans a286
  clear a281 a282 a283 a284 a285 a286
  have a288 : ad199 2 = (ad8 2) := (congrFun ea200 _).trans ((va_up_ne _ _ (by decide)).trans a287)
  have a289 : ad205 2 = (ad8 2) := (ho207 _ (by decide)).trans a288
  have a290 : ad33 3 = (ad8 3) := (congrFun ea34 _).trans ((va_up_ne _ _ (by decide)).trans (rfl : ad8 3 = ad8 3))
  have a291 : ad39 3 = (ad8 3) := (ho41 _ (by decide)).trans a290
  have a292 : ad64 3 = (ad8 3) := (congrFun ea65 _).trans ((va_up_ne _ _ (by decide)).trans a291)
  have a293 : ad71 3 = (ad8 3) := (congrFun ea72 _).trans ((va_up_ne _ _ (by decide)).trans a292)
  have a294 : ad77 3 = (ad8 3) := (ho79 _ (by decide)).trans a293
  clear a287 a288 a290 a291 a292 a293
  have a295 : ad103 3 = (ad8 3) := (congrFun ea104 _).trans ((va_up_ne _ _ (by decide)).trans a294)
  have a296 : ad109 3 = (ad8 3) := (ho111 _ (by decide)).trans a295
  have a297 : ad144 3 = (ad8 3) := (congrFun ea145 _).trans ((va_up_ne _ _ (by decide)).trans a296)
  have a298 : ad156 3 = (ad8 3) := (congrFun ea157 _).trans ((va_up_ne _ _ (by decide)).trans a297)
  have a299 : ad162 3 = (ad8 3) := (ho164 _ (by decide)).trans a298
  have a300 : ad177 3 = (ad8 3) := (congrFun ea178 _).trans ((va_up_ne _ _ (by decide)).trans a299)
  clear a294 a295 a296 a297 a298 a299
  have a301 : ad183 3 = (ad8 3) := (ho185 _ (by decide)).trans a300
  have a302 : ad199 3 = (ad8 3) := (congrFun ea200 _).trans ((va_up_ne _ _ (by decide)).trans a301)
  have a303 : ad205 3 = (ad8 3) := (ho207 _ (by decide)).trans a302
  have a304 : ad33 4 = (ad8 4) := (congrFun ea34 _).trans ((va_up_ne _ _ (by decide)).trans (rfl : ad8 4 = ad8 4))
  have a305 : ad39 4 = (ad8 4) := (ho41 _ (by decide)).trans a304
  have a306 : ad64 4 = (ad8 4) := (congrFun ea65 _).trans ((va_up_ne _ _ (by decide)).trans a305)
  have a307 : ad71 4 = (ad8 4) := (congrFun ea72 _).trans ((va_up_ne _ _ (by decide)).trans a306)
  clear a300 a301 a302 a304 a305 a306
  have a308 : ad77 4 = (ad8 4) := (ho79 _ (by decide)).trans a307
  have a309 : ad103 4 = (ad8 4) := (congrFun ea104 _).trans ((va_up_ne _ _ (by decide)).trans a308)
  have a310 : ad109 4 = (ad8 4) := (ho111 _ (by decide)).trans a309
  have a311 : ad144 4 = (ad8 4) := (congrFun ea145 _).trans ((va_up_ne _ _ (by decide)).trans a310)
  have a312 : ad156 4 = (ad8 4) := (congrFun ea157 _).trans ((va_up_ne _ _ (by decide)).trans a311)
  have a313 : ad162 4 = (ad8 4) := (ho164 _ (by decide)).trans a312
  clear a307 a308 a309 a310 a311 a312
  have a314 : ad177 4 = (ad8 4) := (congrFun ea178 _).trans ((va_up_ne _ _ (by decide)).trans a313)
  have a315 : ad183 4 = (ad8 4) := (ho185 _ (by decide)).trans a314
  have a316 : ad199 4 = (ad8 4) := (congrFun ea200 _).trans ((va_up_ne _ _ (by decide)).trans a315)
  have a317 : ad205 4 = (ad8 4) := (ho207 _ (by decide)).trans a316
  have a318 : ad33 5 = (ad8 5) := (congrFun ea34 _).trans ((va_up_ne _ _ (by decide)).trans (rfl : ad8 5 = ad8 5))
  have a319 : ad39 5 = (ad8 5) := (ho41 _ (by decide)).trans a318
  have a320 : ad64 5 = (ad8 5) := (congrFun ea65 _).trans ((va_up_ne _ _ (by decide)).trans a319)
  clear a313 a314 a315 a316 a318 a319
  have a321 : ad71 5 = (ad8 5) := (congrFun ea72 _).trans ((va_up_ne _ _ (by decide)).trans a320)
  have a322 : ad77 5 = (ad8 5) := (ho79 _ (by decide)).trans a321
  have a323 : ad103 5 = (ad8 5) := (congrFun ea104 _).trans ((va_up_ne _ _ (by decide)).trans a322)
  have a324 : ad109 5 = (ad8 5) := (ho111 _ (by decide)).trans a323
  have a325 : ad144 5 = (ad8 5) := (congrFun ea145 _).trans ((va_up_ne _ _ (by decide)).trans a324)
  have a326 : ad156 5 = (ad8 5) := (congrFun ea157 _).trans ((va_up_ne _ _ (by decide)).trans a325)
  clear a320 a321 a322 a323 a324 a325
  have a327 : ad162 5 = (ad8 5) := (ho164 _ (by decide)).trans a326
  have a328 : ad177 5 = (ad8 5) := (congrFun ea178 _).trans ((va_up_ne _ _ (by decide)).trans a327)
  have a329 : ad183 5 = (ad8 5) := (ho185 _ (by decide)).trans a328
  have a330 : ad199 5 = (ad8 5) := (congrFun ea200 _).trans ((va_up_ne _ _ (by decide)).trans a329)
  have a331 : ad205 5 = (ad8 5) := (ho207 _ (by decide)).trans a330
  have a332 : ad33 6 = (ad8 6) := (congrFun ea34 _).trans ((va_up_ne _ _ (by decide)).trans (rfl : ad8 6 = ad8 6))
  have a333 : ad39 6 = (ad8 6) := (ho41 _ (by decide)).trans a332
  clear a326 a327 a328 a329 a330 a332
  have a334 : ad64 6 = (ad8 6) := (congrFun ea65 _).trans ((va_up_ne _ _ (by decide)).trans a333)
  have a335 : ad71 6 = (ad8 6) := (congrFun ea72 _).trans ((va_up_ne _ _ (by decide)).trans a334)
  have a336 : ad77 6 = (ad8 6) := (ho79 _ (by decide)).trans a335
  have a337 : ad103 6 = (ad8 6) := (congrFun ea104 _).trans ((va_up_ne _ _ (by decide)).trans a336)
  have a338 : ad109 6 = (ad8 6) := (ho111 _ (by decide)).trans a337
  have a339 : ad144 6 = (ad8 6) := (congrFun ea145 _).trans ((va_up_ne _ _ (by decide)).trans a338)
  clear a333 a334 a335 a336 a337 a338
  have a340 : ad156 6 = (ad8 6) := (congrFun ea157 _).trans ((va_up_ne _ _ (by decide)).trans a339)
  have a341 : ad162 6 = (ad8 6) := (ho164 _ (by decide)).trans a340
  have a342 : ad177 6 = (ad8 6) := (congrFun ea178 _).trans ((va_up_ne _ _ (by decide)).trans a341)
  have a343 : ad183 6 = (ad8 6) := (ho185 _ (by decide)).trans a342
  have a344 : ad199 6 = (ad8 6) := (congrFun ea200 _).trans ((va_up_ne _ _ (by decide)).trans a343)
  have a345 : ad205 6 = (ad8 6) := (ho207 _ (by decide)).trans a344
  clear a339 a340 a341 a342 a343 a344
  have a346 : ad33 7 = (ad8 7) := (congrFun ea34 _).trans ((va_up_ne _ _ (by decide)).trans (rfl : ad8 7 = ad8 7))
  have a347 : ad39 7 = (ad8 7) := (ho41 _ (by decide)).trans a346
  have a348 : ad64 7 = (ad8 7) := (congrFun ea65 _).trans ((va_up_ne _ _ (by decide)).trans a347)
  have a349 : ad71 7 = (ad8 7) := (congrFun ea72 _).trans ((va_up_ne _ _ (by decide)).trans a348)
  have a350 : ad77 7 = (ad8 7) := (ho79 _ (by decide)).trans a349
  have a351 : ad103 7 = (ad8 7) := (congrFun ea104 _).trans ((va_up_ne _ _ (by decide)).trans a350)
  have a352 : ad109 7 = (ad8 7) := (ho111 _ (by decide)).trans a351
  clear a346 a347 a348 a349 a350 a351
  have a353 : ad144 7 = (ad8 7) := (congrFun ea145 _).trans ((va_up_ne _ _ (by decide)).trans a352)
  have a354 : ad156 7 = (ad8 7) := (congrFun ea157 _).trans ((va_up_ne _ _ (by decide)).trans a353)
  have a355 : ad162 7 = (ad8 7) := (ho164 _ (by decide)).trans a354
  have a356 : ad177 7 = (ad8 7) := (congrFun ea178 _).trans ((va_up_ne _ _ (by decide)).trans a355)
  have a357 : ad183 7 = (ad8 7) := (ho185 _ (by decide)).trans a356
  have a358 : ad199 7 = (ad8 7) := (congrFun ea200 _).trans ((va_up_ne _ _ (by decide)).trans a357)
  clear a352 a353 a354 a355 a356 a357
  have a359 : ad205 7 = (ad8 7) := (ho207 _ (by decide)).trans a358
  have a360 : ad33 8 = (ad8 8) := (congrFun ea34 _).trans ((va_up_ne _ _ (by decide)).trans (rfl : ad8 8 = ad8 8))
  have a361 : ad39 8 = (ad8 8) := (ho41 _ (by decide)).trans a360
  have a362 : ad64 8 = (ad8 8) := (congrFun ea65 _).trans ((va_up_ne _ _ (by decide)).trans a361)
  have a363 : ad71 8 = (ad8 8) := (congrFun ea72 _).trans ((va_up_ne _ _ (by decide)).trans a362)
  have a364 : ad77 8 = (ad8 8) := (ho79 _ (by decide)).trans a363
  have a365 : ad103 8 = (ad8 8) := (congrFun ea104 _).trans ((va_up_ne _ _ (by decide)).trans a364)
  clear a358 a360 a361 a362 a363 a364
  have a366 : ad109 8 = (ad8 8) := (ho111 _ (by decide)).trans a365
  have a367 : ad144 8 = (ad8 8) := (congrFun ea145 _).trans ((va_up_ne _ _ (by decide)).trans a366)
  have a368 : ad156 8 = (ad8 8) := (congrFun ea157 _).trans ((va_up_ne _ _ (by decide)).trans a367)
  have a369 : ad162 8 = (ad8 8) := (ho164 _ (by decide)).trans a368
  have a370 : ad177 8 = (ad8 8) := (congrFun ea178 _).trans ((va_up_ne _ _ (by decide)).trans a369)
  have a371 : ad183 8 = (ad8 8) := (ho185 _ (by decide)).trans a370
  clear a365 a366 a367 a368 a369 a370
  have a372 : ad199 8 = (ad8 8) := (congrFun ea200 _).trans ((va_up_ne _ _ (by decide)).trans a371)
  have a373 : ad205 8 = (ad8 8) := (ho207 _ (by decide)).trans a372
  have a374 : ad33 10 = (ad8 10) := (congrFun ea34 _).trans ((va_up_ne _ _ (by decide)).trans (rfl : ad8 10 = ad8 10))
  have a375 : ad39 10 = (ad8 10) := (ho41 _ (by decide)).trans a374
  have a376 : ad64 10 = (ad8 10) := (congrFun ea65 _).trans ((va_up_ne _ _ (by decide)).trans a375)
  have a377 : ad71 10 = (ad8 10) := (congrFun ea72 _).trans ((va_up_ne _ _ (by decide)).trans a376)
  have a378 : ad77 10 = (ad8 10) := (ho79 _ (by decide)).trans a377
  clear a371 a372 a374 a375 a376 a377
  have a379 : ad103 10 = (ad8 10) := (congrFun ea104 _).trans ((va_up_ne _ _ (by decide)).trans a378)
  have a380 : ad109 10 = (ad8 10) := (ho111 _ (by decide)).trans a379
  have a381 : ad144 10 = (ad8 10) := (congrFun ea145 _).trans ((va_up_ne _ _ (by decide)).trans a380)
  have a382 : ad156 10 = (ad8 10) := (congrFun ea157 _).trans ((va_up_ne _ _ (by decide)).trans a381)
  have a383 : ad162 10 = (ad8 10) := (ho164 _ (by decide)).trans a382
  have a384 : ad177 10 = (ad8 10) := (congrFun ea178 _).trans ((va_up_ne _ _ (by decide)).trans a383)
  clear a378 a379 a380 a381 a382 a383
  have a385 : ad183 10 = (ad8 10) := (ho185 _ (by decide)).trans a384
  have a386 : ad199 10 = (ad8 10) := (congrFun ea200 _).trans ((va_up_ne _ _ (by decide)).trans a385)
  have a387 : ad205 10 = (ad8 10) := (ho207 _ (by decide)).trans a386
  have a388 : ad33 12 = (ad8 12) := (congrFun ea34 _).trans ((va_up_ne _ _ (by decide)).trans (rfl : ad8 12 = ad8 12))
  have a389 : ad39 12 = (ad8 12) := (ho41 _ (by decide)).trans a388
  have a390 : ad64 12 = (ad8 12) := (congrFun ea65 _).trans ((va_up_ne _ _ (by decide)).trans a389)
  have a391 : ad71 12 = (ad8 12) := (congrFun ea72 _).trans ((va_up_ne _ _ (by decide)).trans a390)
  clear a384 a385 a386 a388 a389 a390
  have a392 : ad77 12 = (ad8 12) := (ho79 _ (by decide)).trans a391
  have a393 : ad103 12 = (ad8 12) := (congrFun ea104 _).trans ((va_up_ne _ _ (by decide)).trans a392)
  have a394 : ad109 12 = (ad8 12) := (ho111 _ (by decide)).trans a393
  have a395 : ad144 12 = (ad8 12) := (congrFun ea145 _).trans ((va_up_ne _ _ (by decide)).trans a394)
  have a396 : ad156 12 = (ad8 12) := (congrFun ea157 _).trans ((va_up_ne _ _ (by decide)).trans a395)
  have a397 : ad162 12 = (ad8 12) := (ho164 _ (by decide)).trans a396
  clear a391 a392 a393 a394 a395 a396
  have a398 : ad177 12 = (ad8 12) := (congrFun ea178 _).trans ((va_up_ne _ _ (by decide)).trans a397)
  have a399 : ad183 12 = (ad8 12) := (ho185 _ (by decide)).trans a398
  have a400 : ad199 12 = (ad8 12) := (congrFun ea200 _).trans ((va_up_ne _ _ (by decide)).trans a399)
  have a401 : ad205 12 = (ad8 12) := (ho207 _ (by decide)).trans a400
  have z402 : w221 1 = .inr (1, [.int 0, .int 0, .int 0, .int 0, .int 0, .ref (ad205 2), .ref (ad205 3), .ref (ad205 4), .ref (ad205 5), .ref (ad205 6), .ref (ad205 7), .ref (ad205 8), .ref (ad205 10), .ref (ad205 12)]) := by rw [a289, a303, a317, a331, a345, a359, a373, a387, a401]; exact f275
  clear a397 a398 a399 a400 f275 a289 a303 a317 a331 a345 a359 a373 a387 a401
  have f403 : w221 2 = .inl (cI, 7, .inl (fun _ => 0)) := ((congrFun e222 _).trans ((va_up_ne _ _ (by decide)).trans ((congrFun e219 _).trans ((va_up_ne _ _ (by decide)).trans ((congrFun e216 _).trans ((va_up_ne _ _ (by decide)).trans ((hf211 _ (by decide)).trans ((congrFun ew202 _).trans ((va_up_ne _ _ (by decide)).trans ((congrFun e196 _).trans ((va_up_ne _ _ (by decide)).trans ((hf191 _ (by decide)).trans ((congrFun ew180 _).trans ((va_up_ne _ _ (by decide)).trans ((congrFun e174 _).trans ((va_up_ne _ _ (by decide)).trans ((hf169 _ (by decide)).trans ((congrFun ew159 _).trans ((va_up_ne _ _ (by decide)).trans ((congrFun e153 _).trans ((va_up_ne _ _ (by decide)).trans ((congrFun ew147 _).trans ((va_up_ne _ _ (by decide)).trans ((congrFun e141 _).trans ((va_up_ne _ _ (by decide)).trans ((congrFun e132 _).trans ((va_up_ne _ _ (by decide)).trans ((hf126 _ (by decide)).trans ((congrFun ew106 _).trans ((va_up_ne _ _ (by decide)).trans ((congrFun e100 _).trans ((va_up_ne _ _ (by decide)).trans ((hf94 _ (by decide)).trans ((congrFun ew74 _).trans ((va_up_ne _ _ (by decide)).trans ((congrFun ew67 _).trans ((va_up_ne _ _ (by decide)).trans ((congrFun e61 _).trans ((va_up_ne _ _ (by decide)).trans ((hf56 _ (by decide)).trans ((congrFun ew36 _).trans ((va_up_ne _ _ (by decide)).trans ((congrFun e30 _).trans ((va_up_ne _ _ (by decide)).trans f13))))))))))))))))))))))))))))))))))))))))))))
  have f404 : w221 3 = .inl (cI, 7, .inl (fun _ => 0)) := ((congrFun e222 _).trans ((va_up_ne _ _ (by decide)).trans ((congrFun e219 _).trans ((va_up_ne _ _ (by decide)).trans ((congrFun e216 _).trans ((va_up_ne _ _ (by decide)).trans ((hf211 _ (by decide)).trans ((congrFun ew202 _).trans ((va_up_ne _ _ (by decide)).trans ((congrFun e196 _).trans ((va_up_ne _ _ (by decide)).trans ((hf191 _ (by decide)).trans ((congrFun ew180 _).trans ((va_up_ne _ _ (by decide)).trans ((congrFun e174 _).trans ((va_up_ne _ _ (by decide)).trans ((hf169 _ (by decide)).trans ((congrFun ew159 _).trans ((va_up_ne _ _ (by decide)).trans ((congrFun e153 _).trans ((va_up_ne _ _ (by decide)).trans ((congrFun ew147 _).trans ((va_up_ne _ _ (by decide)).trans ((congrFun e141 _).trans ((va_up_ne _ _ (by decide)).trans ((congrFun e132 _).trans ((va_up_ne _ _ (by decide)).trans ((hf126 _ (by decide)).trans ((congrFun ew106 _).trans ((va_up_ne _ _ (by decide)).trans ((congrFun e100 _).trans ((va_up_ne _ _ (by decide)).trans ((hf94 _ (by decide)).trans ((congrFun ew74 _).trans ((va_up_ne _ _ (by decide)).trans ((congrFun ew67 _).trans ((va_up_ne _ _ (by decide)).trans ((congrFun e61 _).trans ((va_up_ne _ _ (by decide)).trans ((hf56 _ (by decide)).trans ((congrFun ew36 _).trans ((va_up_ne _ _ (by decide)).trans ((congrFun e30 _).trans ((va_up_ne _ _ (by decide)).trans f14))))))))))))))))))))))))))))))))))))))))))))
  have f405 : w221 4 = .inl (cI, 7, .inl (fun _ => 0)) := ((congrFun e222 _).trans ((va_up_ne _ _ (by decide)).trans ((congrFun e219 _).trans ((va_up_ne _ _ (by decide)).trans ((congrFun e216 _).trans ((va_up_ne _ _ (by decide)).trans ((hf211 _ (by decide)).trans ((congrFun ew202 _).trans ((va_up_ne _ _ (by decide)).trans ((congrFun e196 _).trans ((va_up_ne _ _ (by decide)).trans ((hf191 _ (by decide)).trans ((congrFun ew180 _).trans ((va_up_ne _ _ (by decide)).trans ((congrFun e174 _).trans ((va_up_ne _ _ (by decide)).trans ((hf169 _ (by decide)).trans ((congrFun ew159 _).trans ((va_up_ne _ _ (by decide)).trans ((congrFun e153 _).trans ((va_up_ne _ _ (by decide)).trans ((congrFun ew147 _).trans ((va_up_ne _ _ (by decide)).trans ((congrFun e141 _).trans ((va_up_ne _ _ (by decide)).trans ((congrFun e132 _).trans ((va_up_ne _ _ (by decide)).trans ((hf126 _ (by decide)).trans ((congrFun ew106 _).trans ((va_up_ne _ _ (by decide)).trans ((congrFun e100 _).trans ((va_up_ne _ _ (by decide)).trans ((hf94 _ (by decide)).trans ((congrFun ew74 _).trans ((va_up_ne _ _ (by decide)).trans ((congrFun ew67 _).trans ((va_up_ne _ _ (by decide)).trans ((congrFun e61 _).trans ((va_up_ne _ _ (by decide)).trans ((hf56 _ (by decide)).trans ((congrFun ew36 _).trans ((va_up_ne _ _ (by decide)).trans ((congrFun e30 _).trans ((va_up_ne _ _ (by decide)).trans f15))))))))))))))))))))))))))))))))))))))))))))
  have f406 : w221 5 = .inl (cI, 4, .inl (fun _ => 0)) := ((congrFun e222 _).trans ((va_up_ne _ _ (by decide)).trans ((congrFun e219 _).trans ((va_up_ne _ _ (by decide)).trans ((congrFun e216 _).trans ((va_up_ne _ _ (by decide)).trans ((hf211 _ (by decide)).trans ((congrFun ew202 _).trans ((va_up_ne _ _ (by decide)).trans ((congrFun e196 _).trans ((va_up_ne _ _ (by decide)).trans ((hf191 _ (by decide)).trans ((congrFun ew180 _).trans ((va_up_ne _ _ (by decide)).trans ((congrFun e174 _).trans ((va_up_ne _ _ (by decide)).trans ((hf169 _ (by decide)).trans ((congrFun ew159 _).trans ((va_up_ne _ _ (by decide)).trans ((congrFun e153 _).trans ((va_up_ne _ _ (by decide)).trans ((congrFun ew147 _).trans ((va_up_ne _ _ (by decide)).trans ((congrFun e141 _).trans ((va_up_ne _ _ (by decide)).trans ((congrFun e132 _).trans ((va_up_ne _ _ (by decide)).trans ((hf126 _ (by decide)).trans ((congrFun ew106 _).trans ((va_up_ne _ _ (by decide)).trans ((congrFun e100 _).trans ((va_up_ne _ _ (by decide)).trans ((hf94 _ (by decide)).trans ((congrFun ew74 _).trans ((va_up_ne _ _ (by decide)).trans ((congrFun ew67 _).trans ((va_up_ne _ _ (by decide)).trans ((congrFun e61 _).trans ((va_up_ne _ _ (by decide)).trans ((hf56 _ (by decide)).trans ((congrFun ew36 _).trans ((va_up_ne _ _ (by decide)).trans ((congrFun e30 _).trans ((va_up_ne _ _ (by decide)).trans f16))))))))))))))))))))))))))))))))))))))))))))
  have f407 : w221 6 = .inl (cI, 4, .inl (fun _ => 0)) := ((congrFun e222 _).trans ((va_up_ne _ _ (by decide)).trans ((congrFun e219 _).trans ((va_up_ne _ _ (by decide)).trans ((congrFun e216 _).trans ((va_up_ne _ _ (by decide)).trans ((hf211 _ (by decide)).trans ((congrFun ew202 _).trans ((va_up_ne _ _ (by decide)).trans ((congrFun e196 _).trans ((va_up_ne _ _ (by decide)).trans ((hf191 _ (by decide)).trans ((congrFun ew180 _).trans ((va_up_ne _ _ (by decide)).trans ((congrFun e174 _).trans ((va_up_ne _ _ (by decide)).trans ((hf169 _ (by decide)).trans ((congrFun ew159 _).trans ((va_up_ne _ _ (by decide)).trans ((congrFun e153 _).trans ((va_up_ne _ _ (by decide)).trans ((congrFun ew147 _).trans ((va_up_ne _ _ (by decide)).trans ((congrFun e141 _).trans ((va_up_ne _ _ (by decide)).trans ((congrFun e132 _).trans ((va_up_ne _ _ (by decide)).trans ((hf126 _ (by decide)).trans ((congrFun ew106 _).trans ((va_up_ne _ _ (by decide)).trans ((congrFun e100 _).trans ((va_up_ne _ _ (by decide)).trans ((hf94 _ (by decide)).trans ((congrFun ew74 _).trans ((va_up_ne _ _ (by decide)).trans ((congrFun ew67 _).trans ((va_up_ne _ _ (by decide)).trans ((congrFun e61 _).trans ((va_up_ne _ _ (by decide)).trans ((hf56 _ (by decide)).trans ((congrFun ew36 _).trans ((va_up_ne _ _ (by decide)).trans ((congrFun e30 _).trans ((va_up_ne _ _ (by decide)).trans f17))))))))))))))))))))))))))))))))))))))))))))
  have f408 : w221 7 = .inl (cI, 4, .inl (fun _ => 0)) := ((congrFun e222 _).trans ((va_up_ne _ _ (by decide)).trans ((congrFun e219 _).trans ((va_up_ne _ _ (by decide)).trans ((congrFun e216 _).trans ((va_up_ne _ _ (by decide)).trans ((hf211 _ (by decide)).trans ((congrFun ew202 _).trans ((va_up_ne _ _ (by decide)).trans ((congrFun e196 _).trans ((va_up_ne _ _ (by decide)).trans ((hf191 _ (by decide)).trans ((congrFun ew180 _).trans ((va_up_ne _ _ (by decide)).trans ((congrFun e174 _).trans ((va_up_ne _ _ (by decide)).trans ((hf169 _ (by decide)).trans ((congrFun ew159 _).trans ((va_up_ne _ _ (by decide)).trans ((congrFun e153 _).trans ((va_up_ne _ _ (by decide)).trans ((congrFun ew147 _).trans ((va_up_ne _ _ (by decide)).trans ((congrFun e141 _).trans ((va_up_ne _ _ (by decide)).trans ((congrFun e132 _).trans ((va_up_ne _ _ (by decide)).trans ((hf126 _ (by decide)).trans ((congrFun ew106 _).trans ((va_up_ne _ _ (by decide)).trans ((congrFun e100 _).trans ((va_up_ne _ _ (by decide)).trans ((hf94 _ (by decide)).trans ((congrFun ew74 _).trans ((va_up_ne _ _ (by decide)).trans ((congrFun ew67 _).trans ((va_up_ne _ _ (by decide)).trans ((congrFun e61 _).trans ((va_up_ne _ _ (by decide)).trans ((hf56 _ (by decide)).trans ((congrFun ew36 _).trans ((va_up_ne _ _ (by decide)).trans ((congrFun e30 _).trans ((va_up_ne _ _ (by decide)).trans f18))))))))))))))))))))))))))))))))))))))))))))
  clear f13 f14 f15 f16 f17 f18
  have f409 : w221 8 = .inr (4, [.ref (ad8 9), .int 0]) := ((congrFun e222 _).trans ((va_up_ne _ _ (by decide)).trans ((congrFun e219 _).trans ((va_up_ne _ _ (by decide)).trans ((congrFun e216 _).trans ((va_up_ne _ _ (by decide)).trans ((hf211 _ (by decide)).trans ((congrFun ew202 _).trans ((va_up_ne _ _ (by decide)).trans ((congrFun e196 _).trans ((va_up_ne _ _ (by decide)).trans ((hf191 _ (by decide)).trans ((congrFun ew180 _).trans ((va_up_ne _ _ (by decide)).trans ((congrFun e174 _).trans ((va_up_ne _ _ (by decide)).trans ((hf169 _ (by decide)).trans ((congrFun ew159 _).trans ((va_up_ne _ _ (by decide)).trans ((congrFun e153 _).trans ((va_up_ne _ _ (by decide)).trans ((congrFun ew147 _).trans ((va_up_ne _ _ (by decide)).trans ((congrFun e141 _).trans ((va_up_ne _ _ (by decide)).trans ((congrFun e132 _).trans ((va_up_ne _ _ (by decide)).trans ((hf126 _ (by decide)).trans ((congrFun ew106 _).trans ((va_up_ne _ _ (by decide)).trans ((congrFun e100 _).trans ((va_up_ne _ _ (by decide)).trans ((hf94 _ (by decide)).trans ((congrFun ew74 _).trans ((va_up_ne _ _ (by decide)).trans ((congrFun ew67 _).trans ((va_up_ne _ _ (by decide)).trans ((congrFun e61 _).trans ((va_up_ne _ _ (by decide)).trans ((hf56 _ (by decide)).trans ((congrFun ew36 _).trans ((va_up_ne _ _ (by decide)).trans ((congrFun e30 _).trans ((va_up_ne _ _ (by decide)).trans f19))))))))))))))))))))))))))))))))))))))))))))
  have a410 : ad33 9 = (ad8 9) := (congrFun ea34 _).trans ((va_up_ne _ _ (by decide)).trans (rfl : ad8 9 = ad8 9))
  have a411 : ad39 9 = (ad8 9) := (ho41 _ (by decide)).trans a410
  have a412 : ad64 9 = (ad8 9) := (congrFun ea65 _).trans ((va_up_ne _ _ (by decide)).trans a411)
  have a413 : ad71 9 = (ad8 9) := (congrFun ea72 _).trans ((va_up_ne _ _ (by decide)).trans a412)
  have a414 : ad77 9 = (ad8 9) := (ho79 _ (by decide)).trans a413
  have a415 : ad103 9 = (ad8 9) := (congrFun ea104 _).trans ((va_up_ne _ _ (by decide)).trans a414)
  clear f19 a410 a411 a412 a413 a414
  have a416 : ad109 9 = (ad8 9) := (ho111 _ (by decide)).trans a415
  have a417 : ad144 9 = (ad8 9) := (congrFun ea145 _).trans ((va_up_ne _ _ (by decide)).trans a416)
  have a418 : ad156 9 = (ad8 9) := (congrFun ea157 _).trans ((va_up_ne _ _ (by decide)).trans a417)
  have a419 : ad162 9 = (ad8 9) := (ho164 _ (by decide)).trans a418
  have a420 : ad177 9 = (ad8 9) := (congrFun ea178 _).trans ((va_up_ne _ _ (by decide)).trans a419)
  have a421 : ad183 9 = (ad8 9) := (ho185 _ (by decide)).trans a420
  clear a415 a416 a417 a418 a419 a420
  have a422 : ad199 9 = (ad8 9) := (congrFun ea200 _).trans ((va_up_ne _ _ (by decide)).trans a421)
  have a423 : ad205 9 = (ad8 9) := (ho207 _ (by decide)).trans a422
  have z424 : w221 8 = .inr (4, [.ref (ad205 9), .int 0]) := by rw [a423]; exact f409
  have f425 : w221 9 = .inl (cI, 24, .inl (fun _ => 0)) := ((congrFun e222 _).trans ((va_up_ne _ _ (by decide)).trans ((congrFun e219 _).trans ((va_up_ne _ _ (by decide)).trans ((congrFun e216 _).trans ((va_up_ne _ _ (by decide)).trans ((hf211 _ (by decide)).trans ((congrFun ew202 _).trans ((va_up_ne _ _ (by decide)).trans ((congrFun e196 _).trans ((va_up_ne _ _ (by decide)).trans ((hf191 _ (by decide)).trans ((congrFun ew180 _).trans ((va_up_ne _ _ (by decide)).trans ((congrFun e174 _).trans ((va_up_ne _ _ (by decide)).trans ((hf169 _ (by decide)).trans ((congrFun ew159 _).trans ((va_up_ne _ _ (by decide)).trans ((congrFun e153 _).trans ((va_up_ne _ _ (by decide)).trans ((congrFun ew147 _).trans ((va_up_ne _ _ (by decide)).trans ((congrFun e141 _).trans ((va_up_ne _ _ (by decide)).trans ((congrFun e132 _).trans ((va_up_ne _ _ (by decide)).trans ((hf126 _ (by decide)).trans ((congrFun ew106 _).trans ((va_up_ne _ _ (by decide)).trans ((congrFun e100 _).trans ((va_up_ne _ _ (by decide)).trans ((hf94 _ (by decide)).trans ((congrFun ew74 _).trans ((va_up_ne _ _ (by decide)).trans ((congrFun ew67 _).trans ((va_up_ne _ _ (by decide)).trans ((congrFun e61 _).trans ((va_up_ne _ _ (by decide)).trans ((hf56 _ (by decide)).trans ((congrFun ew36 _).trans ((va_up_ne _ _ (by decide)).trans ((congrFun e30 _).trans ((va_up_ne _ _ (by decide)).trans f20))))))))))))))))))))))))))))))))))))))))))))
  have f426 : w221 10 = .inr (4, [.ref (ad8 11), .int 0]) := ((congrFun e222 _).trans ((va_up_ne _ _ (by decide)).trans ((congrFun e219 _).trans ((va_up_ne _ _ (by decide)).trans ((congrFun e216 _).trans ((va_up_ne _ _ (by decide)).trans ((hf211 _ (by decide)).trans ((congrFun ew202 _).trans ((va_up_ne _ _ (by decide)).trans ((congrFun e196 _).trans ((va_up_ne _ _ (by decide)).trans ((hf191 _ (by decide)).trans ((congrFun ew180 _).trans ((va_up_ne _ _ (by decide)).trans ((congrFun e174 _).trans ((va_up_ne _ _ (by decide)).trans ((hf169 _ (by decide)).trans ((congrFun ew159 _).trans ((va_up_ne _ _ (by decide)).trans ((congrFun e153 _).trans ((va_up_ne _ _ (by decide)).trans ((congrFun ew147 _).trans ((va_up_ne _ _ (by decide)).trans ((congrFun e141 _).trans ((va_up_ne _ _ (by decide)).trans ((congrFun e132 _).trans ((va_up_ne _ _ (by decide)).trans ((hf126 _ (by decide)).trans ((congrFun ew106 _).trans ((va_up_ne _ _ (by decide)).trans ((congrFun e100 _).trans ((va_up_ne _ _ (by decide)).trans ((hf94 _ (by decide)).trans ((congrFun ew74 _).trans ((va_up_ne _ _ (by decide)).trans ((congrFun ew67 _).trans ((va_up_ne _ _ (by decide)).trans ((congrFun e61 _).trans ((va_up_ne _ _ (by decide)).trans ((hf56 _ (by decide)).trans ((congrFun ew36 _).trans ((va_up_ne _ _ (by decide)).trans ((congrFun e30 _).trans ((va_up_ne _ _ (by decide)).trans f21))))))))))))))))))))))))))))))))))))))))))))
  clear a421 a422 f409 a423 f20 f21
  have a427 : ad33 11 = (ad8 11) := (congrFun ea34 _).trans ((va_up_ne _ _ (by decide)).trans (rfl : ad8 11 = ad8 11))
  have a428 : ad39 11 = (ad8 11) := (ho41 _ (by decide)).trans a427
  have a429 : ad64 11 = (ad8 11) := (congrFun ea65 _).trans ((va_up_ne _ _ (by decide)).trans a428)
  have a430 : ad71 11 = (ad8 11) := (congrFun ea72 _).trans ((va_up_ne _ _ (by decide)).trans a429)
  have a431 : ad77 11 = (ad8 11) := (ho79 _ (by decide)).trans a430
  have a432 : ad103 11 = (ad8 11) := (congrFun ea104 _).trans ((va_up_ne _ _ (by decide)).trans a431)
  have a433 : ad109 11 = (ad8 11) := (ho111 _ (by decide)).trans a432
  clear a427 a428 a429 a430 a431 a432
  have a434 : ad144 11 = (ad8 11) := (congrFun ea145 _).trans ((va_up_ne _ _ (by decide)).trans a433)
  have a435 : ad156 11 = (ad8 11) := (congrFun ea157 _).trans ((va_up_ne _ _ (by decide)).trans a434)
  have a436 : ad162 11 = (ad8 11) := (ho164 _ (by decide)).trans a435
  have a437 : ad177 11 = (ad8 11) := (congrFun ea178 _).trans ((va_up_ne _ _ (by decide)).trans a436)
  have a438 : ad183 11 = (ad8 11) := (ho185 _ (by decide)).trans a437
  have a439 : ad199 11 = (ad8 11) := (congrFun ea200 _).trans ((va_up_ne _ _ (by decide)).trans a438)
  clear a433 a434 a435 a436 a437 a438
  have a440 : ad205 11 = (ad8 11) := (ho207 _ (by decide)).trans a439
  have z441 : w221 10 = .inr (4, [.ref (ad205 11), .int 0]) := by rw [a440]; exact f426
  have f442 : w221 11 = .inl (cI, 24, .inl (fun _ => 0)) := ((congrFun e222 _).trans ((va_up_ne _ _ (by decide)).trans ((congrFun e219 _).trans ((va_up_ne _ _ (by decide)).trans ((congrFun e216 _).trans ((va_up_ne _ _ (by decide)).trans ((hf211 _ (by decide)).trans ((congrFun ew202 _).trans ((va_up_ne _ _ (by decide)).trans ((congrFun e196 _).trans ((va_up_ne _ _ (by decide)).trans ((hf191 _ (by decide)).trans ((congrFun ew180 _).trans ((va_up_ne _ _ (by decide)).trans ((congrFun e174 _).trans ((va_up_ne _ _ (by decide)).trans ((hf169 _ (by decide)).trans ((congrFun ew159 _).trans ((va_up_ne _ _ (by decide)).trans ((congrFun e153 _).trans ((va_up_ne _ _ (by decide)).trans ((congrFun ew147 _).trans ((va_up_ne _ _ (by decide)).trans ((congrFun e141 _).trans ((va_up_ne _ _ (by decide)).trans ((congrFun e132 _).trans ((va_up_ne _ _ (by decide)).trans ((hf126 _ (by decide)).trans ((congrFun ew106 _).trans ((va_up_ne _ _ (by decide)).trans ((congrFun e100 _).trans ((va_up_ne _ _ (by decide)).trans ((hf94 _ (by decide)).trans ((congrFun ew74 _).trans ((va_up_ne _ _ (by decide)).trans ((congrFun ew67 _).trans ((va_up_ne _ _ (by decide)).trans ((congrFun e61 _).trans ((va_up_ne _ _ (by decide)).trans ((hf56 _ (by decide)).trans ((congrFun ew36 _).trans ((va_up_ne _ _ (by decide)).trans ((congrFun e30 _).trans ((va_up_ne _ _ (by decide)).trans f22))))))))))))))))))))))))))))))))))))))))))))
  have f443 : w221 12 = .inr (2, [.ref (ad8 13), .int 0]) := ((congrFun e222 _).trans ((va_up_ne _ _ (by decide)).trans ((congrFun e219 _).trans ((va_up_ne _ _ (by decide)).trans ((congrFun e216 _).trans ((va_up_ne _ _ (by decide)).trans ((hf211 _ (by decide)).trans ((congrFun ew202 _).trans ((va_up_ne _ _ (by decide)).trans ((congrFun e196 _).trans ((va_up_ne _ _ (by decide)).trans ((hf191 _ (by decide)).trans ((congrFun ew180 _).trans ((va_up_ne _ _ (by decide)).trans ((congrFun e174 _).trans ((va_up_ne _ _ (by decide)).trans ((hf169 _ (by decide)).trans ((congrFun ew159 _).trans ((va_up_ne _ _ (by decide)).trans ((congrFun e153 _).trans ((va_up_ne _ _ (by decide)).trans ((congrFun ew147 _).trans ((va_up_ne _ _ (by decide)).trans ((congrFun e141 _).trans ((va_up_ne _ _ (by decide)).trans ((congrFun e132 _).trans ((va_up_ne _ _ (by decide)).trans ((hf126 _ (by decide)).trans ((congrFun ew106 _).trans ((va_up_ne _ _ (by decide)).trans ((congrFun e100 _).trans ((va_up_ne _ _ (by decide)).trans ((hf94 _ (by decide)).trans ((congrFun ew74 _).trans ((va_up_ne _ _ (by decide)).trans ((congrFun ew67 _).trans ((va_up_ne _ _ (by decide)).trans ((congrFun e61 _).trans ((va_up_ne _ _ (by decide)).trans ((hf56 _ (by decide)).trans ((congrFun ew36 _).trans ((va_up_ne _ _ (by decide)).trans ((congrFun e30 _).trans ((va_up_ne _ _ (by decide)).trans f23))))))))))))))))))))))))))))))))))))))))))))
  have a444 : ad33 13 = (ad8 13) := (congrFun ea34 _).trans ((va_up_ne _ _ (by decide)).trans (rfl : ad8 13 = ad8 13))
  have a445 : ad39 13 = (ad8 13) := (ho41 _ (by decide)).trans a444
  clear a439 f426 a440 f22 f23 a444
  have a446 : ad64 13 = (ad8 13) := (congrFun ea65 _).trans ((va_up_ne _ _ (by decide)).trans a445)
  have a447 : ad71 13 = (ad8 13) := (congrFun ea72 _).trans ((va_up_ne _ _ (by decide)).trans a446)
  have a448 : ad77 13 = (ad8 13) := (ho79 _ (by decide)).trans a447
  have a449 : ad103 13 = (ad8 13) := (congrFun ea104 _).trans ((va_up_ne _ _ (by decide)).trans a448)
  have a450 : ad109 13 = (ad8 13) := (ho111 _ (by decide)).trans a449
  have a451 : ad144 13 = (ad8 13) := (congrFun ea145 _).trans ((va_up_ne _ _ (by decide)).trans a450)
  clear a445 a446 a447 a448 a449 a450
  have a452 : ad156 13 = (ad8 13) := (congrFun ea157 _).trans ((va_up_ne _ _ (by decide)).trans a451)
  have a453 : ad162 13 = (ad8 13) := (ho164 _ (by decide)).trans a452
  have a454 : ad177 13 = (ad8 13) := (congrFun ea178 _).trans ((va_up_ne _ _ (by decide)).trans a453)
  have a455 : ad183 13 = (ad8 13) := (ho185 _ (by decide)).trans a454
  have a456 : ad199 13 = (ad8 13) := (congrFun ea200 _).trans ((va_up_ne _ _ (by decide)).trans a455)
  have a457 : ad205 13 = (ad8 13) := (ho207 _ (by decide)).trans a456
  clear a451 a452 a453 a454 a455 a456
  have z458 : w221 12 = .inr (2, [.ref (ad205 13), .int 0]) := by rw [a457]; exact f443
  have f459 : w221 13 = .inl (cI, 88, .inl (fun _ => 0)) := ((congrFun e222 _).trans ((va_up_ne _ _ (by decide)).trans ((congrFun e219 _).trans ((va_up_ne _ _ (by decide)).trans ((congrFun e216 _).trans ((va_up_ne _ _ (by decide)).trans ((hf211 _ (by decide)).trans ((congrFun ew202 _).trans ((va_up_ne _ _ (by decide)).trans ((congrFun e196 _).trans ((va_up_ne _ _ (by decide)).trans ((hf191 _ (by decide)).trans ((congrFun ew180 _).trans ((va_up_ne _ _ (by decide)).trans ((congrFun e174 _).trans ((va_up_ne _ _ (by decide)).trans ((hf169 _ (by decide)).trans ((congrFun ew159 _).trans ((va_up_ne _ _ (by decide)).trans ((congrFun e153 _).trans ((va_up_ne _ _ (by decide)).trans ((congrFun ew147 _).trans ((va_up_ne _ _ (by decide)).trans ((congrFun e141 _).trans ((va_up_ne _ _ (by decide)).trans ((congrFun e132 _).trans ((va_up_ne _ _ (by decide)).trans ((hf126 _ (by decide)).trans ((congrFun ew106 _).trans ((va_up_ne _ _ (by decide)).trans ((congrFun e100 _).trans ((va_up_ne _ _ (by decide)).trans ((hf94 _ (by decide)).trans ((congrFun ew74 _).trans ((va_up_ne _ _ (by decide)).trans ((congrFun ew67 _).trans ((va_up_ne _ _ (by decide)).trans ((congrFun e61 _).trans ((va_up_ne _ _ (by decide)).trans ((hf56 _ (by decide)).trans ((congrFun ew36 _).trans ((va_up_ne _ _ (by decide)).trans ((congrFun e30 _).trans ((va_up_ne _ _ (by decide)).trans f24))))))))))))))))))))))))))))))))))))))))))))
  have f460 : w221 14 = .inr (1, [.int 0, .int 0, .int 0, .int 0, .int 0, .ref (ad39 15), .ref (ad39 16), .ref (ad39 17), .ref (ad39 18), .ref (ad39 19), .ref (ad39 20), .ref (ad39 21), .ref (ad39 23), .ref (ad39 25)]) := ((congrFun e222 _).trans ((va_up_ne _ _ (by decide)).trans ((congrFun e219 _).trans ((va_up_ne _ _ (by decide)).trans ((congrFun e216 _).trans ((va_up_ne _ _ (by decide)).trans ((hf211 _ (by decide)).trans ((congrFun ew202 _).trans ((va_up_ne _ _ (by decide)).trans ((congrFun e196 _).trans ((va_up_ne _ _ (by decide)).trans ((hf191 _ (by decide)).trans ((congrFun ew180 _).trans ((va_up_ne _ _ (by decide)).trans ((congrFun e174 _).trans ((va_up_ne _ _ (by decide)).trans ((hf169 _ (by decide)).trans ((congrFun ew159 _).trans ((va_up_ne _ _ (by decide)).trans ((congrFun e153 _).trans ((va_up_ne _ _ (by decide)).trans ((congrFun ew147 _).trans ((va_up_ne _ _ (by decide)).trans ((congrFun e141 _).trans ((va_up_ne _ _ (by decide)).trans ((congrFun e132 _).trans ((va_up_ne _ _ (by decide)).trans ((hf126 _ (by decide)).trans ((congrFun ew106 _).trans ((va_up_ne _ _ (by decide)).trans ((congrFun e100 _).trans ((va_up_ne _ _ (by decide)).trans ((hf94 _ (by decide)).trans ((congrFun ew74 _).trans ((va_up_ne _ _ (by decide)).trans ((congrFun ew67 _).trans ((va_up_ne _ _ (by decide)).trans ((congrFun e61 _).trans ((va_up_ne _ _ (by decide)).trans f43)))))))))))))))))))))))))))))))))))))))
  have a461 : ad64 15 = (ad39 15) := (congrFun ea65 _).trans ((va_up_ne _ _ (by decide)).trans (rfl : ad39 15 = ad39 15))
  have a462 : ad71 15 = (ad39 15) := (congrFun ea72 _).trans ((va_up_ne _ _ (by decide)).trans a461)
  clear f443 a457 f24 hf56 f43 a461
  have a463 : ad77 15 = (ad39 15) := (ho79 _ (by decide)).trans a462
  have a464 : ad103 15 = (ad39 15) := (congrFun ea104 _).trans ((va_up_ne _ _ (by decide)).trans a463)
  have a465 : ad109 15 = (ad39 15) := (ho111 _ (by decide)).trans a464
  have a466 : ad144 15 = (ad39 15) := (congrFun ea145 _).trans ((va_up_ne _ _ (by decide)).trans a465)
  have a467 : ad156 15 = (ad39 15) := (congrFun ea157 _).trans ((va_up_ne _ _ (by decide)).trans a466)
  have a468 : ad162 15 = (ad39 15) := (ho164 _ (by decide)).trans a467
  clear a462 a463 a464 a465 a466 a467
  have a469 : ad177 15 = (ad39 15) := (congrFun ea178 _).trans ((va_up_ne _ _ (by decide)).trans a468)
  have a470 : ad183 15 = (ad39 15) := (ho185 _ (by decide)).trans a469
  have a471 : ad199 15 = (ad39 15) := (congrFun ea200 _).trans ((va_up_ne _ _ (by decide)).trans a470)
  have a472 : ad205 15 = (ad39 15) := (ho207 _ (by decide)).trans a471
  have a473 : ad64 16 = (ad39 16) := (congrFun ea65 _).trans ((va_up_ne _ _ (by decide)).trans (rfl : ad39 16 = ad39 16))
  have a474 : ad71 16 = (ad39 16) := (congrFun ea72 _).trans ((va_up_ne _ _ (by decide)).trans a473)
  have a475 : ad77 16 = (ad39 16) := (ho79 _ (by decide)).trans a474
  clear a468 a469 a470 a471 a473 a474
  have a476 : ad103 16 = (ad39 16) := (congrFun ea104 _).trans ((va_up_ne _ _ (by decide)).trans a475)
  have a477 : ad109 16 = (ad39 16) := (ho111 _ (by decide)).trans a476
  have a478 : ad144 16 = (ad39 16) := (congrFun ea145 _).trans ((va_up_ne _ _ (by decide)).trans a477)
  have a479 : ad156 16 = (ad39 16) := (congrFun ea157 _).trans ((va_up_ne _ _ (by decide)).trans a478)
  have a480 : ad162 16 = (ad39 16) := (ho164 _ (by decide)).trans a479
  have a481 : ad177 16 = (ad39 16) := (congrFun ea178 _).trans ((va_up_ne _ _ (by decide)).trans a480)
  clear a475 a476 a477 a478 a479 a480
  have a482 : ad183 16 = (ad39 16) := (ho185 _ (by decide)).trans a481
  have a483 : ad199 16 = (ad39 16) := (congrFun ea200 _).trans ((va_up_ne _ _ (by decide)).trans a482)
  have a484 : ad205 16 = (ad39 16) := (ho207 _ (by decide)).trans a483
  have a485 : ad64 17 = (ad39 17) := (congrFun ea65 _).trans ((va_up_ne _ _ (by decide)).trans (rfl : ad39 17 = ad39 17))
  have a486 : ad71 17 = (ad39 17) := (congrFun ea72 _).trans ((va_up_ne _ _ (by decide)).trans a485)
  have a487 : ad77 17 = (ad39 17) := (ho79 _ (by decide)).trans a486
  have a488 : ad103 17 = (ad39 17) := (congrFun ea104 _).trans ((va_up_ne _ _ (by decide)).trans a487)
  clear a481 a482 a483 a485 a486 a487
  have a489 : ad109 17 = (ad39 17) := (ho111 _ (by decide)).trans a488
  have a490 : ad144 17 = (ad39 17) := (congrFun ea145 _).trans ((va_up_ne _ _ (by decide)).trans a489)
  have a491 : ad156 17 = (ad39 17) := (congrFun ea157 _).trans ((va_up_ne _ _ (by decide)).trans a490)
  have a492 : ad162 17 = (ad39 17) := (ho164 _ (by decide)).trans a491
  have a493 : ad177 17 = (ad39 17) := (congrFun ea178 _).trans ((va_up_ne _ _ (by decide)).trans a492)
  have a494 : ad183 17 = (ad39 17) := (ho185 _ (by decide)).trans a493
  clear a488 a489 a490 a491 a492 a493
  have a495 : ad199 17 = (ad39 17) := (congrFun ea200 _).trans ((va_up_ne _ _ (by decide)).trans a494)
  have a496 : ad205 17 = (ad39 17) := (ho207 _ (by decide)).trans a495
  have a497 : ad64 18 = (ad39 18) := (congrFun ea65 _).trans ((va_up_ne _ _ (by decide)).trans (rfl : ad39 18 = ad39 18))
  have a498 : ad71 18 = (ad39 18) := (congrFun ea72 _).trans ((va_up_ne _ _ (by decide)).trans a497)
  have a499 : ad77 18 = (ad39 18) := (ho79 _ (by decide)).trans a498
  have a500 : ad103 18 = (ad39 18) := (congrFun ea104 _).trans ((va_up_ne _ _ (by decide)).trans a499)
  have a501 : ad109 18 = (ad39 18) := (ho111 _ (by decide)).trans a500
  clear a494 a495 a497 a498 a499 a500
  have a502 : ad144 18 = (ad39 18) := (congrFun ea145 _).trans ((va_up_ne _ _ (by decide)).trans a501)
  have a503 : ad156 18 = (ad39 18) := (congrFun ea157 _).trans ((va_up_ne _ _ (by decide)).trans a502)
  have a504 : ad162 18 = (ad39 18) := (ho164 _ (by decide)).trans a503
  have a505 : ad177 18 = (ad39 18) := (congrFun ea178 _).trans ((va_up_ne _ _ (by decide)).trans a504)
  have a506 : ad183 18 = (ad39 18) := (ho185 _ (by decide)).trans a505
  have a507 : ad199 18 = (ad39 18) := (congrFun ea200 _).trans ((va_up_ne _ _ (by decide)).trans a506)
  clear a501 a502 a503 a504 a505 a506
  have a508 : ad205 18 = (ad39 18) := (ho207 _ (by decide)).trans a507
  have a509 : ad64 19 = (ad39 19) := (congrFun ea65 _).trans ((va_up_ne _ _ (by decide)).trans (rfl : ad39 19 = ad39 19))
  have a510 : ad71 19 = (ad39 19) := (congrFun ea72 _).trans ((va_up_ne _ _ (by decide)).trans a509)
  have a511 : ad77 19 = (ad39 19) := (ho79 _ (by decide)).trans a510
  have a512 : ad103 19 = (ad39 19) := (congrFun ea104 _).trans ((va_up_ne _ _ (by decide)).trans a511)
  have a513 : ad109 19 = (ad39 19) := (ho111 _ (by decide)).trans a512
  have a514 : ad144 19 = (ad39 19) := (congrFun ea145 _).trans ((va_up_ne _ _ (by decide)).trans a513)
  clear a507 a509 a510 a511 a512 a513
  have a515 : ad156 19 = (ad39 19) := (congrFun ea157 _).trans ((va_up_ne _ _ (by decide)).trans a514)
  have a516 : ad162 19 = (ad39 19) := (ho164 _ (by decide)).trans a515
  have a517 : ad177 19 = (ad39 19) := (congrFun ea178 _).trans ((va_up_ne _ _ (by decide)).trans a516)
  have a518 : ad183 19 = (ad39 19) := (ho185 _ (by decide)).trans a517
  have a519 : ad199 19 = (ad39 19) := (congrFun ea200 _).trans ((va_up_ne _ _ (by decide)).trans a518)
  have a520 : ad205 19 = (ad39 19) := (ho207 _ (by decide)).trans a519
  clear a514 a515 a516 a517 a518 a519
  have a521 : ad64 20 = (ad39 20) := (congrFun ea65 _).trans ((va_up_ne _ _ (by decide)).trans (rfl : ad39 20 = ad39 20))
  have a522 : ad71 20 = (ad39 20) := (congrFun ea72 _).trans ((va_up_ne _ _ (by decide)).trans a521)
  have a523 : ad77 20 = (ad39 20) := (ho79 _ (by decide)).trans a522
  have a524 : ad103 20 = (ad39 20) := (congrFun ea104 _).trans ((va_up_ne _ _ (by decide)).trans a523)
  have a525 : ad109 20 = (ad39 20) := (ho111 _ (by decide)).trans a524
  have a526 : ad144 20 = (ad39 20) := (congrFun ea145 _).trans ((va_up_ne _ _ (by decide)).trans a525)
  have a527 : ad156 20 = (ad39 20) := (congrFun ea157 _).trans ((va_up_ne _ _ (by decide)).trans a526)
  clear a521 a522 a523 a524 a525 a526
  have a528 : ad162 20 = (ad39 20) := (ho164 _ (by decide)).trans a527
  have a529 : ad177 20 = (ad39 20) := (congrFun ea178 _).trans ((va_up_ne _ _ (by decide)).trans a528)
  have a530 : ad183 20 = (ad39 20) := (ho185 _ (by decide)).trans a529
  have a531 : ad199 20 = (ad39 20) := (congrFun ea200 _).trans ((va_up_ne _ _ (by decide)).trans a530)
  have a532 : ad205 20 = (ad39 20) := (ho207 _ (by decide)).trans a531
  have a533 : ad64 21 = (ad39 21) := (congrFun ea65 _).trans ((va_up_ne _ _ (by decide)).trans (rfl : ad39 21 = ad39 21))
  have a534 : ad71 21 = (ad39 21) := (congrFun ea72 _).trans ((va_up_ne _ _ (by decide)).trans a533)
  clear a527 a528 a529 a530 a531 a533
  have a535 : ad77 21 = (ad39 21) := (ho79 _ (by decide)).trans a534
  have a536 : ad103 21 = (ad39 21) := (congrFun ea104 _).trans ((va_up_ne _ _ (by decide)).trans a535)
  have a537 : ad109 21 = (ad39 21) := (ho111 _ (by decide)).trans a536
  have a538 : ad144 21 = (ad39 21) := (congrFun ea145 _).trans ((va_up_ne _ _ (by decide)).trans a537)
  have a539 : ad156 21 = (ad39 21) := (congrFun ea157 _).trans ((va_up_ne _ _ (by decide)).trans a538)
  have a540 : ad162 21 = (ad39 21) := (ho164 _ (by decide)).trans a539
  clear a534 a535 a536 a537 a538 a539
  have a541 : ad177 21 = (ad39 21) := (congrFun ea178 _).trans ((va_up_ne _ _ (by decide)).trans a540)
  have a542 : ad183 21 = (ad39 21) := (ho185 _ (by decide)).trans a541
  have a543 : ad199 21 = (ad39 21) := (congrFun ea200 _).trans ((va_up_ne _ _ (by decide)).trans a542)
  have a544 : ad205 21 = (ad39 21) := (ho207 _ (by decide)).trans a543
  have a545 : ad64 23 = (ad39 23) := (congrFun ea65 _).trans ((va_up_ne _ _ (by decide)).trans (rfl : ad39 23 = ad39 23))
  have a546 : ad71 23 = (ad39 23) := (congrFun ea72 _).trans ((va_up_ne _ _ (by decide)).trans a545)
  have a547 : ad77 23 = (ad39 23) := (ho79 _ (by decide)).trans a546
  clear a540 a541 a542 a543 a545 a546
  have a548 : ad103 23 = (ad39 23) := (congrFun ea104 _).trans ((va_up_ne _ _ (by decide)).trans a547)
  have a549 : ad109 23 = (ad39 23) := (ho111 _ (by decide)).trans a548
  have a550 : ad144 23 = (ad39 23) := (congrFun ea145 _).trans ((va_up_ne _ _ (by decide)).trans a549)
  have a551 : ad156 23 = (ad39 23) := (congrFun ea157 _).trans ((va_up_ne _ _ (by decide)).trans a550)
  have a552 : ad162 23 = (ad39 23) := (ho164 _ (by decide)).trans a551
  have a553 : ad177 23 = (ad39 23) := (congrFun ea178 _).trans ((va_up_ne _ _ (by decide)).trans a552)
  clear a547 a548 a549 a550 a551 a552
  have a554 : ad183 23 = (ad39 23) := (ho185 _ (by decide)).trans a553
  have a555 : ad199 23 = (ad39 23) := (congrFun ea200 _).trans ((va_up_ne _ _ (by decide)).trans a554)
  have a556 : ad205 23 = (ad39 23) := (ho207 _ (by decide)).trans a555
  have a557 : ad64 25 = (ad39 25) := (congrFun ea65 _).trans ((va_up_ne _ _ (by decide)).trans (rfl : ad39 25 = ad39 25))
  have a558 : ad71 25 = (ad39 25) := (congrFun ea72 _).trans ((va_up_ne _ _ (by decide)).trans a557)
  have a559 : ad77 25 = (ad39 25) := (ho79 _ (by decide)).trans a558
  have a560 : ad103 25 = (ad39 25) := (congrFun ea104 _).trans ((va_up_ne _ _ (by decide)).trans a559)
  clear a553 a554 a555 a557 a558 a559
  have a561 : ad109 25 = (ad39 25) := (ho111 _ (by decide)).trans a560
  have a562 : ad144 25 = (ad39 25) := (congrFun ea145 _).trans ((va_up_ne _ _ (by decide)).trans a561)
  have a563 : ad156 25 = (ad39 25) := (congrFun ea157 _).trans ((va_up_ne _ _ (by decide)).trans a562)
  have a564 : ad162 25 = (ad39 25) := (ho164 _ (by decide)).trans a563
  have a565 : ad177 25 = (ad39 25) := (congrFun ea178 _).trans ((va_up_ne _ _ (by decide)).trans a564)
  have a566 : ad183 25 = (ad39 25) := (ho185 _ (by decide)).trans a565
  clear a560 a561 a562 a563 a564 a565
  have a567 : ad199 25 = (ad39 25) := (congrFun ea200 _).trans ((va_up_ne _ _ (by decide)).trans a566)
  have a568 : ad205 25 = (ad39 25) := (ho207 _ (by decide)).trans a567
  have z569 : w221 14 = .inr (1, [.int 0, .int 0, .int 0, .int 0, .int 0, .ref (ad205 15), .ref (ad205 16), .ref (ad205 17), .ref (ad205 18), .ref (ad205 19), .ref (ad205 20), .ref (ad205 21), .ref (ad205 23), .ref (ad205 25)]) := by rw [a472, a484, a496, a508, a520, a532, a544, a556, a568]; exact f460
  clear a566 a567 f460 a472 a484 a496 a508 a520 a532 a544 a556 a568
  have f570 : w221 15 = .inl (cI, 7, .inl (fun _ => 0)) := ((congrFun e222 _).trans ((va_up_ne _ _ (by decide)).trans ((congrFun e219 _).trans ((va_up_ne _ _ (by decide)).trans ((congrFun e216 _).trans ((va_up_ne _ _ (by decide)).trans ((hf211 _ (by decide)).trans ((congrFun ew202 _).trans ((va_up_ne _ _ (by decide)).trans ((congrFun e196 _).trans ((va_up_ne _ _ (by decide)).trans ((hf191 _ (by decide)).trans ((congrFun ew180 _).trans ((va_up_ne _ _ (by decide)).trans ((congrFun e174 _).trans ((va_up_ne _ _ (by decide)).trans ((hf169 _ (by decide)).trans ((congrFun ew159 _).trans ((va_up_ne _ _ (by decide)).trans ((congrFun e153 _).trans ((va_up_ne _ _ (by decide)).trans ((congrFun ew147 _).trans ((va_up_ne _ _ (by decide)).trans ((congrFun e141 _).trans ((va_up_ne _ _ (by decide)).trans ((congrFun e132 _).trans ((va_up_ne _ _ (by decide)).trans ((hf126 _ (by decide)).trans ((congrFun ew106 _).trans ((va_up_ne _ _ (by decide)).trans ((congrFun e100 _).trans ((va_up_ne _ _ (by decide)).trans ((hf94 _ (by decide)).trans ((congrFun ew74 _).trans ((va_up_ne _ _ (by decide)).trans ((congrFun ew67 _).trans ((va_up_ne _ _ (by decide)).trans ((congrFun e61 _).trans ((va_up_ne _ _ (by decide)).trans f44)))))))))))))))))))))))))))))))))))))))
  have f571 : w221 16 = .inl (cI, 7, .inl (fun _ => 0)) := ((congrFun e222 _).trans ((va_up_ne _ _ (by decide)).trans ((congrFun e219 _).trans ((va_up_ne _ _ (by decide)).trans ((congrFun e216 _).trans ((va_up_ne _ _ (by decide)).trans ((hf211 _ (by decide)).trans ((congrFun ew202 _).trans ((va_up_ne _ _ (by decide)).trans ((congrFun e196 _).trans ((va_up_ne _ _ (by decide)).trans ((hf191 _ (by decide)).trans ((congrFun ew180 _).trans ((va_up_ne _ _ (by decide)).trans ((congrFun e174 _).trans ((va_up_ne _ _ (by decide)).trans ((hf169 _ (by decide)).trans ((congrFun ew159 _).trans ((va_up_ne _ _ (by decide)).trans ((congrFun e153 _).trans ((va_up_ne _ _ (by decide)).trans ((congrFun ew147 _).trans ((va_up_ne _ _ (by decide)).trans ((congrFun e141 _).trans ((va_up_ne _ _ (by decide)).trans ((congrFun e132 _).trans ((va_up_ne _ _ (by decide)).trans ((hf126 _ (by decide)).trans ((congrFun ew106 _).trans ((va_up_ne _ _ (by decide)).trans ((congrFun e100 _).trans ((va_up_ne _ _ (by decide)).trans ((hf94 _ (by decide)).trans ((congrFun ew74 _).trans ((va_up_ne _ _ (by decide)).trans ((congrFun ew67 _).trans ((va_up_ne _ _ (by decide)).trans ((congrFun e61 _).trans ((va_up_ne _ _ (by decide)).trans f45)))))))))))))))))))))))))))))))))))))))
  have f572 : w221 17 = .inl (cI, 7, .inl (fun _ => 0)) := ((congrFun e222 _).trans ((va_up_ne _ _ (by decide)).trans ((congrFun e219 _).trans ((va_up_ne _ _ (by decide)).trans ((congrFun e216 _).trans ((va_up_ne _ _ (by decide)).trans ((hf211 _ (by decide)).trans ((congrFun ew202 _).trans ((va_up_ne _ _ (by decide)).trans ((congrFun e196 _).trans ((va_up_ne _ _ (by decide)).trans ((hf191 _ (by decide)).trans ((congrFun ew180 _).trans ((va_up_ne _ _ (by decide)).trans ((congrFun e174 _).trans ((va_up_ne _ _ (by decide)).trans ((hf169 _ (by decide)).trans ((congrFun ew159 _).trans ((va_up_ne _ _ (by decide)).trans ((congrFun e153 _).trans ((va_up_ne _ _ (by decide)).trans ((congrFun ew147 _).trans ((va_up_ne _ _ (by decide)).trans ((congrFun e141 _).trans ((va_up_ne _ _ (by decide)).trans ((congrFun e132 _).trans ((va_up_ne _ _ (by decide)).trans ((hf126 _ (by decide)).trans ((congrFun ew106 _).trans ((va_up_ne _ _ (by decide)).trans ((congrFun e100 _).trans ((va_up_ne _ _ (by decide)).trans ((hf94 _ (by decide)).trans ((congrFun ew74 _).trans ((va_up_ne _ _ (by decide)).trans ((congrFun ew67 _).trans ((va_up_ne _ _ (by decide)).trans ((congrFun e61 _).trans ((va_up_ne _ _ (by decide)).trans f46)))))))))))))))))))))))))))))))))))))))
  have f573 : w221 18 = .inl (cI, 4, .inl (fun _ => 0)) := ((congrFun e222 _).trans ((va_up_ne _ _ (by decide)).trans ((congrFun e219 _).trans ((va_up_ne _ _ (by decide)).trans ((congrFun e216 _).trans ((va_up_ne _ _ (by decide)).trans ((hf211 _ (by decide)).trans ((congrFun ew202 _).trans ((va_up_ne _ _ (by decide)).trans ((congrFun e196 _).trans ((va_up_ne _ _ (by decide)).trans ((hf191 _ (by decide)).trans ((congrFun ew180 _).trans ((va_up_ne _ _ (by decide)).trans ((congrFun e174 _).trans ((va_up_ne _ _ (by decide)).trans ((hf169 _ (by decide)).trans ((congrFun ew159 _).trans ((va_up_ne _ _ (by decide)).trans ((congrFun e153 _).trans ((va_up_ne _ _ (by decide)).trans ((congrFun ew147 _).trans ((va_up_ne _ _ (by decide)).trans ((congrFun e141 _).trans ((va_up_ne _ _ (by decide)).trans ((congrFun e132 _).trans ((va_up_ne _ _ (by decide)).trans ((hf126 _ (by decide)).trans ((congrFun ew106 _).trans ((va_up_ne _ _ (by decide)).trans ((congrFun e100 _).trans ((va_up_ne _ _ (by decide)).trans ((hf94 _ (by decide)).trans ((congrFun ew74 _).trans ((va_up_ne _ _ (by decide)).trans ((congrFun ew67 _).trans ((va_up_ne _ _ (by decide)).trans ((congrFun e61 _).trans ((va_up_ne _ _ (by decide)).trans f47)))))))))))))))))))))))))))))))))))))))
  have f574 : w221 19 = .inl (cI, 4, .inl (fun _ => 0)) := ((congrFun e222 _).trans ((va_up_ne _ _ (by decide)).trans ((congrFun e219 _).trans ((va_up_ne _ _ (by decide)).trans ((congrFun e216 _).trans ((va_up_ne _ _ (by decide)).trans ((hf211 _ (by decide)).trans ((congrFun ew202 _).trans ((va_up_ne _ _ (by decide)).trans ((congrFun e196 _).trans ((va_up_ne _ _ (by decide)).trans ((hf191 _ (by decide)).trans ((congrFun ew180 _).trans ((va_up_ne _ _ (by decide)).trans ((congrFun e174 _).trans ((va_up_ne _ _ (by decide)).trans ((hf169 _ (by decide)).trans ((congrFun ew159 _).trans ((va_up_ne _ _ (by decide)).trans ((congrFun e153 _).trans ((va_up_ne _ _ (by decide)).trans ((congrFun ew147 _).trans ((va_up_ne _ _ (by decide)).trans ((congrFun e141 _).trans ((va_up_ne _ _ (by decide)).trans ((congrFun e132 _).trans ((va_up_ne _ _ (by decide)).trans ((hf126 _ (by decide)).trans ((congrFun ew106 _).trans ((va_up_ne _ _ (by decide)).trans ((congrFun e100 _).trans ((va_up_ne _ _ (by decide)).trans ((hf94 _ (by decide)).trans ((congrFun ew74 _).trans ((va_up_ne _ _ (by decide)).trans ((congrFun ew67 _).trans ((va_up_ne _ _ (by decide)).trans ((congrFun e61 _).trans ((va_up_ne _ _ (by decide)).trans f48)))))))))))))))))))))))))))))))))))))))
  have f575 : w221 20 = .inl (cI, 4, .inl (fun _ => 0)) := ((congrFun e222 _).trans ((va_up_ne _ _ (by decide)).trans ((congrFun e219 _).trans ((va_up_ne _ _ (by decide)).trans ((congrFun e216 _).trans ((va_up_ne _ _ (by decide)).trans ((hf211 _ (by decide)).trans ((congrFun ew202 _).trans ((va_up_ne _ _ (by decide)).trans ((congrFun e196 _).trans ((va_up_ne _ _ (by decide)).trans ((hf191 _ (by decide)).trans ((congrFun ew180 _).trans ((va_up_ne _ _ (by decide)).trans ((congrFun e174 _).trans ((va_up_ne _ _ (by decide)).trans ((hf169 _ (by decide)).trans ((congrFun ew159 _).trans ((va_up_ne _ _ (by decide)).trans ((congrFun e153 _).trans ((va_up_ne _ _ (by decide)).trans ((congrFun ew147 _).trans ((va_up_ne _ _ (by decide)).trans ((congrFun e141 _).trans ((va_up_ne _ _ (by decide)).trans ((congrFun e132 _).trans ((va_up_ne _ _ (by decide)).trans ((hf126 _ (by decide)).trans ((congrFun ew106 _).trans ((va_up_ne _ _ (by decide)).trans ((congrFun e100 _).trans ((va_up_ne _ _ (by decide)).trans ((hf94 _ (by decide)).trans ((congrFun ew74 _).trans ((va_up_ne _ _ (by decide)).trans ((congrFun ew67 _).trans ((va_up_ne _ _ (by decide)).trans ((congrFun e61 _).trans ((va_up_ne _ _ (by decide)).trans f49)))))))))))))))))))))))))))))))))))))))
  clear f44 f45 f46 f47 f48 f49
  have f576 : w221 21 = .inr (4, [.ref (ad39 22), .int 0]) := ((congrFun e222 _).trans ((va_up_ne _ _ (by decide)).trans ((congrFun e219 _).trans ((va_up_ne _ _ (by decide)).trans ((congrFun e216 _).trans ((va_up_ne _ _ (by decide)).trans ((hf211 _ (by decide)).trans ((congrFun ew202 _).trans ((va_up_ne _ _ (by decide)).trans ((congrFun e196 _).trans ((va_up_ne _ _ (by decide)).trans ((hf191 _ (by decide)).trans ((congrFun ew180 _).trans ((va_up_ne _ _ (by decide)).trans ((congrFun e174 _).trans ((va_up_ne _ _ (by decide)).trans ((hf169 _ (by decide)).trans ((congrFun ew159 _).trans ((va_up_ne _ _ (by decide)).trans ((congrFun e153 _).trans ((va_up_ne _ _ (by decide)).trans ((congrFun ew147 _).trans ((va_up_ne _ _ (by decide)).trans ((congrFun e141 _).trans ((va_up_ne _ _ (by decide)).trans ((congrFun e132 _).trans ((va_up_ne _ _ (by decide)).trans ((hf126 _ (by decide)).trans ((congrFun ew106 _).trans ((va_up_ne _ _ (by decide)).trans ((congrFun e100 _).trans ((va_up_ne _ _ (by decide)).trans ((hf94 _ (by decide)).trans ((congrFun ew74 _).trans ((va_up_ne _ _ (by decide)).trans ((congrFun ew67 _).trans ((va_up_ne _ _ (by decide)).trans ((congrFun e61 _).trans ((va_up_ne _ _ (by decide)).trans f50)))))))))))))))))))))))))))))))))))))))
  have a577 : ad64 22 = (ad39 22) := (congrFun ea65 _).trans ((va_up_ne _ _ (by decide)).trans (rfl : ad39 22 = ad39 22))
  have a578 : ad71 22 = (ad39 22) := (congrFun ea72 _).trans ((va_up_ne _ _ (by decide)).trans a577)
  have a579 : ad77 22 = (ad39 22) := (ho79 _ (by decide)).trans a578
  have a580 : ad103 22 = (ad39 22) := (congrFun ea104 _).trans ((va_up_ne _ _ (by decide)).trans a579)
  have a581 : ad109 22 = (ad39 22) := (ho111 _ (by decide)).trans a580
  have a582 : ad144 22 = (ad39 22) := (congrFun ea145 _).trans ((va_up_ne _ _ (by decide)).trans a581)
  clear f50 a577 a578 a579 a580 a581
  have a583 : ad156 22 = (ad39 22) := (congrFun ea157 _).trans ((va_up_ne _ _ (by decide)).trans a582)
  have a584 : ad162 22 = (ad39 22) := (ho164 _ (by decide)).trans a583
  have a585 : ad177 22 = (ad39 22) := (congrFun ea178 _).trans ((va_up_ne _ _ (by decide)).trans a584)
  have a586 : ad183 22 = (ad39 22) := (ho185 _ (by decide)).trans a585
  have a587 : ad199 22 = (ad39 22) := (congrFun ea200 _).trans ((va_up_ne _ _ (by decide)).trans a586)
  have a588 : ad205 22 = (ad39 22) := (ho207 _ (by decide)).trans a587
  clear a582 a583 a584 a585 a586 a587
  have z589 : w221 21 = .inr (4, [.ref (ad205 22), .int 0]) := by rw [a588]; exact f576
  have f590 : w221 22 = .inl (cI, 24, .inl (fun _ => 0)) := ((congrFun e222 _).trans ((va_up_ne _ _ (by decide)).trans ((congrFun e219 _).trans ((va_up_ne _ _ (by decide)).trans ((congrFun e216 _).trans ((va_up_ne _ _ (by decide)).trans ((hf211 _ (by decide)).trans ((congrFun ew202 _).trans ((va_up_ne _ _ (by decide)).trans ((congrFun e196 _).trans ((va_up_ne _ _ (by decide)).trans ((hf191 _ (by decide)).trans ((congrFun ew180 _).trans ((va_up_ne _ _ (by decide)).trans ((congrFun e174 _).trans ((va_up_ne _ _ (by decide)).trans ((hf169 _ (by decide)).trans ((congrFun ew159 _).trans ((va_up_ne _ _ (by decide)).trans ((congrFun e153 _).trans ((va_up_ne _ _ (by decide)).trans ((congrFun ew147 _).trans ((va_up_ne _ _ (by decide)).trans ((congrFun e141 _).trans ((va_up_ne _ _ (by decide)).trans ((congrFun e132 _).trans ((va_up_ne _ _ (by decide)).trans ((hf126 _ (by decide)).trans ((congrFun ew106 _).trans ((va_up_ne _ _ (by decide)).trans ((congrFun e100 _).trans ((va_up_ne _ _ (by decide)).trans ((hf94 _ (by decide)).trans ((congrFun ew74 _).trans ((va_up_ne _ _ (by decide)).trans ((congrFun ew67 _).trans ((va_up_ne _ _ (by decide)).trans ((congrFun e61 _).trans ((va_up_ne _ _ (by decide)).trans f51)))))))))))))))))))))))))))))))))))))))
  have f591 : w221 23 = .inr (4, [.ref (ad39 24), .int 0]) := ((congrFun e222 _).trans ((va_up_ne _ _ (by decide)).trans ((congrFun e219 _).trans ((va_up_ne _ _ (by decide)).trans ((congrFun e216 _).trans ((va_up_ne _ _ (by decide)).trans ((hf211 _ (by decide)).trans ((congrFun ew202 _).trans ((va_up_ne _ _ (by decide)).trans ((congrFun e196 _).trans ((va_up_ne _ _ (by decide)).trans ((hf191 _ (by decide)).trans ((congrFun ew180 _).trans ((va_up_ne _ _ (by decide)).trans ((congrFun e174 _).trans ((va_up_ne _ _ (by decide)).trans ((hf169 _ (by decide)).trans ((congrFun ew159 _).trans ((va_up_ne _ _ (by decide)).trans ((congrFun e153 _).trans ((va_up_ne _ _ (by decide)).trans ((congrFun ew147 _).trans ((va_up_ne _ _ (by decide)).trans ((congrFun e141 _).trans ((va_up_ne _ _ (by decide)).trans ((congrFun e132 _).trans ((va_up_ne _ _ (by decide)).trans ((hf126 _ (by decide)).trans ((congrFun ew106 _).trans ((va_up_ne _ _ (by decide)).trans ((congrFun e100 _).trans ((va_up_ne _ _ (by decide)).trans ((hf94 _ (by decide)).trans ((congrFun ew74 _).trans ((va_up_ne _ _ (by decide)).trans ((congrFun ew67 _).trans ((va_up_ne _ _ (by decide)).trans ((congrFun e61 _).trans ((va_up_ne _ _ (by decide)).trans f52)))))))))))))))))))))))))))))))))))))))
  have a592 : ad64 24 = (ad39 24) := (congrFun ea65 _).trans ((va_up_ne _ _ (by decide)).trans (rfl : ad39 24 = ad39 24))
  have a593 : ad71 24 = (ad39 24) := (congrFun ea72 _).trans ((va_up_ne _ _ (by decide)).trans a592)
  have a594 : ad77 24 = (ad39 24) := (ho79 _ (by decide)).trans a593
  clear f576 a588 f51 f52 a592 a593
  have a595 : ad103 24 = (ad39 24) := (congrFun ea104 _).trans ((va_up_ne _ _ (by decide)).trans a594)
  have a596 : ad109 24 = (ad39 24) := (ho111 _ (by decide)).trans a595
  have a597 : ad144 24 = (ad39 24) := (congrFun ea145 _).trans ((va_up_ne _ _ (by decide)).trans a596)
  have a598 : ad156 24 = (ad39 24) := (congrFun ea157 _).trans ((va_up_ne _ _ (by decide)).trans a597)
  have a599 : ad162 24 = (ad39 24) := (ho164 _ (by decide)).trans a598
  have a600 : ad177 24 = (ad39 24) := (congrFun ea178 _).trans ((va_up_ne _ _ (by decide)).trans a599)
  clear a594 a595 a596 a597 a598 a599
  have a601 : ad183 24 = (ad39 24) := (ho185 _ (by decide)).trans a600
  have a602 : ad199 24 = (ad39 24) := (congrFun ea200 _).trans ((va_up_ne _ _ (by decide)).trans a601)
  have a603 : ad205 24 = (ad39 24) := (ho207 _ (by decide)).trans a602
  have z604 : w221 23 = .inr (4, [.ref (ad205 24), .int 0]) := by rw [a603]; exact f591
  have f605 : w221 24 = .inl (cI, 24, .inl (fun _ => 0)) := ((congrFun e222 _).trans ((va_up_ne _ _ (by decide)).trans ((congrFun e219 _).trans ((va_up_ne _ _ (by decide)).trans ((congrFun e216 _).trans ((va_up_ne _ _ (by decide)).trans ((hf211 _ (by decide)).trans ((congrFun ew202 _).trans ((va_up_ne _ _ (by decide)).trans ((congrFun e196 _).trans ((va_up_ne _ _ (by decide)).trans ((hf191 _ (by decide)).trans ((congrFun ew180 _).trans ((va_up_ne _ _ (by decide)).trans ((congrFun e174 _).trans ((va_up_ne _ _ (by decide)).trans ((hf169 _ (by decide)).trans ((congrFun ew159 _).trans ((va_up_ne _ _ (by decide)).trans ((congrFun e153 _).trans ((va_up_ne _ _ (by decide)).trans ((congrFun ew147 _).trans ((va_up_ne _ _ (by decide)).trans ((congrFun e141 _).trans ((va_up_ne _ _ (by decide)).trans ((congrFun e132 _).trans ((va_up_ne _ _ (by decide)).trans ((hf126 _ (by decide)).trans ((congrFun ew106 _).trans ((va_up_ne _ _ (by decide)).trans ((congrFun e100 _).trans ((va_up_ne _ _ (by decide)).trans ((hf94 _ (by decide)).trans ((congrFun ew74 _).trans ((va_up_ne _ _ (by decide)).trans ((congrFun ew67 _).trans ((va_up_ne _ _ (by decide)).trans ((congrFun e61 _).trans ((va_up_ne _ _ (by decide)).trans f53)))))))))))))))))))))))))))))))))))))))
  clear a600 a601 a602 f591 a603 f53
  have f606 : w221 25 = .inr (2, [.ref (ad39 26), .int 0]) := ((congrFun e222 _).trans ((va_up_ne _ _ (by decide)).trans ((congrFun e219 _).trans ((va_up_ne _ _ (by decide)).trans ((congrFun e216 _).trans ((va_up_ne _ _ (by decide)).trans ((hf211 _ (by decide)).trans ((congrFun ew202 _).trans ((va_up_ne _ _ (by decide)).trans ((congrFun e196 _).trans ((va_up_ne _ _ (by decide)).trans ((hf191 _ (by decide)).trans ((congrFun ew180 _).trans ((va_up_ne _ _ (by decide)).trans ((congrFun e174 _).trans ((va_up_ne _ _ (by decide)).trans ((hf169 _ (by decide)).trans ((congrFun ew159 _).trans ((va_up_ne _ _ (by decide)).trans ((congrFun e153 _).trans ((va_up_ne _ _ (by decide)).trans ((congrFun ew147 _).trans ((va_up_ne _ _ (by decide)).trans ((congrFun e141 _).trans ((va_up_ne _ _ (by decide)).trans ((congrFun e132 _).trans ((va_up_ne _ _ (by decide)).trans ((hf126 _ (by decide)).trans ((congrFun ew106 _).trans ((va_up_ne _ _ (by decide)).trans ((congrFun e100 _).trans ((va_up_ne _ _ (by decide)).trans ((hf94 _ (by decide)).trans ((congrFun ew74 _).trans ((va_up_ne _ _ (by decide)).trans ((congrFun ew67 _).trans ((va_up_ne _ _ (by decide)).trans ((congrFun e61 _).trans ((va_up_ne _ _ (by decide)).trans f54)))))))))))))))))))))))))))))))))))))))
  have a607 : ad64 26 = (ad39 26) := (congrFun ea65 _).trans ((va_up_ne _ _ (by decide)).trans (rfl : ad39 26 = ad39 26))
  have a608 : ad71 26 = (ad39 26) := (congrFun ea72 _).trans ((va_up_ne _ _ (by decide)).trans a607)
  have a609 : ad77 26 = (ad39 26) := (ho79 _ (by decide)).trans a608
  have a610 : ad103 26 = (ad39 26) := (congrFun ea104 _).trans ((va_up_ne _ _ (by decide)).trans a609)
  have a611 : ad109 26 = (ad39 26) := (ho111 _ (by decide)).trans a610
  have a612 : ad144 26 = (ad39 26) := (congrFun ea145 _).trans ((va_up_ne _ _ (by decide)).trans a611)
  clear f54 a607 a608 a609 a610 a611
  have a613 : ad156 26 = (ad39 26) := (congrFun ea157 _).trans ((va_up_ne _ _ (by decide)).trans a612)
  have a614 : ad162 26 = (ad39 26) := (ho164 _ (by decide)).trans a613
  have a615 : ad177 26 = (ad39 26) := (congrFun ea178 _).trans ((va_up_ne _ _ (by decide)).trans a614)
  have a616 : ad183 26 = (ad39 26) := (ho185 _ (by decide)).trans a615
  have a617 : ad199 26 = (ad39 26) := (congrFun ea200 _).trans ((va_up_ne _ _ (by decide)).trans a616)
  have a618 : ad205 26 = (ad39 26) := (ho207 _ (by decide)).trans a617
  clear a612 a613 a614 a615 a616 a617
  have z619 : w221 25 = .inr (2, [.ref (ad205 26), .int 0]) := by rw [a618]; exact f606
  have f620 : w221 26 = .inl (cI, 88, .inl (fun _ => 0)) := ((congrFun e222 _).trans ((va_up_ne _ _ (by decide)).trans ((congrFun e219 _).trans ((va_up_ne _ _ (by decide)).trans ((congrFun e216 _).trans ((va_up_ne _ _ (by decide)).trans ((hf211 _ (by decide)).trans ((congrFun ew202 _).trans ((va_up_ne _ _ (by decide)).trans ((congrFun e196 _).trans ((va_up_ne _ _ (by decide)).trans ((hf191 _ (by decide)).trans ((congrFun ew180 _).trans ((va_up_ne _ _ (by decide)).trans ((congrFun e174 _).trans ((va_up_ne _ _ (by decide)).trans ((hf169 _ (by decide)).trans ((congrFun ew159 _).trans ((va_up_ne _ _ (by decide)).trans ((congrFun e153 _).trans ((va_up_ne _ _ (by decide)).trans ((congrFun ew147 _).trans ((va_up_ne _ _ (by decide)).trans ((congrFun e141 _).trans ((va_up_ne _ _ (by decide)).trans ((congrFun e132 _).trans ((va_up_ne _ _ (by decide)).trans ((hf126 _ (by decide)).trans ((congrFun ew106 _).trans ((va_up_ne _ _ (by decide)).trans ((congrFun e100 _).trans ((va_up_ne _ _ (by decide)).trans ((hf94 _ (by decide)).trans ((congrFun ew74 _).trans ((va_up_ne _ _ (by decide)).trans ((congrFun ew67 _).trans ((va_up_ne _ _ (by decide)).trans ((congrFun e61 _).trans ((va_up_ne _ _ (by decide)).trans f55)))))))))))))))))))))))))))))))))))))))
  have f621 : w221 27 = .inl (cO, 2, .inr (.inr (.inr (.inr (va_up (va_up (fun _ => none) 0 (some q70)) 1 (some q102)))))) := ((congrFun e222 _).trans ((va_up_ne _ _ (by decide)).trans ((congrFun e219 _).trans ((va_up_ne _ _ (by decide)).trans ((congrFun e216 _).trans ((va_up_ne _ _ (by decide)).trans ((hf211 _ (by decide)).trans ((congrFun ew202 _).trans ((va_up_ne _ _ (by decide)).trans ((congrFun e196 _).trans ((va_up_ne _ _ (by decide)).trans ((hf191 _ (by decide)).trans ((congrFun ew180 _).trans ((va_up_ne _ _ (by decide)).trans ((congrFun e174 _).trans ((va_up_ne _ _ (by decide)).trans ((hf169 _ (by decide)).trans ((congrFun ew159 _).trans ((va_up_ne _ _ (by decide)).trans ((congrFun e153 _).trans ((va_up_ne _ _ (by decide)).trans ((congrFun ew147 _).trans ((va_up_ne _ _ (by decide)).trans ((congrFun e141 _).trans ((va_up_ne _ _ (by decide)).trans f133)))))))))))))))))))))))))
  have a623 : ad103 28 = q70 := (congrFun ea104 _).trans ((va_up_ne _ _ (by decide)).trans a97)
  clear f606 a618 f55 hf94 f133 a97
  have a624 : ad109 28 = q70 := (ho111 _ (by decide)).trans a623
  have a625 : ad144 28 = q70 := (congrFun ea145 _).trans ((va_up_ne _ _ (by decide)).trans a624)
  have a626 : ad156 28 = q70 := (congrFun ea157 _).trans ((va_up_ne _ _ (by decide)).trans a625)
  have a627 : ad162 28 = q70 := (ho164 _ (by decide)).trans a626
  have a628 : ad177 28 = q70 := (congrFun ea178 _).trans ((va_up_ne _ _ (by decide)).trans a627)
  have a629 : ad183 28 = q70 := (ho185 _ (by decide)).trans a628
  clear a623 a624 a625 a626 a627 a628
  have a630 : ad199 28 = q70 := (congrFun ea200 _).trans ((va_up_ne _ _ (by decide)).trans a629)
  have a631 : ad205 28 = q70 := (ho207 _ (by decide)).trans a630
  have a632 : ad144 41 = q102 := (congrFun ea145 _).trans ((va_up_ne _ _ (by decide)).trans a129)
  have a633 : ad156 41 = q102 := (congrFun ea157 _).trans ((va_up_ne _ _ (by decide)).trans a632)
  have a634 : ad162 41 = q102 := (ho164 _ (by decide)).trans a633
  have a635 : ad177 41 = q102 := (congrFun ea178 _).trans ((va_up_ne _ _ (by decide)).trans a634)
  clear a629 a630 a129 a632 a633 a634
  have a636 : ad183 41 = q102 := (ho185 _ (by decide)).trans a635
  have a637 : ad199 41 = q102 := (congrFun ea200 _).trans ((va_up_ne _ _ (by decide)).trans a636)
  have a638 : ad205 41 = q102 := (ho207 _ (by decide)).trans a637
  have z622 : w221 27 = .inl (cO, 2, .inr (.inr (.inr (.inr (fun k => if k = 0 then some (ad205 28) else if k = 1 then some (ad205 41) else none))))) := by rw [f621, a631, a638]; exact congrArg (fun f => (.inl (cO, 2, .inr (.inr (.inr (.inr f)))) : va_E)) (arr2 _ _)
  clear a635 a636 a637 f621 a631 a638
  have f639 : w221 28 = .inr (1, [.int 0, .int 0, .int 0, .int 0, .int 0, .ref (ad77 29), .ref (ad77 30), .ref (ad77 31), .ref (ad77 32), .ref (ad77 33), .ref (ad77 34), .ref (ad77 35), .ref (ad77 37), .ref (ad77 39)]) := ((congrFun e222 _).trans ((va_up_ne _ _ (by decide)).trans ((congrFun e219 _).trans ((va_up_ne _ _ (by decide)).trans ((congrFun e216 _).trans ((va_up_ne _ _ (by decide)).trans ((hf211 _ (by decide)).trans ((congrFun ew202 _).trans ((va_up_ne _ _ (by decide)).trans ((congrFun e196 _).trans ((va_up_ne _ _ (by decide)).trans ((hf191 _ (by decide)).trans ((congrFun ew180 _).trans ((va_up_ne _ _ (by decide)).trans ((congrFun e174 _).trans ((va_up_ne _ _ (by decide)).trans ((hf169 _ (by decide)).trans ((congrFun ew159 _).trans ((va_up_ne _ _ (by decide)).trans ((congrFun e153 _).trans ((va_up_ne _ _ (by decide)).trans ((congrFun ew147 _).trans ((va_up_ne _ _ (by decide)).trans ((congrFun e141 _).trans ((va_up_ne _ _ (by decide)).trans ((congrFun e132 _).trans ((va_up_ne _ _ (by decide)).trans ((hf126 _ (by decide)).trans ((congrFun ew106 _).trans ((va_up_ne _ _ (by decide)).trans ((congrFun e100 _).trans ((va_up_ne _ _ (by decide)).trans f81))))))))))))))))))))))))))))))))
  have a640 : ad103 29 = (ad77 29) := (congrFun ea104 _).trans ((va_up_ne _ _ (by decide)).trans (rfl : ad77 29 = ad77 29))
  have a641 : ad109 29 = (ad77 29) := (ho111 _ (by decide)).trans a640
  have a642 : ad144 29 = (ad77 29) := (congrFun ea145 _).trans ((va_up_ne _ _ (by decide)).trans a641)
  have a643 : ad156 29 = (ad77 29) := (congrFun ea157 _).trans ((va_up_ne _ _ (by decide)).trans a642)
  have a644 : ad162 29 = (ad77 29) := (ho164 _ (by decide)).trans a643
  have a645 : ad177 29 = (ad77 29) := (congrFun ea178 _).trans ((va_up_ne _ _ (by decide)).trans a644)
  clear f81 a640 a641 a642 a643 a644
  have a646 : ad183 29 = (ad77 29) := (ho185 _ (by decide)).trans a645
  have a647 : ad199 29 = (ad77 29) := (congrFun ea200 _).trans ((va_up_ne _ _ (by decide)).trans a646)
  have a648 : ad205 29 = (ad77 29) := (ho207 _ (by decide)).trans a647
  have a649 : ad103 30 = (ad77 30) := (congrFun ea104 _).trans ((va_up_ne _ _ (by decide)).trans (rfl : ad77 30 = ad77 30))
  have a650 : ad109 30 = (ad77 30) := (ho111 _ (by decide)).trans a649
  have a651 : ad144 30 = (ad77 30) := (congrFun ea145 _).trans ((va_up_ne _ _ (by decide)).trans a650)
  have a652 : ad156 30 = (ad77 30) := (congrFun ea157 _).trans ((va_up_ne _ _ (by decide)).trans a651)
  clear a645 a646 a647 a649 a650 a651
  have a653 : ad162 30 = (ad77 30) := (ho164 _ (by decide)).trans a652
  have a654 : ad177 30 = (ad77 30) := (congrFun ea178 _).trans ((va_up_ne _ _ (by decide)).trans a653)
  have a655 : ad183 30 = (ad77 30) := (ho185 _ (by decide)).trans a654
  have a656 : ad199 30 = (ad77 30) := (congrFun ea200 _).trans ((va_up_ne _ _ (by decide)).trans a655)
  have a657 : ad205 30 = (ad77 30) := (ho207 _ (by decide)).trans a656
  have a658 : ad103 31 = (ad77 31) := (congrFun ea104 _).trans ((va_up_ne _ _ (by decide)).trans (rfl : ad77 31 = ad77 31))
  have a659 : ad109 31 = (ad77 31) := (ho111 _ (by decide)).trans a658
  clear a652 a653 a654 a655 a656 a658
  have a660 : ad144 31 = (ad77 31) := (congrFun ea145 _).trans ((va_up_ne _ _ (by decide)).trans a659)
  have a661 : ad156 31 = (ad77 31) := (congrFun ea157 _).trans ((va_up_ne _ _ (by decide)).trans a660)
  have a662 : ad162 31 = (ad77 31) := (ho164 _ (by decide)).trans a661
  have a663 : ad177 31 = (ad77 31) := (congrFun ea178 _).trans ((va_up_ne _ _ (by decide)).trans a662)
  have a664 : ad183 31 = (ad77 31) := (ho185 _ (by decide)).trans a663
  have a665 : ad199 31 = (ad77 31) := (congrFun ea200 _).trans ((va_up_ne _ _ (by decide)).trans a664)
  clear a659 a660 a661 a662 a663 a664
  have a666 : ad205 31 = (ad77 31) := (ho207 _ (by decide)).trans a665
  have a667 : ad103 32 = (ad77 32) := (congrFun ea104 _).trans ((va_up_ne _ _ (by decide)).trans (rfl : ad77 32 = ad77 32))
  have a668 : ad109 32 = (ad77 32) := (ho111 _ (by decide)).trans a667
  have a669 : ad144 32 = (ad77 32) := (congrFun ea145 _).trans ((va_up_ne _ _ (by decide)).trans a668)
  have a670 : ad156 32 = (ad77 32) := (congrFun ea157 _).trans ((va_up_ne _ _ (by decide)).trans a669)
  have a671 : ad162 32 = (ad77 32) := (ho164 _ (by decide)).trans a670
  have a672 : ad177 32 = (ad77 32) := (congrFun ea178 _).trans ((va_up_ne _ _ (by decide)).trans a671)
  clear a665 a667 a668 a669 a670 a671
  have a673 : ad183 32 = (ad77 32) := (ho185 _ (by decide)).trans a672
  have a674 : ad199 32 = (ad77 32) := (congrFun ea200 _).trans ((va_up_ne _ _ (by decide)).trans a673)
  have a675 : ad205 32 = (ad77 32) := (ho207 _ (by decide)).trans a674
  have a676 : ad103 33 = (ad77 33) := (congrFun ea104 _).trans ((va_up_ne _ _ (by decide)).trans (rfl : ad77 33 = ad77 33))
  have a677 : ad109 33 = (ad77 33) := (ho111 _ (by decide)).trans a676
  have a678 : ad144 33 = (ad77 33) := (congrFun ea145 _).trans ((va_up_ne _ _ (by decide)).trans a677)
  have a679 : ad156 33 = (ad77 33) := (congrFun ea157 _).trans ((va_up_ne _ _ (by decide)).trans a678)
  clear a672 a673 a674 a676 a677 a678
  have a680 : ad162 33 = (ad77 33) := (ho164 _ (by decide)).trans a679
  have a681 : ad177 33 = (ad77 33) := (congrFun ea178 _).trans ((va_up_ne _ _ (by decide)).trans a680)
  have a682 : ad183 33 = (ad77 33) := (ho185 _ (by decide)).trans a681
  have a683 : ad199 33 = (ad77 33) := (congrFun ea200 _).trans ((va_up_ne _ _ (by decide)).trans a682)
  have a684 : ad205 33 = (ad77 33) := (ho207 _ (by decide)).trans a683
  have a685 : ad103 34 = (ad77 34) := (congrFun ea104 _).trans ((va_up_ne _ _ (by decide)).trans (rfl : ad77 34 = ad77 34))
  have a686 : ad109 34 = (ad77 34) := (ho111 _ (by decide)).trans a685
  clear a679 a680 a681 a682 a683 a685
  have a687 : ad144 34 = (ad77 34) := (congrFun ea145 _).trans ((va_up_ne _ _ (by decide)).trans a686)
  have a688 : ad156 34 = (ad77 34) := (congrFun ea157 _).trans ((va_up_ne _ _ (by decide)).trans a687)
  have a689 : ad162 34 = (ad77 34) := (ho164 _ (by decide)).trans a688
  have a690 : ad177 34 = (ad77 34) := (congrFun ea178 _).trans ((va_up_ne _ _ (by decide)).trans a689)
  have a691 : ad183 34 = (ad77 34) := (ho185 _ (by decide)).trans a690
  have a692 : ad199 34 = (ad77 34) := (congrFun ea200 _).trans ((va_up_ne _ _ (by decide)).trans a691)
  clear a686 a687 a688 a689 a690 a691
  have a693 : ad205 34 = (ad77 34) := (ho207 _ (by decide)).trans a692
  have a694 : ad103 35 = (ad77 35) := (congrFun ea104 _).trans ((va_up_ne _ _ (by decide)).trans (rfl : ad77 35 = ad77 35))
  have a695 : ad109 35 = (ad77 35) := (ho111 _ (by decide)).trans a694
  have a696 : ad144 35 = (ad77 35) := (congrFun ea145 _).trans ((va_up_ne _ _ (by decide)).trans a695)
  have a697 : ad156 35 = (ad77 35) := (congrFun ea157 _).trans ((va_up_ne _ _ (by decide)).trans a696)
  have a698 : ad162 35 = (ad77 35) := (ho164 _ (by decide)).trans a697
  have a699 : ad177 35 = (ad77 35) := (congrFun ea178 _).trans ((va_up_ne _ _ (by decide)).trans a698)
  clear a692 a694 a695 a696 a697 a698
  have a700 : ad183 35 = (ad77 35) := (ho185 _ (by decide)).trans a699
  have a701 : ad199 35 = (ad77 35) := (congrFun ea200 _).trans ((va_up_ne _ _ (by decide)).trans a700)
  have a702 : ad205 35 = (ad77 35) := (ho207 _ (by decide)).trans a701
  have a703 : ad103 37 = (ad77 37) := (congrFun ea104 _).trans ((va_up_ne _ _ (by decide)).trans (rfl : ad77 37 = ad77 37))
  have a704 : ad109 37 = (ad77 37) := (ho111 _ (by decide)).trans a703
  have a705 : ad144 37 = (ad77 37) := (congrFun ea145 _).trans ((va_up_ne _ _ (by decide)).trans a704)
  have a706 : ad156 37 = (ad77 37) := (congrFun ea157 _).trans ((va_up_ne _ _ (by decide)).trans a705)
  clear a699 a700 a701 a703 a704 a705
  have a707 : ad162 37 = (ad77 37) := (ho164 _ (by decide)).trans a706
  have a708 : ad177 37 = (ad77 37) := (congrFun ea178 _).trans ((va_up_ne _ _ (by decide)).trans a707)
  have a709 : ad183 37 = (ad77 37) := (ho185 _ (by decide)).trans a708
  have a710 : ad199 37 = (ad77 37) := (congrFun ea200 _).trans ((va_up_ne _ _ (by decide)).trans a709)
  have a711 : ad205 37 = (ad77 37) := (ho207 _ (by decide)).trans a710
  have a712 : ad103 39 = (ad77 39) := (congrFun ea104 _).trans ((va_up_ne _ _ (by decide)).trans (rfl : ad77 39 = ad77 39))
  have a713 : ad109 39 = (ad77 39) := (ho111 _ (by decide)).trans a712
  clear a706 a707 a708 a709 a710 a712
  have a714 : ad144 39 = (ad77 39) := (congrFun ea145 _).trans ((va_up_ne _ _ (by decide)).trans a713)
  have a715 : ad156 39 = (ad77 39) := (congrFun ea157 _).trans ((va_up_ne _ _ (by decide)).trans a714)
  have a716 : ad162 39 = (ad77 39) := (ho164 _ (by decide)).trans a715
  have a717 : ad177 39 = (ad77 39) := (congrFun ea178 _).trans ((va_up_ne _ _ (by decide)).trans a716)
  have a718 : ad183 39 = (ad77 39) := (ho185 _ (by decide)).trans a717
  have a719 : ad199 39 = (ad77 39) := (congrFun ea200 _).trans ((va_up_ne _ _ (by decide)).trans a718)
  clear a713 a714 a715 a716 a717 a718
  have a720 : ad205 39 = (ad77 39) := (ho207 _ (by decide)).trans a719
  have z721 : w221 28 = .inr (1, [.int 0, .int 0, .int 0, .int 0, .int 0, .ref (ad205 29), .ref (ad205 30), .ref (ad205 31), .ref (ad205 32), .ref (ad205 33), .ref (ad205 34), .ref (ad205 35), .ref (ad205 37), .ref (ad205 39)]) := by rw [a648, a657, a666, a675, a684, a693, a702, a711, a720]; exact f639
  clear a719 f639 a648 a657 a666 a675 a684 a693 a702 a711 a720
  have f722 : w221 29 = .inl (cI, 7, .inl (fun _ => 0)) := ((congrFun e222 _).trans ((va_up_ne _ _ (by decide)).trans ((congrFun e219 _).trans ((va_up_ne _ _ (by decide)).trans ((congrFun e216 _).trans ((va_up_ne _ _ (by decide)).trans ((hf211 _ (by decide)).trans ((congrFun ew202 _).trans ((va_up_ne _ _ (by decide)).trans ((congrFun e196 _).trans ((va_up_ne _ _ (by decide)).trans ((hf191 _ (by decide)).trans ((congrFun ew180 _).trans ((va_up_ne _ _ (by decide)).trans ((congrFun e174 _).trans ((va_up_ne _ _ (by decide)).trans ((hf169 _ (by decide)).trans ((congrFun ew159 _).trans ((va_up_ne _ _ (by decide)).trans ((congrFun e153 _).trans ((va_up_ne _ _ (by decide)).trans ((congrFun ew147 _).trans ((va_up_ne _ _ (by decide)).trans ((congrFun e141 _).trans ((va_up_ne _ _ (by decide)).trans ((congrFun e132 _).trans ((va_up_ne _ _ (by decide)).trans ((hf126 _ (by decide)).trans ((congrFun ew106 _).trans ((va_up_ne _ _ (by decide)).trans ((congrFun e100 _).trans ((va_up_ne _ _ (by decide)).trans f82))))))))))))))))))))))))))))))))
  have f723 : w221 30 = .inl (cI, 7, .inl (fun _ => 0)) := ((congrFun e222 _).trans ((va_up_ne _ _ (by decide)).trans ((congrFun e219 _).trans ((va_up_ne _ _ (by decide)).trans ((congrFun e216 _).trans ((va_up_ne _ _ (by decide)).trans ((hf211 _ (by decide)).trans ((congrFun ew202 _).trans ((va_up_ne _ _ (by decide)).trans ((congrFun e196 _).trans ((va_up_ne _ _ (by decide)).trans ((hf191 _ (by decide)).trans ((congrFun ew180 _).trans ((va_up_ne _ _ (by decide)).trans ((congrFun e174 _).trans ((va_up_ne _ _ (by decide)).trans ((hf169 _ (by decide)).trans ((congrFun ew159 _).trans ((va_up_ne _ _ (by decide)).trans ((congrFun e153 _).trans ((va_up_ne _ _ (by decide)).trans ((congrFun ew147 _).trans ((va_up_ne _ _ (by decide)).trans ((congrFun e141 _).trans ((va_up_ne _ _ (by decide)).trans ((congrFun e132 _).trans ((va_up_ne _ _ (by decide)).trans ((hf126 _ (by decide)).trans ((congrFun ew106 _).trans ((va_up_ne _ _ (by decide)).trans ((congrFun e100 _).trans ((va_up_ne _ _ (by decide)).trans f83))))))))))))))))))))))))))))))))
  have f724 : w221 31 = .inl (cI, 7, .inl (fun _ => 0)) := ((congrFun e222 _).trans ((va_up_ne _ _ (by decide)).trans ((congrFun e219 _).trans ((va_up_ne _ _ (by decide)).trans ((congrFun e216 _).trans ((va_up_ne _ _ (by decide)).trans ((hf211 _ (by decide)).trans ((congrFun ew202 _).trans ((va_up_ne _ _ (by decide)).trans ((congrFun e196 _).trans ((va_up_ne _ _ (by decide)).trans ((hf191 _ (by decide)).trans ((congrFun ew180 _).trans ((va_up_ne _ _ (by decide)).trans ((congrFun e174 _).trans ((va_up_ne _ _ (by decide)).trans ((hf169 _ (by decide)).trans ((congrFun ew159 _).trans ((va_up_ne _ _ (by decide)).trans ((congrFun e153 _).trans ((va_up_ne _ _ (by decide)).trans ((congrFun ew147 _).trans ((va_up_ne _ _ (by decide)).trans ((congrFun e141 _).trans ((va_up_ne _ _ (by decide)).trans ((congrFun e132 _).trans ((va_up_ne _ _ (by decide)).trans ((hf126 _ (by decide)).trans ((congrFun ew106 _).trans ((va_up_ne _ _ (by decide)).trans ((congrFun e100 _).trans ((va_up_ne _ _ (by decide)).trans f84))))))))))))))))))))))))))))))))
  have f725 : w221 32 = .inl (cI, 4, .inl (fun _ => 0)) := ((congrFun e222 _).trans ((va_up_ne _ _ (by decide)).trans ((congrFun e219 _).trans ((va_up_ne _ _ (by decide)).trans ((congrFun e216 _).trans ((va_up_ne _ _ (by decide)).trans ((hf211 _ (by decide)).trans ((congrFun ew202 _).trans ((va_up_ne _ _ (by decide)).trans ((congrFun e196 _).trans ((va_up_ne _ _ (by decide)).trans ((hf191 _ (by decide)).trans ((congrFun ew180 _).trans ((va_up_ne _ _ (by decide)).trans ((congrFun e174 _).trans ((va_up_ne _ _ (by decide)).trans ((hf169 _ (by decide)).trans ((congrFun ew159 _).trans ((va_up_ne _ _ (by decide)).trans ((congrFun e153 _).trans ((va_up_ne _ _ (by decide)).trans ((congrFun ew147 _).trans ((va_up_ne _ _ (by decide)).trans ((congrFun e141 _).trans ((va_up_ne _ _ (by decide)).trans ((congrFun e132 _).trans ((va_up_ne _ _ (by decide)).trans ((hf126 _ (by decide)).trans ((congrFun ew106 _).trans ((va_up_ne _ _ (by decide)).trans ((congrFun e100 _).trans ((va_up_ne _ _ (by decide)).trans f85))))))))))))))))))))))))))))))))
  have f726 : w221 33 = .inl (cI, 4, .inl (fun _ => 0)) := ((congrFun e222 _).trans ((va_up_ne _ _ (by decide)).trans ((congrFun e219 _).trans ((va_up_ne _ _ (by decide)).trans ((congrFun e216 _).trans ((va_up_ne _ _ (by decide)).trans ((hf211 _ (by decide)).trans ((congrFun ew202 _).trans ((va_up_ne _ _ (by decide)).trans ((congrFun e196 _).trans ((va_up_ne _ _ (by decide)).trans ((hf191 _ (by decide)).trans ((congrFun ew180 _).trans ((va_up_ne _ _ (by decide)).trans ((congrFun e174 _).trans ((va_up_ne _ _ (by decide)).trans ((hf169 _ (by decide)).trans ((congrFun ew159 _).trans ((va_up_ne _ _ (by decide)).trans ((congrFun e153 _).trans ((va_up_ne _ _ (by decide)).trans ((congrFun ew147 _).trans ((va_up_ne _ _ (by decide)).trans ((congrFun e141 _).trans ((va_up_ne _ _ (by decide)).trans ((congrFun e132 _).trans ((va_up_ne _ _ (by decide)).trans ((hf126 _ (by decide)).trans ((congrFun ew106 _).trans ((va_up_ne _ _ (by decide)).trans ((congrFun e100 _).trans ((va_up_ne _ _ (by decide)).trans f86))))))))))))))))))))))))))))))))
  have f727 : w221 34 = .inl (cI, 4, .inl (fun _ => 0)) := ((congrFun e222 _).trans ((va_up_ne _ _ (by decide)).trans ((congrFun e219 _).trans ((va_up_ne _ _ (by decide)).trans ((congrFun e216 _).trans ((va_up_ne _ _ (by decide)).trans ((hf211 _ (by decide)).trans ((congrFun ew202 _).trans ((va_up_ne _ _ (by decide)).trans ((congrFun e196 _).trans ((va_up_ne _ _ (by decide)).trans ((hf191 _ (by decide)).trans ((congrFun ew180 _).trans ((va_up_ne _ _ (by decide)).trans ((congrFun e174 _).trans ((va_up_ne _ _ (by decide)).trans ((hf169 _ (by decide)).trans ((congrFun ew159 _).trans ((va_up_ne _ _ (by decide)).trans ((congrFun e153 _).trans ((va_up_ne _ _ (by decide)).trans ((congrFun ew147 _).trans ((va_up_ne _ _ (by decide)).trans ((congrFun e141 _).trans ((va_up_ne _ _ (by decide)).trans ((congrFun e132 _).trans ((va_up_ne _ _ (by decide)).trans ((hf126 _ (by decide)).trans ((congrFun ew106 _).trans ((va_up_ne _ _ (by decide)).trans ((congrFun e100 _).trans ((va_up_ne _ _ (by decide)).trans f87))))))))))))))))))))))))))))))))
  clear f82 f83 f84 f85 f86 f87
  have f728 : w221 35 = .inr (4, [.ref (ad77 36), .int 0]) := ((congrFun e222 _).trans ((va_up_ne _ _ (by decide)).trans ((congrFun e219 _).trans ((va_up_ne _ _ (by decide)).trans ((congrFun e216 _).trans ((va_up_ne _ _ (by decide)).trans ((hf211 _ (by decide)).trans ((congrFun ew202 _).trans ((va_up_ne _ _ (by decide)).trans ((congrFun e196 _).trans ((va_up_ne _ _ (by decide)).trans ((hf191 _ (by decide)).trans ((congrFun ew180 _).trans ((va_up_ne _ _ (by decide)).trans ((congrFun e174 _).trans ((va_up_ne _ _ (by decide)).trans ((hf169 _ (by decide)).trans ((congrFun ew159 _).trans ((va_up_ne _ _ (by decide)).trans ((congrFun e153 _).trans ((va_up_ne _ _ (by decide)).trans ((congrFun ew147 _).trans ((va_up_ne _ _ (by decide)).trans ((congrFun e141 _).trans ((va_up_ne _ _ (by decide)).trans ((congrFun e132 _).trans ((va_up_ne _ _ (by decide)).trans ((hf126 _ (by decide)).trans ((congrFun ew106 _).trans ((va_up_ne _ _ (by decide)).trans ((congrFun e100 _).trans ((va_up_ne _ _ (by decide)).trans f88))))))))))))))))))))))))))))))))
  have a729 : ad103 36 = (ad77 36) := (congrFun ea104 _).trans ((va_up_ne _ _ (by decide)).trans (rfl : ad77 36 = ad77 36))
  have a730 : ad109 36 = (ad77 36) := (ho111 _ (by decide)).trans a729
  have a731 : ad144 36 = (ad77 36) := (congrFun ea145 _).trans ((va_up_ne _ _ (by decide)).trans a730)
  have a732 : ad156 36 = (ad77 36) := (congrFun ea157 _).trans ((va_up_ne _ _ (by decide)).trans a731)
  have a733 : ad162 36 = (ad77 36) := (ho164 _ (by decide)).trans a732
  have a734 : ad177 36 = (ad77 36) := (congrFun ea178 _).trans ((va_up_ne _ _ (by decide)).trans a733)
  clear f88 a729 a730 a731 a732 a733
  have a735 : ad183 36 = (ad77 36) := (ho185 _ (by decide)).trans a734
  have a736 : ad199 36 = (ad77 36) := (congrFun ea200 _).trans ((va_up_ne _ _ (by decide)).trans a735)
  have a737 : ad205 36 = (ad77 36) := (ho207 _ (by decide)).trans a736
  have z738 : w221 35 = .inr (4, [.ref (ad205 36), .int 0]) := by rw [a737]; exact f728
  have f739 : w221 36 = .inl (cI, 24, .inl (fun _ => 0)) := ((congrFun e222 _).trans ((va_up_ne _ _ (by decide)).trans ((congrFun e219 _).trans ((va_up_ne _ _ (by decide)).trans ((congrFun e216 _).trans ((va_up_ne _ _ (by decide)).trans ((hf211 _ (by decide)).trans ((congrFun ew202 _).trans ((va_up_ne _ _ (by decide)).trans ((congrFun e196 _).trans ((va_up_ne _ _ (by decide)).trans ((hf191 _ (by decide)).trans ((congrFun ew180 _).trans ((va_up_ne _ _ (by decide)).trans ((congrFun e174 _).trans ((va_up_ne _ _ (by decide)).trans ((hf169 _ (by decide)).trans ((congrFun ew159 _).trans ((va_up_ne _ _ (by decide)).trans ((congrFun e153 _).trans ((va_up_ne _ _ (by decide)).trans ((congrFun ew147 _).trans ((va_up_ne _ _ (by decide)).trans ((congrFun e141 _).trans ((va_up_ne _ _ (by decide)).trans ((congrFun e132 _).trans ((va_up_ne _ _ (by decide)).trans ((hf126 _ (by decide)).trans ((congrFun ew106 _).trans ((va_up_ne _ _ (by decide)).trans ((congrFun e100 _).trans ((va_up_ne _ _ (by decide)).trans f89))))))))))))))))))))))))))))))))
  clear a734 a735 a736 f728 a737 f89
  have f740 : w221 37 = .inr (4, [.ref (ad77 38), .int 0]) := ((congrFun e222 _).trans ((va_up_ne _ _ (by decide)).trans ((congrFun e219 _).trans ((va_up_ne _ _ (by decide)).trans ((congrFun e216 _).trans ((va_up_ne _ _ (by decide)).trans ((hf211 _ (by decide)).trans ((congrFun ew202 _).trans ((va_up_ne _ _ (by decide)).trans ((congrFun e196 _).trans ((va_up_ne _ _ (by decide)).trans ((hf191 _ (by decide)).trans ((congrFun ew180 _).trans ((va_up_ne _ _ (by decide)).trans ((congrFun e174 _).trans ((va_up_ne _ _ (by decide)).trans ((hf169 _ (by decide)).trans ((congrFun ew159 _).trans ((va_up_ne _ _ (by decide)).trans ((congrFun e153 _).trans ((va_up_ne _ _ (by decide)).trans ((congrFun ew147 _).trans ((va_up_ne _ _ (by decide)).trans ((congrFun e141 _).trans ((va_up_ne _ _ (by decide)).trans ((congrFun e132 _).trans ((va_up_ne _ _ (by decide)).trans ((hf126 _ (by decide)).trans ((congrFun ew106 _).trans ((va_up_ne _ _ (by decide)).trans ((congrFun e100 _).trans ((va_up_ne _ _ (by decide)).trans f90))))))))))))))))))))))))))))))))
  have a741 : ad103 38 = (ad77 38) := (congrFun ea104 _).trans ((va_up_ne _ _ (by decide)).trans (rfl : ad77 38 = ad77 38))
  have a742 : ad109 38 = (ad77 38) := (ho111 _ (by decide)).trans a741
  have a743 : ad144 38 = (ad77 38) := (congrFun ea145 _).trans ((va_up_ne _ _ (by decide)).trans a742)
  have a744 : ad156 38 = (ad77 38) := (congrFun ea157 _).trans ((va_up_ne _ _ (by decide)).trans a743)
  have a745 : ad162 38 = (ad77 38) := (ho164 _ (by decide)).trans a744
  have a746 : ad177 38 = (ad77 38) := (congrFun ea178 _).trans ((va_up_ne _ _ (by decide)).trans a745)
  clear f90 a741 a742 a743 a744 a745
  have a747 : ad183 38 = (ad77 38) := (ho185 _ (by decide)).trans a746
  have a748 : ad199 38 = (ad77 38) := (congrFun ea200 _).trans ((va_up_ne _ _ (by decide)).trans a747)
  have a749 : ad205 38 = (ad77 38) := (ho207 _ (by decide)).trans a748
  have z750 : w221 37 = .inr (4, [.ref (ad205 38), .int 0]) := by rw [a749]; exact f740
  have f751 : w221 38 = .inl (cI, 24, .inl (fun _ => 0)) := ((congrFun e222 _).trans ((va_up_ne _ _ (by decide)).trans ((congrFun e219 _).trans ((va_up_ne _ _ (by decide)).trans ((congrFun e216 _).trans ((va_up_ne _ _ (by decide)).trans ((hf211 _ (by decide)).trans ((congrFun ew202 _).trans ((va_up_ne _ _ (by decide)).trans ((congrFun e196 _).trans ((va_up_ne _ _ (by decide)).trans ((hf191 _ (by decide)).trans ((congrFun ew180 _).trans ((va_up_ne _ _ (by decide)).trans ((congrFun e174 _).trans ((va_up_ne _ _ (by decide)).trans ((hf169 _ (by decide)).trans ((congrFun ew159 _).trans ((va_up_ne _ _ (by decide)).trans ((congrFun e153 _).trans ((va_up_ne _ _ (by decide)).trans ((congrFun ew147 _).trans ((va_up_ne _ _ (by decide)).trans ((congrFun e141 _).trans ((va_up_ne _ _ (by decide)).trans ((congrFun e132 _).trans ((va_up_ne _ _ (by decide)).trans ((hf126 _ (by decide)).trans ((congrFun ew106 _).trans ((va_up_ne _ _ (by decide)).trans ((congrFun e100 _).trans ((va_up_ne _ _ (by decide)).trans f91))))))))))))))))))))))))))))))))
  clear a746 a747 a748 f740 a749 f91
  have f752 : w221 39 = .inr (2, [.ref (ad77 40), .int 0]) := ((congrFun e222 _).trans ((va_up_ne _ _ (by decide)).trans ((congrFun e219 _).trans ((va_up_ne _ _ (by decide)).trans ((congrFun e216 _).trans ((va_up_ne _ _ (by decide)).trans ((hf211 _ (by decide)).trans ((congrFun ew202 _).trans ((va_up_ne _ _ (by decide)).trans ((congrFun e196 _).trans ((va_up_ne _ _ (by decide)).trans ((hf191 _ (by decide)).trans ((congrFun ew180 _).trans ((va_up_ne _ _ (by decide)).trans ((congrFun e174 _).trans ((va_up_ne _ _ (by decide)).trans ((hf169 _ (by decide)).trans ((congrFun ew159 _).trans ((va_up_ne _ _ (by decide)).trans ((congrFun e153 _).trans ((va_up_ne _ _ (by decide)).trans ((congrFun ew147 _).trans ((va_up_ne _ _ (by decide)).trans ((congrFun e141 _).trans ((va_up_ne _ _ (by decide)).trans ((congrFun e132 _).trans ((va_up_ne _ _ (by decide)).trans ((hf126 _ (by decide)).trans ((congrFun ew106 _).trans ((va_up_ne _ _ (by decide)).trans ((congrFun e100 _).trans ((va_up_ne _ _ (by decide)).trans f92))))))))))))))))))))))))))))))))
  have a753 : ad103 40 = (ad77 40) := (congrFun ea104 _).trans ((va_up_ne _ _ (by decide)).trans (rfl : ad77 40 = ad77 40))
  have a754 : ad109 40 = (ad77 40) := (ho111 _ (by decide)).trans a753
  have a755 : ad144 40 = (ad77 40) := (congrFun ea145 _).trans ((va_up_ne _ _ (by decide)).trans a754)
  have a756 : ad156 40 = (ad77 40) := (congrFun ea157 _).trans ((va_up_ne _ _ (by decide)).trans a755)
  have a757 : ad162 40 = (ad77 40) := (ho164 _ (by decide)).trans a756
  have a758 : ad177 40 = (ad77 40) := (congrFun ea178 _).trans ((va_up_ne _ _ (by decide)).trans a757)
  clear f92 a753 a754 a755 a756 a757
  have a759 : ad183 40 = (ad77 40) := (ho185 _ (by decide)).trans a758
  have a760 : ad199 40 = (ad77 40) := (congrFun ea200 _).trans ((va_up_ne _ _ (by decide)).trans a759)
  have a761 : ad205 40 = (ad77 40) := (ho207 _ (by decide)).trans a760
  have z762 : w221 39 = .inr (2, [.ref (ad205 40), .int 0]) := by rw [a761]; exact f752
  have f763 : w221 40 = .inl (cI, 88, .inl (fun _ => 0)) := ((congrFun e222 _).trans ((va_up_ne _ _ (by decide)).trans ((congrFun e219 _).trans ((va_up_ne _ _ (by decide)).trans ((congrFun e216 _).trans ((va_up_ne _ _ (by decide)).trans ((hf211 _ (by decide)).trans ((congrFun ew202 _).trans ((va_up_ne _ _ (by decide)).trans ((congrFun e196 _).trans ((va_up_ne _ _ (by decide)).trans ((hf191 _ (by decide)).trans ((congrFun ew180 _).trans ((va_up_ne _ _ (by decide)).trans ((congrFun e174 _).trans ((va_up_ne _ _ (by decide)).trans ((hf169 _ (by decide)).trans ((congrFun ew159 _).trans ((va_up_ne _ _ (by decide)).trans ((congrFun e153 _).trans ((va_up_ne _ _ (by decide)).trans ((congrFun ew147 _).trans ((va_up_ne _ _ (by decide)).trans ((congrFun e141 _).trans ((va_up_ne _ _ (by decide)).trans ((congrFun e132 _).trans ((va_up_ne _ _ (by decide)).trans ((hf126 _ (by decide)).trans ((congrFun ew106 _).trans ((va_up_ne _ _ (by decide)).trans ((congrFun e100 _).trans ((va_up_ne _ _ (by decide)).trans f93))))))))))))))))))))))))))))))))
  clear a758 a759 a760 f752 a761 f93 hf126
  have f764 : w221 41 = .inr (1, [.int 0, .int 0, .int 0, .int 0, .int 0, .ref (ad109 42), .ref (ad109 43), .ref (ad109 44), .ref (ad109 45), .ref (ad109 46), .ref (ad109 47), .ref (ad109 48), .ref (ad109 50), .ref (ad109 52)]) := ((congrFun e222 _).trans ((va_up_ne _ _ (by decide)).trans ((congrFun e219 _).trans ((va_up_ne _ _ (by decide)).trans ((congrFun e216 _).trans ((va_up_ne _ _ (by decide)).trans ((hf211 _ (by decide)).trans ((congrFun ew202 _).trans ((va_up_ne _ _ (by decide)).trans ((congrFun e196 _).trans ((va_up_ne _ _ (by decide)).trans ((hf191 _ (by decide)).trans ((congrFun ew180 _).trans ((va_up_ne _ _ (by decide)).trans ((congrFun e174 _).trans ((va_up_ne _ _ (by decide)).trans ((hf169 _ (by decide)).trans ((congrFun ew159 _).trans ((va_up_ne _ _ (by decide)).trans ((congrFun e153 _).trans ((va_up_ne _ _ (by decide)).trans ((congrFun ew147 _).trans ((va_up_ne _ _ (by decide)).trans ((congrFun e141 _).trans ((va_up_ne _ _ (by decide)).trans ((congrFun e132 _).trans ((va_up_ne _ _ (by decide)).trans f113)))))))))))))))))))))))))))
  have a765 : ad144 42 = (ad109 42) := (congrFun ea145 _).trans ((va_up_ne _ _ (by decide)).trans (rfl : ad109 42 = ad109 42))
  have a766 : ad156 42 = (ad109 42) := (congrFun ea157 _).trans ((va_up_ne _ _ (by decide)).trans a765)
  have a767 : ad162 42 = (ad109 42) := (ho164 _ (by decide)).trans a766
  have a768 : ad177 42 = (ad109 42) := (congrFun ea178 _).trans ((va_up_ne _ _ (by decide)).trans a767)
  have a769 : ad183 42 = (ad109 42) := (ho185 _ (by decide)).trans a768
  have a770 : ad199 42 = (ad109 42) := (congrFun ea200 _).trans ((va_up_ne _ _ (by decide)).trans a769)
  clear f113 a765 a766 a767 a768 a769
  have a771 : ad205 42 = (ad109 42) := (ho207 _ (by decide)).trans a770
  have a772 : ad144 43 = (ad109 43) := (congrFun ea145 _).trans ((va_up_ne _ _ (by decide)).trans (rfl : ad109 43 = ad109 43))
  have a773 : ad156 43 = (ad109 43) := (congrFun ea157 _).trans ((va_up_ne _ _ (by decide)).trans a772)
  have a774 : ad162 43 = (ad109 43) := (ho164 _ (by decide)).trans a773
  have a775 : ad177 43 = (ad109 43) := (congrFun ea178 _).trans ((va_up_ne _ _ (by decide)).trans a774)
  have a776 : ad183 43 = (ad109 43) := (ho185 _ (by decide)).trans a775
  have a777 : ad199 43 = (ad109 43) := (congrFun ea200 _).trans ((va_up_ne _ _ (by decide)).trans a776)
  clear a770 a772 a773 a774 a775 a776
  have a778 : ad205 43 = (ad109 43) := (ho207 _ (by decide)).trans a777
  have a779 : ad144 44 = (ad109 44) := (congrFun ea145 _).trans ((va_up_ne _ _ (by decide)).trans (rfl : ad109 44 = ad109 44))
  have a780 : ad156 44 = (ad109 44) := (congrFun ea157 _).trans ((va_up_ne _ _ (by decide)).trans a779)
  have a781 : ad162 44 = (ad109 44) := (ho164 _ (by decide)).trans a780
  have a782 : ad177 44 = (ad109 44) := (congrFun ea178 _).trans ((va_up_ne _ _ (by decide)).trans a781)
  have a783 : ad183 44 = (ad109 44) := (ho185 _ (by decide)).trans a782
  have a784 : ad199 44 = (ad109 44) := (congrFun ea200 _).trans ((va_up_ne _ _ (by decide)).trans a783)
  clear a777 a779 a780 a781 a782 a783
  have a785 : ad205 44 = (ad109 44) := (ho207 _ (by decide)).trans a784
  have a786 : ad144 45 = (ad109 45) := (congrFun ea145 _).trans ((va_up_ne _ _ (by decide)).trans (rfl : ad109 45 = ad109 45))
  have a787 : ad156 45 = (ad109 45) := (congrFun ea157 _).trans ((va_up_ne _ _ (by decide)).trans a786)
  have a788 : ad162 45 = (ad109 45) := (ho164 _ (by decide)).trans a787
  have a789 : ad177 45 = (ad109 45) := (congrFun ea178 _).trans ((va_up_ne _ _ (by decide)).trans a788)
  have a790 : ad183 45 = (ad109 45) := (ho185 _ (by decide)).trans a789
  have a791 : ad199 45 = (ad109 45) := (congrFun ea200 _).trans ((va_up_ne _ _ (by decide)).trans a790)
  clear a784 a786 a787 a788 a789 a790
  have a792 : ad205 45 = (ad109 45) := (ho207 _ (by decide)).trans a791
  have a793 : ad144 46 = (ad109 46) := (congrFun ea145 _).trans ((va_up_ne _ _ (by decide)).trans (rfl : ad109 46 = ad109 46))
  have a794 : ad156 46 = (ad109 46) := (congrFun ea157 _).trans ((va_up_ne _ _ (by decide)).trans a793)
  have a795 : ad162 46 = (ad109 46) := (ho164 _ (by decide)).trans a794
  have a796 : ad177 46 = (ad109 46) := (congrFun ea178 _).trans ((va_up_ne _ _ (by decide)).trans a795)
  have a797 : ad183 46 = (ad109 46) := (ho185 _ (by decide)).trans a796
  have a798 : ad199 46 = (ad109 46) := (congrFun ea200 _).trans ((va_up_ne _ _ (by decide)).trans a797)
  clear a791 a793 a794 a795 a796 a797
  have a799 : ad205 46 = (ad109 46) := (ho207 _ (by decide)).trans a798
  have a800 : ad144 47 = (ad109 47) := (congrFun ea145 _).trans ((va_up_ne _ _ (by decide)).trans (rfl : ad109 47 = ad109 47))
  have a801 : ad156 47 = (ad109 47) := (congrFun ea157 _).trans ((va_up_ne _ _ (by decide)).trans a800)
  have a802 : ad162 47 = (ad109 47) := (ho164 _ (by decide)).trans a801
  have a803 : ad177 47 = (ad109 47) := (congrFun ea178 _).trans ((va_up_ne _ _ (by decide)).trans a802)
  have a804 : ad183 47 = (ad109 47) := (ho185 _ (by decide)).trans a803
  have a805 : ad199 47 = (ad109 47) := (congrFun ea200 _).trans ((va_up_ne _ _ (by decide)).trans a804)
  clear a798 a800 a801 a802 a803 a804
  have a806 : ad205 47 = (ad109 47) := (ho207 _ (by decide)).trans a805
  have a807 : ad144 48 = (ad109 48) := (congrFun ea145 _).trans ((va_up_ne _ _ (by decide)).trans (rfl : ad109 48 = ad109 48))
  have a808 : ad156 48 = (ad109 48) := (congrFun ea157 _).trans ((va_up_ne _ _ (by decide)).trans a807)
  have a809 : ad162 48 = (ad109 48) := (ho164 _ (by decide)).trans a808
  have a810 : ad177 48 = (ad109 48) := (congrFun ea178 _).trans ((va_up_ne _ _ (by decide)).trans a809)
  have a811 : ad183 48 = (ad109 48) := (ho185 _ (by decide)).trans a810
  have a812 : ad199 48 = (ad109 48) := (congrFun ea200 _).trans ((va_up_ne _ _ (by decide)).trans a811)
  clear a805 a807 a808 a809 a810 a811
  have a813 : ad205 48 = (ad109 48) := (ho207 _ (by decide)).trans a812
  have a814 : ad144 50 = (ad109 50) := (congrFun ea145 _).trans ((va_up_ne _ _ (by decide)).trans (rfl : ad109 50 = ad109 50))
  have a815 : ad156 50 = (ad109 50) := (congrFun ea157 _).trans ((va_up_ne _ _ (by decide)).trans a814)
  have a816 : ad162 50 = (ad109 50) := (ho164 _ (by decide)).trans a815
  have a817 : ad177 50 = (ad109 50) := (congrFun ea178 _).trans ((va_up_ne _ _ (by decide)).trans a816)
  have a818 : ad183 50 = (ad109 50) := (ho185 _ (by decide)).trans a817
  have a819 : ad199 50 = (ad109 50) := (congrFun ea200 _).trans ((va_up_ne _ _ (by decide)).trans a818)
  clear a812 a814 a815 a816 a817 a818
  have a820 : ad205 50 = (ad109 50) := (ho207 _ (by decide)).trans a819
  have a821 : ad144 52 = (ad109 52) := (congrFun ea145 _).trans ((va_up_ne _ _ (by decide)).trans (rfl : ad109 52 = ad109 52))
  have a822 : ad156 52 = (ad109 52) := (congrFun ea157 _).trans ((va_up_ne _ _ (by decide)).trans a821)
  have a823 : ad162 52 = (ad109 52) := (ho164 _ (by decide)).trans a822
  have a824 : ad177 52 = (ad109 52) := (congrFun ea178 _).trans ((va_up_ne _ _ (by decide)).trans a823)
  have a825 : ad183 52 = (ad109 52) := (ho185 _ (by decide)).trans a824
  have a826 : ad199 52 = (ad109 52) := (congrFun ea200 _).trans ((va_up_ne _ _ (by decide)).trans a825)
  clear a819 a821 a822 a823 a824 a825
  have a827 : ad205 52 = (ad109 52) := (ho207 _ (by decide)).trans a826
  have z828 : w221 41 = .inr (1, [.int 0, .int 0, .int 0, .int 0, .int 0, .ref (ad205 42), .ref (ad205 43), .ref (ad205 44), .ref (ad205 45), .ref (ad205 46), .ref (ad205 47), .ref (ad205 48), .ref (ad205 50), .ref (ad205 52)]) := by rw [a771, a778, a785, a792, a799, a806, a813, a820, a827]; exact f764
  clear a826 f764 a771 a778 a785 a792 a799 a806 a813 a820 a827
  have f829 : w221 42 = .inl (cI, 7, .inl (fun _ => 0)) := ((congrFun e222 _).trans ((va_up_ne _ _ (by decide)).trans ((congrFun e219 _).trans ((va_up_ne _ _ (by decide)).trans ((congrFun e216 _).trans ((va_up_ne _ _ (by decide)).trans ((hf211 _ (by decide)).trans ((congrFun ew202 _).trans ((va_up_ne _ _ (by decide)).trans ((congrFun e196 _).trans ((va_up_ne _ _ (by decide)).trans ((hf191 _ (by decide)).trans ((congrFun ew180 _).trans ((va_up_ne _ _ (by decide)).trans ((congrFun e174 _).trans ((va_up_ne _ _ (by decide)).trans ((hf169 _ (by decide)).trans ((congrFun ew159 _).trans ((va_up_ne _ _ (by decide)).trans ((congrFun e153 _).trans ((va_up_ne _ _ (by decide)).trans ((congrFun ew147 _).trans ((va_up_ne _ _ (by decide)).trans ((congrFun e141 _).trans ((va_up_ne _ _ (by decide)).trans ((congrFun e132 _).trans ((va_up_ne _ _ (by decide)).trans f114)))))))))))))))))))))))))))
  have f830 : w221 43 = .inl (cI, 7, .inl (fun _ => 0)) := ((congrFun e222 _).trans ((va_up_ne _ _ (by decide)).trans ((congrFun e219 _).trans ((va_up_ne _ _ (by decide)).trans ((congrFun e216 _).trans ((va_up_ne _ _ (by decide)).trans ((hf211 _ (by decide)).trans ((congrFun ew202 _).trans ((va_up_ne _ _ (by decide)).trans ((congrFun e196 _).trans ((va_up_ne _ _ (by decide)).trans ((hf191 _ (by decide)).trans ((congrFun ew180 _).trans ((va_up_ne _ _ (by decide)).trans ((congrFun e174 _).trans ((va_up_ne _ _ (by decide)).trans ((hf169 _ (by decide)).trans ((congrFun ew159 _).trans ((va_up_ne _ _ (by decide)).trans ((congrFun e153 _).trans ((va_up_ne _ _ (by decide)).trans ((congrFun ew147 _).trans ((va_up_ne _ _ (by decide)).trans ((congrFun e141 _).trans ((va_up_ne _ _ (by decide)).trans ((congrFun e132 _).trans ((va_up_ne _ _ (by decide)).trans f115)))))))))))))))))))))))))))
  have f831 : w221 44 = .inl (cI, 7, .inl (fun _ => 0)) := ((congrFun e222 _).trans ((va_up_ne _ _ (by decide)).trans ((congrFun e219 _).trans ((va_up_ne _ _ (by decide)).trans ((congrFun e216 _).trans ((va_up_ne _ _ (by decide)).trans ((hf211 _ (by decide)).trans ((congrFun ew202 _).trans ((va_up_ne _ _ (by decide)).trans ((congrFun e196 _).trans ((va_up_ne _ _ (by decide)).trans ((hf191 _ (by decide)).trans ((congrFun ew180 _).trans ((va_up_ne _ _ (by decide)).trans ((congrFun e174 _).trans ((va_up_ne _ _ (by decide)).trans ((hf169 _ (by decide)).trans ((congrFun ew159 _).trans ((va_up_ne _ _ (by decide)).trans ((congrFun e153 _).trans ((va_up_ne _ _ (by decide)).trans ((congrFun ew147 _).trans ((va_up_ne _ _ (by decide)).trans ((congrFun e141 _).trans ((va_up_ne _ _ (by decide)).trans ((congrFun e132 _).trans ((va_up_ne _ _ (by decide)).trans f116)))))))))))))))))))))))))))
  have f832 : w221 45 = .inl (cI, 4, .inl (fun _ => 0)) := ((congrFun e222 _).trans ((va_up_ne _ _ (by decide)).trans ((congrFun e219 _).trans ((va_up_ne _ _ (by decide)).trans ((congrFun e216 _).trans ((va_up_ne _ _ (by decide)).trans ((hf211 _ (by decide)).trans ((congrFun ew202 _).trans ((va_up_ne _ _ (by decide)).trans ((congrFun e196 _).trans ((va_up_ne _ _ (by decide)).trans ((hf191 _ (by decide)).trans ((congrFun ew180 _).trans ((va_up_ne _ _ (by decide)).trans ((congrFun e174 _).trans ((va_up_ne _ _ (by decide)).trans ((hf169 _ (by decide)).trans ((congrFun ew159 _).trans ((va_up_ne _ _ (by decide)).trans ((congrFun e153 _).trans ((va_up_ne _ _ (by decide)).trans ((congrFun ew147 _).trans ((va_up_ne _ _ (by decide)).trans ((congrFun e141 _).trans ((va_up_ne _ _ (by decide)).trans ((congrFun e132 _).trans ((va_up_ne _ _ (by decide)).trans f117)))))))))))))))))))))))))))
  have f833 : w221 46 = .inl (cI, 4, .inl (fun _ => 0)) := ((congrFun e222 _).trans ((va_up_ne _ _ (by decide)).trans ((congrFun e219 _).trans ((va_up_ne _ _ (by decide)).trans ((congrFun e216 _).trans ((va_up_ne _ _ (by decide)).trans ((hf211 _ (by decide)).trans ((congrFun ew202 _).trans ((va_up_ne _ _ (by decide)).trans ((congrFun e196 _).trans ((va_up_ne _ _ (by decide)).trans ((hf191 _ (by decide)).trans ((congrFun ew180 _).trans ((va_up_ne _ _ (by decide)).trans ((congrFun e174 _).trans ((va_up_ne _ _ (by decide)).trans ((hf169 _ (by decide)).trans ((congrFun ew159 _).trans ((va_up_ne _ _ (by decide)).trans ((congrFun e153 _).trans ((va_up_ne _ _ (by decide)).trans ((congrFun ew147 _).trans ((va_up_ne _ _ (by decide)).trans ((congrFun e141 _).trans ((va_up_ne _ _ (by decide)).trans ((congrFun e132 _).trans ((va_up_ne _ _ (by decide)).trans f118)))))))))))))))))))))))))))
  have f834 : w221 47 = .inl (cI, 4, .inl (fun _ => 0)) := ((congrFun e222 _).trans ((va_up_ne _ _ (by decide)).trans ((congrFun e219 _).trans ((va_up_ne _ _ (by decide)).trans ((congrFun e216 _).trans ((va_up_ne _ _ (by decide)).trans ((hf211 _ (by decide)).trans ((congrFun ew202 _).trans ((va_up_ne _ _ (by decide)).trans ((congrFun e196 _).trans ((va_up_ne _ _ (by decide)).trans ((hf191 _ (by decide)).trans ((congrFun ew180 _).trans ((va_up_ne _ _ (by decide)).trans ((congrFun e174 _).trans ((va_up_ne _ _ (by decide)).trans ((hf169 _ (by decide)).trans ((congrFun ew159 _).trans ((va_up_ne _ _ (by decide)).trans ((congrFun e153 _).trans ((va_up_ne _ _ (by decide)).trans ((congrFun ew147 _).trans ((va_up_ne _ _ (by decide)).trans ((congrFun e141 _).trans ((va_up_ne _ _ (by decide)).trans ((congrFun e132 _).trans ((va_up_ne _ _ (by decide)).trans f119)))))))))))))))))))))))))))
  clear f114 f115 f116 f117 f118 f119
  have f835 : w221 48 = .inr (4, [.ref (ad109 49), .int 0]) := ((congrFun e222 _).trans ((va_up_ne _ _ (by decide)).trans ((congrFun e219 _).trans ((va_up_ne _ _ (by decide)).trans ((congrFun e216 _).trans ((va_up_ne _ _ (by decide)).trans ((hf211 _ (by decide)).trans ((congrFun ew202 _).trans ((va_up_ne _ _ (by decide)).trans ((congrFun e196 _).trans ((va_up_ne _ _ (by decide)).trans ((hf191 _ (by decide)).trans ((congrFun ew180 _).trans ((va_up_ne _ _ (by decide)).trans ((congrFun e174 _).trans ((va_up_ne _ _ (by decide)).trans ((hf169 _ (by decide)).trans ((congrFun ew159 _).trans ((va_up_ne _ _ (by decide)).trans ((congrFun e153 _).trans ((va_up_ne _ _ (by decide)).trans ((congrFun ew147 _).trans ((va_up_ne _ _ (by decide)).trans ((congrFun e141 _).trans ((va_up_ne _ _ (by decide)).trans ((congrFun e132 _).trans ((va_up_ne _ _ (by decide)).trans f120)))))))))))))))))))))))))))
  have a836 : ad144 49 = (ad109 49) := (congrFun ea145 _).trans ((va_up_ne _ _ (by decide)).trans (rfl : ad109 49 = ad109 49))
  have a837 : ad156 49 = (ad109 49) := (congrFun ea157 _).trans ((va_up_ne _ _ (by decide)).trans a836)
  have a838 : ad162 49 = (ad109 49) := (ho164 _ (by decide)).trans a837
  have a839 : ad177 49 = (ad109 49) := (congrFun ea178 _).trans ((va_up_ne _ _ (by decide)).trans a838)
  have a840 : ad183 49 = (ad109 49) := (ho185 _ (by decide)).trans a839
  have a841 : ad199 49 = (ad109 49) := (congrFun ea200 _).trans ((va_up_ne _ _ (by decide)).trans a840)
  clear f120 a836 a837 a838 a839 a840
  have a842 : ad205 49 = (ad109 49) := (ho207 _ (by decide)).trans a841
  have z843 : w221 48 = .inr (4, [.ref (ad205 49), .int 0]) := by rw [a842]; exact f835
  have f844 : w221 49 = .inl (cI, 24, .inl (fun _ => 0)) := ((congrFun e222 _).trans ((va_up_ne _ _ (by decide)).trans ((congrFun e219 _).trans ((va_up_ne _ _ (by decide)).trans ((congrFun e216 _).trans ((va_up_ne _ _ (by decide)).trans ((hf211 _ (by decide)).trans ((congrFun ew202 _).trans ((va_up_ne _ _ (by decide)).trans ((congrFun e196 _).trans ((va_up_ne _ _ (by decide)).trans ((hf191 _ (by decide)).trans ((congrFun ew180 _).trans ((va_up_ne _ _ (by decide)).trans ((congrFun e174 _).trans ((va_up_ne _ _ (by decide)).trans ((hf169 _ (by decide)).trans ((congrFun ew159 _).trans ((va_up_ne _ _ (by decide)).trans ((congrFun e153 _).trans ((va_up_ne _ _ (by decide)).trans ((congrFun ew147 _).trans ((va_up_ne _ _ (by decide)).trans ((congrFun e141 _).trans ((va_up_ne _ _ (by decide)).trans ((congrFun e132 _).trans ((va_up_ne _ _ (by decide)).trans f121)))))))))))))))))))))))))))
  have f845 : w221 50 = .inr (4, [.ref (ad109 51), .int 0]) := ((congrFun e222 _).trans ((va_up_ne _ _ (by decide)).trans ((congrFun e219 _).trans ((va_up_ne _ _ (by decide)).trans ((congrFun e216 _).trans ((va_up_ne _ _ (by decide)).trans ((hf211 _ (by decide)).trans ((congrFun ew202 _).trans ((va_up_ne _ _ (by decide)).trans ((congrFun e196 _).trans ((va_up_ne _ _ (by decide)).trans ((hf191 _ (by decide)).trans ((congrFun ew180 _).trans ((va_up_ne _ _ (by decide)).trans ((congrFun e174 _).trans ((va_up_ne _ _ (by decide)).trans ((hf169 _ (by decide)).trans ((congrFun ew159 _).trans ((va_up_ne _ _ (by decide)).trans ((congrFun e153 _).trans ((va_up_ne _ _ (by decide)).trans ((congrFun ew147 _).trans ((va_up_ne _ _ (by decide)).trans ((congrFun e141 _).trans ((va_up_ne _ _ (by decide)).trans ((congrFun e132 _).trans ((va_up_ne _ _ (by decide)).trans f122)))))))))))))))))))))))))))
  have a846 : ad144 51 = (ad109 51) := (congrFun ea145 _).trans ((va_up_ne _ _ (by decide)).trans (rfl : ad109 51 = ad109 51))
  have a847 : ad156 51 = (ad109 51) := (congrFun ea157 _).trans ((va_up_ne _ _ (by decide)).trans a846)
  clear a841 f835 a842 f121 f122 a846
  have a848 : ad162 51 = (ad109 51) := (ho164 _ (by decide)).trans a847
  have a849 : ad177 51 = (ad109 51) := (congrFun ea178 _).trans ((va_up_ne _ _ (by decide)).trans a848)
  have a850 : ad183 51 = (ad109 51) := (ho185 _ (by decide)).trans a849
  have a851 : ad199 51 = (ad109 51) := (congrFun ea200 _).trans ((va_up_ne _ _ (by decide)).trans a850)
  have a852 : ad205 51 = (ad109 51) := (ho207 _ (by decide)).trans a851
  have z853 : w221 50 = .inr (4, [.ref (ad205 51), .int 0]) := by rw [a852]; exact f845
  clear a847 a848 a849 a850 a851 f845 a852
  have f854 : w221 51 = .inl (cI, 24, .inl (fun _ => 0)) := ((congrFun e222 _).trans ((va_up_ne _ _ (by decide)).trans ((congrFun e219 _).trans ((va_up_ne _ _ (by decide)).trans ((congrFun e216 _).trans ((va_up_ne _ _ (by decide)).trans ((hf211 _ (by decide)).trans ((congrFun ew202 _).trans ((va_up_ne _ _ (by decide)).trans ((congrFun e196 _).trans ((va_up_ne _ _ (by decide)).trans ((hf191 _ (by decide)).trans ((congrFun ew180 _).trans ((va_up_ne _ _ (by decide)).trans ((congrFun e174 _).trans ((va_up_ne _ _ (by decide)).trans ((hf169 _ (by decide)).trans ((congrFun ew159 _).trans ((va_up_ne _ _ (by decide)).trans ((congrFun e153 _).trans ((va_up_ne _ _ (by decide)).trans ((congrFun ew147 _).trans ((va_up_ne _ _ (by decide)).trans ((congrFun e141 _).trans ((va_up_ne _ _ (by decide)).trans ((congrFun e132 _).trans ((va_up_ne _ _ (by decide)).trans f123)))))))))))))))))))))))))))
  have f855 : w221 52 = .inr (2, [.ref (ad109 53), .int 0]) := ((congrFun e222 _).trans ((va_up_ne _ _ (by decide)).trans ((congrFun e219 _).trans ((va_up_ne _ _ (by decide)).trans ((congrFun e216 _).trans ((va_up_ne _ _ (by decide)).trans ((hf211 _ (by decide)).trans ((congrFun ew202 _).trans ((va_up_ne _ _ (by decide)).trans ((congrFun e196 _).trans ((va_up_ne _ _ (by decide)).trans ((hf191 _ (by decide)).trans ((congrFun ew180 _).trans ((va_up_ne _ _ (by decide)).trans ((congrFun e174 _).trans ((va_up_ne _ _ (by decide)).trans ((hf169 _ (by decide)).trans ((congrFun ew159 _).trans ((va_up_ne _ _ (by decide)).trans ((congrFun e153 _).trans ((va_up_ne _ _ (by decide)).trans ((congrFun ew147 _).trans ((va_up_ne _ _ (by decide)).trans ((congrFun e141 _).trans ((va_up_ne _ _ (by decide)).trans ((congrFun e132 _).trans ((va_up_ne _ _ (by decide)).trans f124)))))))))))))))))))))))))))
  have a856 : ad144 53 = (ad109 53) := (congrFun ea145 _).trans ((va_up_ne _ _ (by decide)).trans (rfl : ad109 53 = ad109 53))
  have a857 : ad156 53 = (ad109 53) := (congrFun ea157 _).trans ((va_up_ne _ _ (by decide)).trans a856)
  have a858 : ad162 53 = (ad109 53) := (ho164 _ (by decide)).trans a857
  have a859 : ad177 53 = (ad109 53) := (congrFun ea178 _).trans ((va_up_ne _ _ (by decide)).trans a858)
  have a860 : ad183 53 = (ad109 53) := (ho185 _ (by decide)).trans a859
  clear f123 f124 a856 a857 a858 a859
  have a861 : ad199 53 = (ad109 53) := (congrFun ea200 _).trans ((va_up_ne _ _ (by decide)).trans a860)
  have a862 : ad205 53 = (ad109 53) := (ho207 _ (by decide)).trans a861
  have z863 : w221 52 = .inr (2, [.ref (ad205 53), .int 0]) := by rw [a862]; exact f855
  have f864 : w221 53 = .inl (cI, 88, .inl (fun _ => 0)) := ((congrFun e222 _).trans ((va_up_ne _ _ (by decide)).trans ((congrFun e219 _).trans ((va_up_ne _ _ (by decide)).trans ((congrFun e216 _).trans ((va_up_ne _ _ (by decide)).trans ((hf211 _ (by decide)).trans ((congrFun ew202 _).trans ((va_up_ne _ _ (by decide)).trans ((congrFun e196 _).trans ((va_up_ne _ _ (by decide)).trans ((hf191 _ (by decide)).trans ((congrFun ew180 _).trans ((va_up_ne _ _ (by decide)).trans ((congrFun e174 _).trans ((va_up_ne _ _ (by decide)).trans ((hf169 _ (by decide)).trans ((congrFun ew159 _).trans ((va_up_ne _ _ (by decide)).trans ((congrFun e153 _).trans ((va_up_ne _ _ (by decide)).trans ((congrFun ew147 _).trans ((va_up_ne _ _ (by decide)).trans ((congrFun e141 _).trans ((va_up_ne _ _ (by decide)).trans ((congrFun e132 _).trans ((va_up_ne _ _ (by decide)).trans f125)))))))))))))))))))))))))))
  have f865 : w221 54 = .inl (cZ, 2, .inl (fun _ => 0)) := ((congrFun e222 _).trans ((va_up_ne _ _ (by decide)).trans ((congrFun e219 _).trans ((va_up_ne _ _ (by decide)).trans ((congrFun e216 _).trans ((va_up_ne _ _ (by decide)).trans ((hf211 _ (by decide)).trans ((congrFun ew202 _).trans ((va_up_ne _ _ (by decide)).trans ((congrFun e196 _).trans ((va_up_ne _ _ (by decide)).trans ((hf191 _ (by decide)).trans ((congrFun ew180 _).trans ((va_up_ne _ _ (by decide)).trans ((congrFun e174 _).trans ((va_up_ne _ _ (by decide)).trans ((hf169 _ (by decide)).trans ((congrFun ew159 _).trans ((va_up_ne _ _ (by decide)).trans ((congrFun e153 _).trans ((va_up_ne _ _ (by decide)).trans f149)))))))))))))))))))))
  clear a860 a861 f855 a862 f125 f149 hf169
  have f866 : w221 55 = .inr (5, [.ref (ad162 56), .ref (ad162 57), .int 0, .int 0, .int 0, .int 0, .int 0]) := ((congrFun e222 _).trans ((va_up_ne _ _ (by decide)).trans ((congrFun e219 _).trans ((va_up_ne _ _ (by decide)).trans ((congrFun e216 _).trans ((va_up_ne _ _ (by decide)).trans ((hf211 _ (by decide)).trans ((congrFun ew202 _).trans ((va_up_ne _ _ (by decide)).trans ((congrFun e196 _).trans ((va_up_ne _ _ (by decide)).trans ((hf191 _ (by decide)).trans ((congrFun ew180 _).trans ((va_up_ne _ _ (by decide)).trans ((congrFun e174 _).trans ((va_up_ne _ _ (by decide)).trans f166))))))))))))))))
  have a867 : ad177 56 = (ad162 56) := (congrFun ea178 _).trans ((va_up_ne _ _ (by decide)).trans (rfl : ad162 56 = ad162 56))
  have a868 : ad183 56 = (ad162 56) := (ho185 _ (by decide)).trans a867
  have a869 : ad199 56 = (ad162 56) := (congrFun ea200 _).trans ((va_up_ne _ _ (by decide)).trans a868)
  have a870 : ad205 56 = (ad162 56) := (ho207 _ (by decide)).trans a869
  have a871 : ad177 57 = (ad162 57) := (congrFun ea178 _).trans ((va_up_ne _ _ (by decide)).trans (rfl : ad162 57 = ad162 57))
  have a872 : ad183 57 = (ad162 57) := (ho185 _ (by decide)).trans a871
  have a873 : ad199 57 = (ad162 57) := (congrFun ea200 _).trans ((va_up_ne _ _ (by decide)).trans a872)
  clear f166 a867 a868 a869 a871 a872
  have a874 : ad205 57 = (ad162 57) := (ho207 _ (by decide)).trans a873
  have z875 : w221 55 = .inr (5, [.ref (ad205 56), .ref (ad205 57), .int 0, .int 0, .int 0, .int 0, .int 0]) := by rw [a870, a874]; exact f866
  have f876 : w221 56 = .inl (cB, 150, .inl (fun _ => 0)) := ((congrFun e222 _).trans ((va_up_ne _ _ (by decide)).trans ((congrFun e219 _).trans ((va_up_ne _ _ (by decide)).trans ((congrFun e216 _).trans ((va_up_ne _ _ (by decide)).trans ((hf211 _ (by decide)).trans ((congrFun ew202 _).trans ((va_up_ne _ _ (by decide)).trans ((congrFun e196 _).trans ((va_up_ne _ _ (by decide)).trans ((hf191 _ (by decide)).trans ((congrFun ew180 _).trans ((va_up_ne _ _ (by decide)).trans ((congrFun e174 _).trans ((va_up_ne _ _ (by decide)).trans f167))))))))))))))))
  have f877 : w221 57 = .inl (cI, 3, .inl (fun _ => 0)) := ((congrFun e222 _).trans ((va_up_ne _ _ (by decide)).trans ((congrFun e219 _).trans ((va_up_ne _ _ (by decide)).trans ((congrFun e216 _).trans ((va_up_ne _ _ (by decide)).trans ((hf211 _ (by decide)).trans ((congrFun ew202 _).trans ((va_up_ne _ _ (by decide)).trans ((congrFun e196 _).trans ((va_up_ne _ _ (by decide)).trans ((hf191 _ (by decide)).trans ((congrFun ew180 _).trans ((va_up_ne _ _ (by decide)).trans ((congrFun e174 _).trans ((va_up_ne _ _ (by decide)).trans f168))))))))))))))))
  clear a873 f866 a870 a874 f167 f168 hf191
  have f878 : w221 58 = .inr (3, [.ref (ad183 59), .ref (ad183 60), .ref (ad183 61), .int 0, .int 0, .int 0]) := ((congrFun e222 _).trans ((va_up_ne _ _ (by decide)).trans ((congrFun e219 _).trans ((va_up_ne _ _ (by decide)).trans ((congrFun e216 _).trans ((va_up_ne _ _ (by decide)).trans ((hf211 _ (by decide)).trans ((congrFun ew202 _).trans ((va_up_ne _ _ (by decide)).trans ((congrFun e196 _).trans ((va_up_ne _ _ (by decide)).trans f187)))))))))))
  have a879 : ad199 59 = (ad183 59) := (congrFun ea200 _).trans ((va_up_ne _ _ (by decide)).trans (rfl : ad183 59 = ad183 59))
  have a880 : ad205 59 = (ad183 59) := (ho207 _ (by decide)).trans a879
  have a881 : ad199 60 = (ad183 60) := (congrFun ea200 _).trans ((va_up_ne _ _ (by decide)).trans (rfl : ad183 60 = ad183 60))
  have a882 : ad205 60 = (ad183 60) := (ho207 _ (by decide)).trans a881
  have a883 : ad199 61 = (ad183 61) := (congrFun ea200 _).trans ((va_up_ne _ _ (by decide)).trans (rfl : ad183 61 = ad183 61))
  have a884 : ad205 61 = (ad183 61) := (ho207 _ (by decide)).trans a883
  have z885 : w221 58 = .inr (3, [.ref (ad205 59), .ref (ad205 60), .ref (ad205 61), .int 0, .int 0, .int 0]) := by rw [a880, a882, a884]; exact f878
  clear f187 a879 a881 a883 f878 a880 a882 a884
  have f886 : w221 59 = .inl (cI, 28, .inl (fun _ => 0)) := ((congrFun e222 _).trans ((va_up_ne _ _ (by decide)).trans ((congrFun e219 _).trans ((va_up_ne _ _ (by decide)).trans ((congrFun e216 _).trans ((va_up_ne _ _ (by decide)).trans ((hf211 _ (by decide)).trans ((congrFun ew202 _).trans ((va_up_ne _ _ (by decide)).trans ((congrFun e196 _).trans ((va_up_ne _ _ (by decide)).trans f188)))))))))))
  have f887 : w221 60 = .inl (cI, 244, .inl (fun _ => 0)) := ((congrFun e222 _).trans ((va_up_ne _ _ (by decide)).trans ((congrFun e219 _).trans ((va_up_ne _ _ (by decide)).trans ((congrFun e216 _).trans ((va_up_ne _ _ (by decide)).trans ((hf211 _ (by decide)).trans ((congrFun ew202 _).trans ((va_up_ne _ _ (by decide)).trans ((congrFun e196 _).trans ((va_up_ne _ _ (by decide)).trans f189)))))))))))
  have f888 : w221 61 = .inl (cI, 4, .inl (fun _ => 0)) := ((congrFun e222 _).trans ((va_up_ne _ _ (by decide)).trans ((congrFun e219 _).trans ((va_up_ne _ _ (by decide)).trans ((congrFun e216 _).trans ((va_up_ne _ _ (by decide)).trans ((hf211 _ (by decide)).trans ((congrFun ew202 _).trans ((va_up_ne _ _ (by decide)).trans ((congrFun e196 _).trans ((va_up_ne _ _ (by decide)).trans f190)))))))))))
  have f889 : w221 62 = .inr (0, [.ref (ad205 63)]) := ((congrFun e222 _).trans ((va_up_ne _ _ (by decide)).trans ((congrFun e219 _).trans ((va_up_ne _ _ (by decide)).trans ((congrFun e216 _).trans ((va_up_ne _ _ (by decide)).trans f209))))))
  have z890 : w221 62 = .inr (0, [.ref (ad205 63)]) := f889
  clear f188 f189 f190 hf211 f209 f889
  have f891 : w221 63 = .inl (cI, 6, .inl (fun _ => 0)) := ((congrFun e222 _).trans ((va_up_ne _ _ (by decide)).trans ((congrFun e219 _).trans ((va_up_ne _ _ (by decide)).trans ((congrFun e216 _).trans ((va_up_ne _ _ (by decide)).trans f210))))))
  have hF : ∀ k, k < 64 → 0 ≤ k → w221 k = fr0 cI cB cZ cO ad205 k := by
    intro k h1 h2
    match k, h1, h2 with
    | 0, _, _ => exact z274
    | 1, _, _ => exact z402
    | 2, _, _ => exact f403
    | 3, _, _ => exact f404
    | 4, _, _ => exact f405
    | 5, _, _ => exact f406
    | 6, _, _ => exact f407
    | 7, _, _ => exact f408
    | 8, _, _ => exact z424
    | 9, _, _ => exact f425
    | 10, _, _ => exact z441
    | 11, _, _ => exact f442
    | 12, _, _ => exact z458
    | 13, _, _ => exact f459
    | 14, _, _ => exact z569
    | 15, _, _ => exact f570
    | 16, _, _ => exact f571
    | 17, _, _ => exact f572
    | 18, _, _ => exact f573
    | 19, _, _ => exact f574
    | 20, _, _ => exact f575
    | 21, _, _ => exact z589
    | 22, _, _ => exact f590
    | 23, _, _ => exact z604
    | 24, _, _ => exact f605
    | 25, _, _ => exact z619
    | 26, _, _ => exact f620
    | 27, _, _ => exact z622
    | 28, _, _ => exact z721
    | 29, _, _ => exact f722
    | 30, _, _ => exact f723
    | 31, _, _ => exact f724
    | 32, _, _ => exact f725
    | 33, _, _ => exact f726
    | 34, _, _ => exact f727
    | 35, _, _ => exact z738
    | 36, _, _ => exact f739
    | 37, _, _ => exact z750
    | 38, _, _ => exact f751
    | 39, _, _ => exact z762
    | 40, _, _ => exact f763
    | 41, _, _ => exact z828
    | 42, _, _ => exact f829
    | 43, _, _ => exact f830
    | 44, _, _ => exact f831
    | 45, _, _ => exact f832
    | 46, _, _ => exact f833
    | 47, _, _ => exact f834
    | 48, _, _ => exact z843
    | 49, _, _ => exact f844
    | 50, _, _ => exact z853
    | 51, _, _ => exact f854
    | 52, _, _ => exact z863
    | 53, _, _ => exact f864
    | 54, _, _ => exact f865
    | 55, _, _ => exact z875
    | 56, _, _ => exact f876
    | 57, _, _ => exact f877
    | 58, _, _ => exact z885
    | 59, _, _ => exact f886
    | 60, _, _ => exact f887
    | 61, _, _ => exact f888
    | 62, _, _ => exact z890
    | 63, _, _ => exact f891
    | k + 64, h1, _ => exact absurd h1 (Nat.not_lt.mpr (Nat.le_add_left _ _))
  clear f210 f403 f404 f405 f406 f407 f408 f425 f442 f459 f570 f571 f572 f573 f574 f575 f590 f605 f620 f722 f723 f724 f725 f726 f727 f739 f751 f763 f829 f830 f831 f832 f833 f834 f844 f854 f864 f865 f876 f877 f886 f887 f888 f891
  refine e_a (n := 1) (ad := ad) (post := (fun ad1 w1 => (∀ k, k < 64 → 0 ≤ k → w1 k = fr0 cI cB cZ cO ad1 k) ∧ ∀ k, k < 0 → w1 k = w k)) X hD h hr hlk dX8_init_104 ?_ ?_
  · exact (fun k hk => by have e0 : k = 0 := Nat.lt_one_iff.mp hk; rw [e0]; exact (ho207 0 (by decide)).trans (((congrFun ea200 0).trans (va_up_ne _ _ (by decide))).trans ((ho185 0 (by decide)).trans (((congrFun ea178 0).trans (va_up_ne _ _ (by decide))).trans ((ho164 0 (by decide)).trans (((congrFun ea157 0).trans (va_up_ne _ _ (by decide))).trans (((congrFun ea145 0).trans (va_up_ne _ _ (by decide))).trans ((ho111 0 (by decide)).trans (((congrFun ea104 0).trans (va_up_ne _ _ (by decide))).trans ((ho79 0 (by decide)).trans (((congrFun ea72 0).trans (va_up_ne _ _ (by decide))).trans (((congrFun ea65 0).trans (va_up_ne _ _ (by decide))).trans ((ho41 0 (by decide)).trans (((congrFun ea34 0).trans (va_up_ne _ _ (by decide))).trans ((ho10 0 (by decide)).trans ((congrFun ea3 0).trans (va_up_ne _ _ (by decide))))))))))))))))))
  · exact ⟨hF, fun k hk => absurd hk (Nat.not_lt_zero k)⟩
