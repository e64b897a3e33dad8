set_option maxHeartbeats 4000000 in
set_option maxRecDepth 100000 in
theorem c_F1_begin (l : Launch) (G : va_G) (cI cB cZ cO : ClassId) (ad : Nat → Nat) (w : Nat → va_E) (ho so mi ca ja nz mz : Int32) (hh nc mc : Nat → Int32) (ok : OK cI cB cZ cO ad w) (t : Int32)  (n_1 : w 1 = .inr (1, [.int ho, .int so, .int mi, .int ca, .int ja, .ref (ad 2), .ref (ad 3), .ref (ad 4), .ref (ad 5), .ref (ad 6), .ref (ad 7), .ref (ad 8), .ref (ad 10), .ref (ad 12)])) (n_3 : w 3 = .inl (cI, 7, .inl hh)) (n_8 : w 8 = .inr (4, [.ref (ad 9), .int nz])) (n_9 : w 9 = .inl (cI, 24, .inl nc)) (n_10 : w 10 = .inr (4, [.ref (ad 11), .int mz])) (n_11 : w 11 = .inl (cI, 24, .inl mc)) (hrn : rgA 0 9 hh) (hca : 0 ≤ ca.toInt ∧ ca.toInt ≤ 7) (hja : 0 ≤ ja.toInt ∧ ja.toInt ≤ 4) (hnz : 0 ≤ nz.toInt ∧ nz.toInt ≤ 6) (hmz : 0 ≤ mz.toInt ∧ mz.toInt ≤ 6) : NV l G (tyq cI cB cZ cO) yX2_begin cX2_begin 2 1 21 74 ad w [.ref (ad 1), .int t] (fun w1 => OK cI cB cZ cO ad w1 ∧ FR 1 w w1 ∧ IV cI ad 1 w1 0 0 0 0 hh nc mc) := by
  refine nk_v (own := "NoonShade$Isle") rfl (by decide) (Nat.le_of_ble_eq_true rfl) ?_
  intro p e s m below meth c ls X hD hN hr hlk h hl
  have hx := X.1.1
  have hb := X.1.2.1
  have hown := X.1.2.2.2.1
  have hts := X.1.2.2.2.2
  have hl : lv_has ls 2 [(0, .ref (ad 1)), (1, .int t)] := hl
  refine lv_aload_n hx hb dX2_begin_0 rfl (lv_at hl 0 rfl) ?_
  refine lv_iload_n hx hb dX2_begin_1 rfl (lv_at hl 1 rfl) ?_
  refine r_put kc2 X hD h 1 0 (by decide) rfl n_1 (by decide) kv_26 rfl rfl rfl (Nat.le_of_ble_eq_true rfl) dX2_begin_2 (fun H locs w1 e2 h => ?_)
  have f3 : w1 1 = .inr (1, [.int t, .int so, .int mi, .int ca, .int ja, .ref (ad 2), .ref (ad 3), .ref (ad 4), .ref (ad 5), .ref (ad 6), .ref (ad 7), .ref (ad 8), .ref (ad 10), .ref (ad 12)]) := (congrFun e2 _).trans (va_up_self _ _ _)
  have ok4 : OK cI cB cZ cO ad w1 := OK.up ok e2 (sI_mk (by omega) (by omega) (by omega) (by omega))
  have kx5 : FR 1 w w1 := FR.up FR.rf e2 (by decide)
  refine lv_aload_n hx hb dX2_begin_5 rfl (lv_at hl 0 rfl) ?_
  refine lv_iconst (v := 0) hx hb dX2_begin_6 (by decide) ?_
  refine r_put kc2 X hD h 1 1 (by decide) rfl f3 (by decide) kv_52 rfl rfl rfl (Nat.le_of_ble_eq_true rfl) dX2_begin_7 (fun H locs w6 e7 h => ?_)
  have f8 : w6 1 = .inr (1, [.int t, .int 0, .int mi, .int ca, .int ja, .ref (ad 2), .ref (ad 3), .ref (ad 4), .ref (ad 5), .ref (ad 6), .ref (ad 7), .ref (ad 8), .ref (ad 10), .ref (ad 12)]) := (congrFun e7 _).trans (va_up_self _ _ _)
  have ok9 : OK cI cB cZ cO ad w6 := OK.up ok4 e7 (sI_mk (by omega) (by omega) (by omega) (by omega))
  have kx10 : FR 1 w w6 := FR.up kx5 e7 (by decide)
  refine lv_aload_n hx hb dX2_begin_10 rfl (lv_at hl 0 rfl) ?_
  refine lv_iconst (v := 0) hx hb dX2_begin_11 (by decide) ?_
  refine r_put kc2 X hD h 1 2 (by decide) rfl f8 (by decide) kv_19 rfl rfl rfl (Nat.le_of_ble_eq_true rfl) dX2_begin_12 (fun H locs w11 e12 h => ?_)
  have f13 : w11 1 = .inr (1, [.int t, .int 0, .int 0, .int ca, .int ja, .ref (ad 2), .ref (ad 3), .ref (ad 4), .ref (ad 5), .ref (ad 6), .ref (ad 7), .ref (ad 8), .ref (ad 10), .ref (ad 12)]) := (congrFun e12 _).trans (va_up_self _ _ _)
  have ok14 : OK cI cB cZ cO ad w11 := OK.up ok9 e12 (sI_mk (by omega) (by omega) (by omega) (by omega))
  have kx15 : FR 1 w w11 := FR.up kx10 e12 (by decide)
  refine lv_aload_n hx hb dX2_begin_15 rfl (lv_at hl 0 rfl) ?_
  refine lv_iconst (v := 0) hx hb dX2_begin_16 (by decide) ?_
  refine r_put kc2 X hD h 1 3 (by decide) rfl f13 (by decide) kv_17 rfl rfl rfl (Nat.le_of_ble_eq_true rfl) dX2_begin_17 (fun H locs w16 e17 h => ?_)
  have f18 : w16 1 = .inr (1, [.int t, .int 0, .int 0, .int 0, .int ja, .ref (ad 2), .ref (ad 3), .ref (ad 4), .ref (ad 5), .ref (ad 6), .ref (ad 7), .ref (ad 8), .ref (ad 10), .ref (ad 12)]) := (congrFun e17 _).trans (va_up_self _ _ _)
  have ok19 : OK cI cB cZ cO ad w16 := OK.up ok14 e17 (sI_mk (by decide) (by decide) (by omega) (by omega))
  have kx20 : FR 1 w w16 := FR.up kx15 e17 (by decide)
  refine lv_aload_n hx hb dX2_begin_20 rfl (lv_at hl 0 rfl) ?_
  refine lv_iconst (v := 0) hx hb dX2_begin_21 (by decide) ?_
  refine r_put kc2 X hD h 1 4 (by decide) rfl f18 (by decide) kv_18 rfl rfl rfl (Nat.le_of_ble_eq_true rfl) dX2_begin_22 (fun H locs w21 e22 h => ?_)
  have f23 : w21 1 = .inr (1, [.int t, .int 0, .int 0, .int 0, .int 0, .ref (ad 2), .ref (ad 3), .ref (ad 4), .ref (ad 5), .ref (ad 6), .ref (ad 7), .ref (ad 8), .ref (ad 10), .ref (ad 12)]) := (congrFun e22 _).trans (va_up_self _ _ _)
  have ok24 : OK cI cB cZ cO ad w21 := OK.up ok19 e22 (sI_mk (by decide) (by decide) (by decide) (by decide))
  have kx25 : FR 1 w w21 := FR.up kx20 e22 (by decide)
  refine lv_aload_n hx hb dX2_begin_25 rfl (lv_at hl 0 rfl) ?_
  refine r_get kc2 X h 1 11 (by decide) rfl f23 (by decide) kv_60 rfl dX2_begin_26 ?_
  have f26 : w1 8 = .inr (4, [.ref (ad 9), .int nz]) := by rw [e2, va_up_ne _ _ (by decide)]; exact n_8
  have f27 : w6 8 = .inr (4, [.ref (ad 9), .int nz]) := by rw [e7, va_up_ne _ _ (by decide)]; exact f26
  have f28 : w11 8 = .inr (4, [.ref (ad 9), .int nz]) := by rw [e12, va_up_ne _ _ (by decide)]; exact f27
  have f29 : w16 8 = .inr (4, [.ref (ad 9), .int nz]) := by rw [e17, va_up_ne _ _ (by decide)]; exact f28
  have f30 : w21 8 = .inr (4, [.ref (ad 9), .int nz]) := by rw [e22, va_up_ne _ _ (by decide)]; exact f29
  refine n_Vi (na := 0) (As := []) (rest := []) X hD hN h rfl (c_R_empty l G cI cB cZ cO ad w21 8 _ _ (by decide) f30) ⟨kv_61, kv_62, kv_63, kv_64, kv_65⟩ rfl ⟨by decide, by decide, by decide⟩ ⟨Nat.le_of_ble_eq_true rfl, Nat.le_of_ble_eq_true rfl⟩ ⟨Nat.zero_le _, Nat.zero_le _⟩ (by decide) f30 rfl rfl hl.1 rfl (Nat.le_of_ble_eq_true rfl) dX2_begin_29 (fun r31 w32 H locs hp33 h => ?_)
  obtain ⟨e34r, e34⟩ := hp33
  subst e34r
  have f35 : w32 8 = .inr (4, [.ref (ad 9), .int 0]) := (congrFun e34 _).trans (va_up_self _ _ _)
  have ok36 : OK cI cB cZ cO ad w32 := OK.up ok24 e34 (sR_mk (by decide) (by decide))
  have kx37 : FR 1 w w32 := FR.up kx25 e34 (by decide)
  refine lv_pop hx hb dX2_begin_32 rfl ?_
  refine lv_aload_n hx hb dX2_begin_33 rfl (lv_at hl 0 rfl) ?_
  have f38 : w32 1 = .inr (1, [.int t, .int 0, .int 0, .int 0, .int 0, .ref (ad 2), .ref (ad 3), .ref (ad 4), .ref (ad 5), .ref (ad 6), .ref (ad 7), .ref (ad 8), .ref (ad 10), .ref (ad 12)]) := by rw [e34, va_up_ne _ _ (by decide)]; exact f23
  refine r_get kc2 X h 1 12 (by decide) rfl f38 (by decide) kv_66 rfl dX2_begin_34 ?_
  have f39 : w1 10 = .inr (4, [.ref (ad 11), .int mz]) := by rw [e2, va_up_ne _ _ (by decide)]; exact n_10
  have f40 : w6 10 = .inr (4, [.ref (ad 11), .int mz]) := by rw [e7, va_up_ne _ _ (by decide)]; exact f39
  have f41 : w11 10 = .inr (4, [.ref (ad 11), .int mz]) := by rw [e12, va_up_ne _ _ (by decide)]; exact f40
  have f42 : w16 10 = .inr (4, [.ref (ad 11), .int mz]) := by rw [e17, va_up_ne _ _ (by decide)]; exact f41
  have f43 : w21 10 = .inr (4, [.ref (ad 11), .int mz]) := by rw [e22, va_up_ne _ _ (by decide)]; exact f42
  have f44 : w32 10 = .inr (4, [.ref (ad 11), .int mz]) := by rw [e34, va_up_ne _ _ (by decide)]; exact f43
  refine n_Vi (na := 0) (As := []) (rest := []) X hD hN h rfl (c_R_empty l G cI cB cZ cO ad w32 10 _ _ (by decide) f44) ⟨kv_61, kv_62, kv_63, kv_64, kv_65⟩ rfl ⟨by decide, by decide, by decide⟩ ⟨Nat.le_of_ble_eq_true rfl, Nat.le_of_ble_eq_true rfl⟩ ⟨Nat.zero_le _, Nat.zero_le _⟩ (by decide) f44 rfl rfl hl.1 rfl (Nat.le_of_ble_eq_true rfl) dX2_begin_37 (fun r45 w46 H locs hp47 h => ?_)
  obtain ⟨e48r, e48⟩ := hp47
  subst e48r
  have f49 : w46 10 = .inr (4, [.ref (ad 11), .int 0]) := (congrFun e48 _).trans (va_up_self _ _ _)
  have ok50 : OK cI cB cZ cO ad w46 := OK.up ok36 e48 (sR_mk (by decide) (by decide))
  have kx51 : FR 1 w w46 := FR.up kx37 e48 (by decide)
  refine lv_pop hx hb dX2_begin_40 rfl ?_
  refine lv_aload_n hx hb dX2_begin_41 rfl (lv_at hl 0 rfl) ?_
  have f52 : w46 1 = .inr (1, [.int t, .int 0, .int 0, .int 0, .int 0, .ref (ad 2), .ref (ad 3), .ref (ad 4), .ref (ad 5), .ref (ad 6), .ref (ad 7), .ref (ad 8), .ref (ad 10), .ref (ad 12)]) := by rw [e48, va_up_ne _ _ (by decide)]; exact f38
  refine r_get kc2 X h 1 13 (by decide) rfl f52 (by decide) kv_67 rfl dX2_begin_42 ?_
  obtain ⟨z54, f53, h55, h56⟩ := (show sR ad 2 13 8 (w46 12) from ok50 12 (by decide))
  have f57 : w46 12 = .inr (2, [.ref (ad 13), .int z54]) := f53
  refine n_Vv (na := 0) (As := []) (rest := []) X hD hN h rfl (c_P_empty l G cI cB cZ cO ad w46 12 _ _ (by decide) f57) ⟨kv_68, kv_69, kv_70, kv_71, kv_72⟩ rfl ⟨by decide, by decide, by decide⟩ ⟨Nat.le_of_ble_eq_true rfl, Nat.le_of_ble_eq_true rfl⟩ ⟨Nat.zero_le _, Nat.zero_le _⟩ (by decide) f57 rfl rfl hl.1 rfl (Nat.le_of_ble_eq_true rfl) dX2_begin_45 (fun w59 H locs hp60 h => ?_)
  have e61 := hp60
  have f62 : w59 12 = .inr (2, [.ref (ad 13), .int 0]) := (congrFun e61 _).trans (va_up_self _ _ _)
  have ok63 : OK cI cB cZ cO ad w59 := OK.up ok50 e61 (sR_mk (by decide) (by decide))
  have kx64 : FR 1 w w59 := FR.up kx51 e61 (by decide)
  have f65 : w59 1 = .inr (1, [.int t, .int 0, .int 0, .int 0, .int 0, .ref (ad 2), .ref (ad 3), .ref (ad 4), .ref (ad 5), .ref (ad 6), .ref (ad 7), .ref (ad 8), .ref (ad 10), .ref (ad 12)]) := by rw [e61, va_up_ne _ _ (by decide)]; exact f52
  have f66 : w1 3 = .inl (cI, 7, .inl hh) := by rw [e2, va_up_ne _ _ (by decide)]; exact n_3
  have f67 : w6 3 = .inl (cI, 7, .inl hh) := by rw [e7, va_up_ne _ _ (by decide)]; exact f66
  have f68 : w11 3 = .inl (cI, 7, .inl hh) := by rw [e12, va_up_ne _ _ (by decide)]; exact f67
  have f69 : w16 3 = .inl (cI, 7, .inl hh) := by rw [e17, va_up_ne _ _ (by decide)]; exact f68
  have f70 : w21 3 = .inl (cI, 7, .inl hh) := by rw [e22, va_up_ne _ _ (by decide)]; exact f69
  have f71 : w32 3 = .inl (cI, 7, .inl hh) := by rw [e34, va_up_ne _ _ (by decide)]; exact f70
  have f72 : w46 3 = .inl (cI, 7, .inl hh) := by rw [e48, va_up_ne _ _ (by decide)]; exact f71
  have f73 : w59 3 = .inl (cI, 7, .inl hh) := by rw [e61, va_up_ne _ _ (by decide)]; exact f72
  have f74 : w46 8 = .inr (4, [.ref (ad 9), .int 0]) := by rw [e48, va_up_ne _ _ (by decide)]; exact f35
  have f75 : w59 8 = .inr (4, [.ref (ad 9), .int 0]) := by rw [e61, va_up_ne _ _ (by decide)]; exact f74
  have f76 : w1 9 = .inl (cI, 24, .inl nc) := by rw [e2, va_up_ne _ _ (by decide)]; exact n_9
  have f77 : w6 9 = .inl (cI, 24, .inl nc) := by rw [e7, va_up_ne _ _ (by decide)]; exact f76
  have f78 : w11 9 = .inl (cI, 24, .inl nc) := by rw [e12, va_up_ne _ _ (by decide)]; exact f77
  have f79 : w16 9 = .inl (cI, 24, .inl nc) := by rw [e17, va_up_ne _ _ (by decide)]; exact f78
  have f80 : w21 9 = .inl (cI, 24, .inl nc) := by rw [e22, va_up_ne _ _ (by decide)]; exact f79
  have f81 : w32 9 = .inl (cI, 24, .inl nc) := by rw [e34, va_up_ne _ _ (by decide)]; exact f80
  have f82 : w46 9 = .inl (cI, 24, .inl nc) := by rw [e48, va_up_ne _ _ (by decide)]; exact f81
  have f83 : w59 9 = .inl (cI, 24, .inl nc) := by rw [e61, va_up_ne _ _ (by decide)]; exact f82
  have f84 : w59 10 = .inr (4, [.ref (ad 11), .int 0]) := by rw [e61, va_up_ne _ _ (by decide)]; exact f49
  have f85 : w1 11 = .inl (cI, 24, .inl mc) := by rw [e2, va_up_ne _ _ (by decide)]; exact n_11
  have f86 : w6 11 = .inl (cI, 24, .inl mc) := by rw [e7, va_up_ne _ _ (by decide)]; exact f85
  have f87 : w11 11 = .inl (cI, 24, .inl mc) := by rw [e12, va_up_ne _ _ (by decide)]; exact f86
  have f88 : w16 11 = .inl (cI, 24, .inl mc) := by rw [e17, va_up_ne _ _ (by decide)]; exact f87
  have f89 : w21 11 = .inl (cI, 24, .inl mc) := by rw [e22, va_up_ne _ _ (by decide)]; exact f88
  have f90 : w32 11 = .inl (cI, 24, .inl mc) := by rw [e34, va_up_ne _ _ (by decide)]; exact f89
  have f91 : w46 11 = .inl (cI, 24, .inl mc) := by rw [e48, va_up_ne _ _ (by decide)]; exact f90
  have f92 : w59 11 = .inl (cI, 24, .inl mc) := by rw [e61, va_up_ne _ _ (by decide)]; exact f91
  exact e_v X h hr hlk dX2_begin_48 ⟨ok63, kx64, ⟨by rw [f65]; rfl, f73, f75, f83, f84, f92⟩⟩

set_option maxHeartbeats 4000000 in
set_option maxRecDepth 100000 in
theorem c_F1_addCaster (l : Launch) (G : va_G) (cI cB cZ cO : ClassId) (ad : Nat → Nat) (w : Nat → va_E) (ho so mi ca ja nz mz : Int32) (hh nc mc : Nat → Int32) (ok : OK cI cB cZ cO ad w) (k : Int32) (q : Int32) (t : Int32) (hl_q : 0 ≤ q.toInt) (hh_q : q.toInt ≤ 9) (n_1 : w 1 = .inr (1, [.int ho, .int so, .int mi, .int ca, .int ja, .ref (ad 2), .ref (ad 3), .ref (ad 4), .ref (ad 5), .ref (ad 6), .ref (ad 7), .ref (ad 8), .ref (ad 10), .ref (ad 12)])) (n_3 : w 3 = .inl (cI, 7, .inl hh)) (n_8 : w 8 = .inr (4, [.ref (ad 9), .int nz])) (n_9 : w 9 = .inl (cI, 24, .inl nc)) (n_10 : w 10 = .inr (4, [.ref (ad 11), .int mz])) (n_11 : w 11 = .inl (cI, 24, .inl mc)) (hrn : rgA 0 9 hh) (hca : 0 ≤ ca.toInt ∧ ca.toInt ≤ 7) (hja : 0 ≤ ja.toInt ∧ ja.toInt ≤ 4) (hnz : 0 ≤ nz.toInt ∧ nz.toInt ≤ 6) (hmz : 0 ≤ mz.toInt ∧ mz.toInt ≤ 6) (hlt : ca.toInt < 7) : NI l G (tyq cI cB cZ cO) yX2_addCaster cX2_addCaster 4 (some .int) 0 0 74 ad w [.ref (ad 1), .int k, .int q, .int t] (fun r w1 => OK cI cB cZ cO ad w1 ∧ FR 1 w w1 ∧ ca = r ∧ IV cI ad 1 w1 (ca + 1) ja nz mz (upd hh ca.toNatClampNeg q) nc mc) := by
  refine nk_i (own := "NoonShade$Isle") rfl (by decide) (Nat.le_of_ble_eq_true rfl) ?_
  intro p e s m below meth c ls X hD hN hr hlk h hl
  have hx := X.1.1
  have hb := X.1.2.1
  have hown := X.1.2.2.2.1
  have hts := X.1.2.2.2.2
  have hl : lv_has ls 4 [(0, .ref (ad 1)), (1, .int k), (2, .int q), (3, .int t)] := hl
  have hca0 := hca.1
  have hca1 := hca.2
  have hja0 := hja.1
  have hja1 := hja.2
  have hnz0 := hnz.1
  have hnz1 := hnz.2
  have hmz0 := hmz.1
  have hmz1 := hmz.2
  refine lv_aload_n hx hb dX2_addCaster_0 rfl (lv_at hl 0 rfl) ?_
  refine r_get kc2 X h 1 3 (by decide) rfl n_1 (by decide) kv_17 rfl dX2_addCaster_1 ?_
  refine lv_bipush (v := 7) hx hb dX2_addCaster_4 (by decide) ?_
  refine lv_icmp_lt (tgt := 12) hx hb dX2_addCaster_6 (by decide) (fun hc1 => ?_) (fun hc1 => ?_)
  · have hc1 : (ca).toInt < 7 := i_lt hc1 rfl rfl
    refine lv_aload_n hx hb dX2_addCaster_12 rfl (lv_at hl 0 rfl) ?_
    refine r_get kc2 X h 1 5 (by decide) rfl n_1 (by decide) kv_20 rfl dX2_addCaster_13 ?_
    refine lv_aload_n hx hb dX2_addCaster_16 rfl (lv_at hl 0 rfl) ?_
    refine r_get kc2 X h 1 3 (by decide) rfl n_1 (by decide) kv_17 rfl dX2_addCaster_17 ?_
    refine lv_iload_n hx hb dX2_addCaster_20 rfl (lv_at hl 1 rfl) ?_
    obtain ⟨g3, f2, p4⟩ := (show sA cI 7 (anyA) (w 2) from ok 2 (by decide))
    have f5 : w 2 = .inl (cI, 7, .inl g3) := f2
    obtain ⟨g6, e7⟩ : ∃ z : Nat → Int32, upd g3 ca.toNatClampNeg k = z := ⟨_, rfl⟩
    have p9 : anyA g6 := trivial
    refine o_iast (f1 := g6) X hD h 2 0 (by decide) rfl f5 rfl (in_of (by omega) (by omega)) e7 dX2_addCaster_21 (fun H locs w10 e11 h => ?_)
    have f12 : w10 2 = .inl (cI, 7, .inl g6) := (congrFun e11 _).trans (va_up_self _ _ _)
    have ok13 : OK cI cB cZ cO ad w10 := OK.up ok e11 (sA_mk p9)
    have kx14 : FR 1 w w10 := FR.up FR.rf e11 (by decide)
    refine lv_aload_n hx hb dX2_addCaster_22 rfl (lv_at hl 0 rfl) ?_
    have f15 : w10 1 = .inr (1, [.int ho, .int so, .int mi, .int ca, .int ja, .ref (ad 2), .ref (ad 3), .ref (ad 4), .ref (ad 5), .ref (ad 6), .ref (ad 7), .ref (ad 8), .ref (ad 10), .ref (ad 12)]) := by rw [e11, va_up_ne _ _ (by decide)]; exact n_1
    refine r_get kc2 X h 1 6 (by decide) rfl f15 (by decide) kv_21 rfl dX2_addCaster_23 ?_
    refine lv_aload_n hx hb dX2_addCaster_26 rfl (lv_at hl 0 rfl) ?_
    refine r_get kc2 X h 1 3 (by decide) rfl f15 (by decide) kv_17 rfl dX2_addCaster_27 ?_
    refine lv_iload_n hx hb dX2_addCaster_30 rfl (lv_at hl 2 rfl) ?_
    have f16 : w10 3 = .inl (cI, 7, .inl hh) := by rw [e11, va_up_ne _ _ (by decide)]; exact n_3
    obtain ⟨g17, e18⟩ : ∃ z : Nat → Int32, upd hh ca.toNatClampNeg q = z := ⟨_, rfl⟩
    have p20 : rgA 0 9 g17 := rgA_upd hrn e18 (by omega) (by omega)
    refine o_iast (f1 := g17) X hD h 3 0 (by decide) rfl f16 rfl (in_of (by omega) (by omega)) e18 dX2_addCaster_31 (fun H locs w21 e22 h => ?_)
    have f23 : w21 3 = .inl (cI, 7, .inl g17) := (congrFun e22 _).trans (va_up_self _ _ _)
    have ok24 : OK cI cB cZ cO ad w21 := OK.up ok13 e22 (sA_mk p20)
    have kx25 : FR 1 w w21 := FR.up kx14 e22 (by decide)
    refine lv_aload_n hx hb dX2_addCaster_32 rfl (lv_at hl 0 rfl) ?_
    have f26 : w21 1 = .inr (1, [.int ho, .int so, .int mi, .int ca, .int ja, .ref (ad 2), .ref (ad 3), .ref (ad 4), .ref (ad 5), .ref (ad 6), .ref (ad 7), .ref (ad 8), .ref (ad 10), .ref (ad 12)]) := by rw [e22, va_up_ne _ _ (by decide)]; exact f15
    refine r_get kc2 X h 1 7 (by decide) rfl f26 (by decide) kv_22 rfl dX2_addCaster_33 ?_
    refine lv_aload_n hx hb dX2_addCaster_36 rfl (lv_at hl 0 rfl) ?_
    refine r_get kc2 X h 1 3 (by decide) rfl f26 (by decide) kv_17 rfl dX2_addCaster_37 ?_
    refine lv_iload_n hx hb dX2_addCaster_40 rfl (lv_at hl 3 rfl) ?_
    obtain ⟨g28, f27, p29⟩ := (show sA cI 7 (anyA) (w21 4) from ok24 4 (by decide))
    have f30 : w21 4 = .inl (cI, 7, .inl g28) := f27
    obtain ⟨g31, e32⟩ : ∃ z : Nat → Int32, upd g28 ca.toNatClampNeg t = z := ⟨_, rfl⟩
    have p34 : anyA g31 := trivial
    refine o_iast (f1 := g31) X hD h 4 0 (by decide) rfl f30 rfl (in_of (by omega) (by omega)) e32 dX2_addCaster_41 (fun H locs w35 e36 h => ?_)
    have f37 : w35 4 = .inl (cI, 7, .inl g31) := (congrFun e36 _).trans (va_up_self _ _ _)
    have ok38 : OK cI cB cZ cO ad w35 := OK.up ok24 e36 (sA_mk p34)
    have kx39 : FR 1 w w35 := FR.up kx25 e36 (by decide)
    refine lv_aload_n hx hb dX2_addCaster_42 rfl (lv_at hl 0 rfl) ?_
    refine lv_dup hx hb dX2_addCaster_43 rfl ?_
    have f40 : w35 1 = .inr (1, [.int ho, .int so, .int mi, .int ca, .int ja, .ref (ad 2), .ref (ad 3), .ref (ad 4), .ref (ad 5), .ref (ad 6), .ref (ad 7), .ref (ad 8), .ref (ad 10), .ref (ad 12)]) := by rw [e36, va_up_ne _ _ (by decide)]; exact f26
    refine r_get kc2 X h 1 3 (by decide) rfl f40 (by decide) kv_17 rfl dX2_addCaster_44 ?_
    refine lv_iconst (v := 1) hx hb dX2_addCaster_47 (by decide) ?_
    obtain ⟨z43, e41, t42⟩ := x_add (x := ca) (y := (1 : Int32)) (a := (ca).toInt) (b := 1) rfl rfl (by omega) (by omega)
    have n44 : z43.toNatClampNeg = ca.toNatClampNeg + 1 := cl_addn (x := ca) (y := (1 : Int32)) rfl rfl t42 (by omega) (by decide)
    refine o_iadd (z := z43) hx hb dX2_addCaster_48 e41 ?_
    refine r_put kc2 X hD h 1 3 (by decide) rfl f40 (by decide) kv_17 rfl rfl rfl (Nat.le_of_ble_eq_true rfl) dX2_addCaster_49 (fun H locs w45 e46 h => ?_)
    have f47 : w45 1 = .inr (1, [.int ho, .int so, .int mi, .int z43, .int ja, .ref (ad 2), .ref (ad 3), .ref (ad 4), .ref (ad 5), .ref (ad 6), .ref (ad 7), .ref (ad 8), .ref (ad 10), .ref (ad 12)]) := (congrFun e46 _).trans (va_up_self _ _ _)
    have ok48 : OK cI cB cZ cO ad w45 := OK.up ok38 e46 (sI_mk (by omega) (by omega) (by omega) (by omega))
    have kx49 : FR 1 w w45 := FR.up kx39 e46 (by decide)
    refine lv_aload_n hx hb dX2_addCaster_52 rfl (lv_at hl 0 rfl) ?_
    refine r_get kc2 X h 1 3 (by decide) rfl f47 (by decide) kv_17 rfl dX2_addCaster_53 ?_
    refine lv_iconst (v := 1) hx hb dX2_addCaster_56 (by decide) ?_
    obtain ⟨z52, e50, t51⟩ := x_sub (x := z43) (y := (1 : Int32)) (a := (z43).toInt) (b := 1) rfl rfl (by omega) (by omega)
    refine o_isub (z := z52) hx hb dX2_addCaster_57 e50 ?_
    have f53 : w35 3 = .inl (cI, 7, .inl g17) := by rw [e36, va_up_ne _ _ (by decide)]; exact f23
    have f54 : w45 3 = .inl (cI, 7, .inl g17) := by rw [e46, va_up_ne _ _ (by decide)]; exact f53
    have f55 : w10 8 = .inr (4, [.ref (ad 9), .int nz]) := by rw [e11, va_up_ne _ _ (by decide)]; exact n_8
    have f56 : w21 8 = .inr (4, [.ref (ad 9), .int nz]) := by rw [e22, va_up_ne _ _ (by decide)]; exact f55
    have f57 : w35 8 = .inr (4, [.ref (ad 9), .int nz]) := by rw [e36, va_up_ne _ _ (by decide)]; exact f56
    have f58 : w45 8 = .inr (4, [.ref (ad 9), .int nz]) := by rw [e46, va_up_ne _ _ (by decide)]; exact f57
    have f59 : w10 9 = .inl (cI, 24, .inl nc) := by rw [e11, va_up_ne _ _ (by decide)]; exact n_9
    have f60 : w21 9 = .inl (cI, 24, .inl nc) := by rw [e22, va_up_ne _ _ (by decide)]; exact f59
    have f61 : w35 9 = .inl (cI, 24, .inl nc) := by rw [e36, va_up_ne _ _ (by decide)]; exact f60
    have f62 : w45 9 = .inl (cI, 24, .inl nc) := by rw [e46, va_up_ne _ _ (by decide)]; exact f61
    have f63 : w10 10 = .inr (4, [.ref (ad 11), .int mz]) := by rw [e11, va_up_ne _ _ (by decide)]; exact n_10
    have f64 : w21 10 = .inr (4, [.ref (ad 11), .int mz]) := by rw [e22, va_up_ne _ _ (by decide)]; exact f63
    have f65 : w35 10 = .inr (4, [.ref (ad 11), .int mz]) := by rw [e36, va_up_ne _ _ (by decide)]; exact f64
    have f66 : w45 10 = .inr (4, [.ref (ad 11), .int mz]) := by rw [e46, va_up_ne _ _ (by decide)]; exact f65
    have f67 : w10 11 = .inl (cI, 24, .inl mc) := by rw [e11, va_up_ne _ _ (by decide)]; exact n_11
    have f68 : w21 11 = .inl (cI, 24, .inl mc) := by rw [e22, va_up_ne _ _ (by decide)]; exact f67
    have f69 : w35 11 = .inl (cI, 24, .inl mc) := by rw [e36, va_up_ne _ _ (by decide)]; exact f68
    have f70 : w45 11 = .inl (cI, 24, .inl mc) := by rw [e46, va_up_ne _ _ (by decide)]; exact f69
    exact e_i X h hr hlk dX2_addCaster_58 ⟨ok48, kx49, ⟨(fa_eq _ _).mpr (by omega), ⟨by rw [f47]; subst e50; subst e41; subst e32; subst e18; subst e7; rfl, (f54.trans (by subst e50; subst e41; subst e32; subst e18; subst e7; rfl)), (f58.trans (by subst e50; subst e41; subst e32; subst e18; subst e7; rfl)), (f62.trans (by subst e50; subst e41; subst e32; subst e18; subst e7; rfl)), (f66.trans (by subst e50; subst e41; subst e32; subst e18; subst e7; rfl)), (f70.trans (by subst e50; subst e41; subst e32; subst e18; subst e7; rfl))⟩⟩⟩
  · have hc1 : ¬ (ca).toInt < 7 := i_nlt hc1 rfl rfl
    refine lv_bipush (v := (-4)) hx hb dX2_addCaster_9 (by decide) ?_
    exact e_i X h hr hlk dX2_addCaster_11 ⟨ok, FR.rf, (by exfalso; omega)⟩

set_option maxHeartbeats 4000000 in
set_option maxRecDepth 100000 in
theorem c_F1_addJar (l : Launch) (G : va_G) (cI cB cZ cO : ClassId) (ad : Nat → Nat) (w : Nat → va_E) (ho so mi ca ja nz mz : Int32) (hh nc mc : Nat → Int32) (ok : OK cI cB cZ cO ad w) (k : Int32)  (n_1 : w 1 = .inr (1, [.int ho, .int so, .int mi, .int ca, .int ja, .ref (ad 2), .ref (ad 3), .ref (ad 4), .ref (ad 5), .ref (ad 6), .ref (ad 7), .ref (ad 8), .ref (ad 10), .ref (ad 12)])) (n_3 : w 3 = .inl (cI, 7, .inl hh)) (n_8 : w 8 = .inr (4, [.ref (ad 9), .int nz])) (n_9 : w 9 = .inl (cI, 24, .inl nc)) (n_10 : w 10 = .inr (4, [.ref (ad 11), .int mz])) (n_11 : w 11 = .inl (cI, 24, .inl mc)) (hrn : rgA 0 9 hh) (hca : 0 ≤ ca.toInt ∧ ca.toInt ≤ 7) (hja : 0 ≤ ja.toInt ∧ ja.toInt ≤ 4) (hnz : 0 ≤ nz.toInt ∧ nz.toInt ≤ 6) (hmz : 0 ≤ mz.toInt ∧ mz.toInt ≤ 6) (hlt : ja.toInt < 4) : NI l G (tyq cI cB cZ cO) yX2_addJar cX2_addJar 2 (some .int) 0 0 74 ad w [.ref (ad 1), .int k] (fun r w1 => OK cI cB cZ cO ad w1 ∧ FR 1 w w1 ∧ ja = r ∧ IV cI ad 1 w1 ca (ja + 1) nz mz hh nc mc) := by
  refine nk_i (own := "NoonShade$Isle") rfl (by decide) (Nat.le_of_ble_eq_true rfl) ?_
  intro p e s m below meth c ls X hD hN hr hlk h hl
  have hx := X.1.1
  have hb := X.1.2.1
  have hown := X.1.2.2.2.1
  have hts := X.1.2.2.2.2
  have hl : lv_has ls 2 [(0, .ref (ad 1)), (1, .int k)] := hl
  have hca0 := hca.1
  have hca1 := hca.2
  have hja0 := hja.1
  have hja1 := hja.2
  have hnz0 := hnz.1
  have hnz1 := hnz.2
  have hmz0 := hmz.1
  have hmz1 := hmz.2
  refine lv_aload_n hx hb dX2_addJar_0 rfl (lv_at hl 0 rfl) ?_
  refine r_get kc2 X h 1 4 (by decide) rfl n_1 (by decide) kv_18 rfl dX2_addJar_1 ?_
  refine lv_iconst (v := 4) hx hb dX2_addJar_4 (by decide) ?_
  refine lv_icmp_lt (tgt := 11) hx hb dX2_addJar_5 (by decide) (fun hc1 => ?_) (fun hc1 => ?_)
  · have hc1 : (ja).toInt < 4 := i_lt hc1 rfl rfl
    refine lv_aload_n hx hb dX2_addJar_11 rfl (lv_at hl 0 rfl) ?_
    refine r_get kc2 X h 1 8 (by decide) rfl n_1 (by decide) kv_23 rfl dX2_addJar_12 ?_
    refine lv_aload_n hx hb dX2_addJar_15 rfl (lv_at hl 0 rfl) ?_
    refine r_get kc2 X h 1 4 (by decide) rfl n_1 (by decide) kv_18 rfl dX2_addJar_16 ?_
    refine lv_iload_n hx hb dX2_addJar_19 rfl (lv_at hl 1 rfl) ?_
    obtain ⟨g3, f2, p4⟩ := (show sA cI 4 (anyA) (w 5) from ok 5 (by decide))
    have f5 : w 5 = .inl (cI, 4, .inl g3) := f2
    obtain ⟨g6, e7⟩ : ∃ z : Nat → Int32, upd g3 ja.toNatClampNeg k = z := ⟨_, rfl⟩
    have p9 : anyA g6 := trivial
    refine o_iast (f1 := g6) X hD h 5 0 (by decide) rfl f5 rfl (in_of (by omega) (by omega)) e7 dX2_addJar_20 (fun H locs w10 e11 h => ?_)
    have f12 : w10 5 = .inl (cI, 4, .inl g6) := (congrFun e11 _).trans (va_up_self _ _ _)
    have ok13 : OK cI cB cZ cO ad w10 := OK.up ok e11 (sA_mk p9)
    have kx14 : FR 1 w w10 := FR.up FR.rf e11 (by decide)
    refine lv_aload_n hx hb dX2_addJar_21 rfl (lv_at hl 0 rfl) ?_
    have f15 : w10 1 = .inr (1, [.int ho, .int so, .int mi, .int ca, .int ja, .ref (ad 2), .ref (ad 3), .ref (ad 4), .ref (ad 5), .ref (ad 6), .ref (ad 7), .ref (ad 8), .ref (ad 10), .ref (ad 12)]) := by rw [e11, va_up_ne _ _ (by decide)]; exact n_1
    refine r_get kc2 X h 1 9 (by decide) rfl f15 (by decide) kv_24 rfl dX2_addJar_22 ?_
    refine lv_aload_n hx hb dX2_addJar_25 rfl (lv_at hl 0 rfl) ?_
    refine r_get kc2 X h 1 4 (by decide) rfl f15 (by decide) kv_18 rfl dX2_addJar_26 ?_
    refine lv_iconst (v := 0) hx hb dX2_addJar_29 (by decide) ?_
    obtain ⟨g17, f16, p18⟩ := (show sA cI 4 (rgA 0 60) (w10 6) from ok13 6 (by decide))
    have f19 : w10 6 = .inl (cI, 4, .inl g17) := f16
    obtain ⟨g20, e21⟩ : ∃ z : Nat → Int32, upd g17 ja.toNatClampNeg (0 : Int32) = z := ⟨_, rfl⟩
    have p23 : rgA 0 60 g20 := rgA_upd p18 e21 (by decide) (by decide)
    refine o_iast (f1 := g20) X hD h 6 0 (by decide) rfl f19 rfl (in_of (by omega) (by omega)) e21 dX2_addJar_30 (fun H locs w24 e25 h => ?_)
    have f26 : w24 6 = .inl (cI, 4, .inl g20) := (congrFun e25 _).trans (va_up_self _ _ _)
    have ok27 : OK cI cB cZ cO ad w24 := OK.up ok13 e25 (sA_mk p23)
    have kx28 : FR 1 w w24 := FR.up kx14 e25 (by decide)
    refine lv_aload_n hx hb dX2_addJar_31 rfl (lv_at hl 0 rfl) ?_
    have f29 : w24 1 = .inr (1, [.int ho, .int so, .int mi, .int ca, .int ja, .ref (ad 2), .ref (ad 3), .ref (ad 4), .ref (ad 5), .ref (ad 6), .ref (ad 7), .ref (ad 8), .ref (ad 10), .ref (ad 12)]) := by rw [e25, va_up_ne _ _ (by decide)]; exact f15
    refine r_get kc2 X h 1 10 (by decide) rfl f29 (by decide) kv_25 rfl dX2_addJar_32 ?_
    refine lv_aload_n hx hb dX2_addJar_35 rfl (lv_at hl 0 rfl) ?_
    refine r_get kc2 X h 1 4 (by decide) rfl f29 (by decide) kv_18 rfl dX2_addJar_36 ?_
    refine lv_iconst (v := (-1)) hx hb dX2_addJar_39 (by decide) ?_
    obtain ⟨g31, f30, p32⟩ := (show sA cI 4 (anyA) (w24 7) from ok27 7 (by decide))
    have f33 : w24 7 = .inl (cI, 4, .inl g31) := f30
    obtain ⟨g34, e35⟩ : ∃ z : Nat → Int32, upd g31 ja.toNatClampNeg ((-1) : Int32) = z := ⟨_, rfl⟩
    have p37 : anyA g34 := trivial
    refine o_iast (f1 := g34) X hD h 7 0 (by decide) rfl f33 rfl (in_of (by omega) (by omega)) e35 dX2_addJar_40 (fun H locs w38 e39 h => ?_)
    have f40 : w38 7 = .inl (cI, 4, .inl g34) := (congrFun e39 _).trans (va_up_self _ _ _)
    have ok41 : OK cI cB cZ cO ad w38 := OK.up ok27 e39 (sA_mk p37)
    have kx42 : FR 1 w w38 := FR.up kx28 e39 (by decide)
    refine lv_aload_n hx hb dX2_addJar_41 rfl (lv_at hl 0 rfl) ?_
    refine lv_dup hx hb dX2_addJar_42 rfl ?_
    have f43 : w38 1 = .inr (1, [.int ho, .int so, .int mi, .int ca, .int ja, .ref (ad 2), .ref (ad 3), .ref (ad 4), .ref (ad 5), .ref (ad 6), .ref (ad 7), .ref (ad 8), .ref (ad 10), .ref (ad 12)]) := by rw [e39, va_up_ne _ _ (by decide)]; exact f29
    refine r_get kc2 X h 1 4 (by decide) rfl f43 (by decide) kv_18 rfl dX2_addJar_43 ?_
    refine lv_iconst (v := 1) hx hb dX2_addJar_46 (by decide) ?_
    obtain ⟨z46, e44, t45⟩ := x_add (x := ja) (y := (1 : Int32)) (a := (ja).toInt) (b := 1) rfl rfl (by omega) (by omega)
    have n47 : z46.toNatClampNeg = ja.toNatClampNeg + 1 := cl_addn (x := ja) (y := (1 : Int32)) rfl rfl t45 (by omega) (by decide)
    refine o_iadd (z := z46) hx hb dX2_addJar_47 e44 ?_
    refine r_put kc2 X hD h 1 4 (by decide) rfl f43 (by decide) kv_18 rfl rfl rfl (Nat.le_of_ble_eq_true rfl) dX2_addJar_48 (fun H locs w48 e49 h => ?_)
    have f50 : w48 1 = .inr (1, [.int ho, .int so, .int mi, .int ca, .int z46, .ref (ad 2), .ref (ad 3), .ref (ad 4), .ref (ad 5), .ref (ad 6), .ref (ad 7), .ref (ad 8), .ref (ad 10), .ref (ad 12)]) := (congrFun e49 _).trans (va_up_self _ _ _)
    have ok51 : OK cI cB cZ cO ad w48 := OK.up ok41 e49 (sI_mk (by omega) (by omega) (by omega) (by omega))
    have kx52 : FR 1 w w48 := FR.up kx42 e49 (by decide)
    refine lv_aload_n hx hb dX2_addJar_51 rfl (lv_at hl 0 rfl) ?_
    refine r_get kc2 X h 1 4 (by decide) rfl f50 (by decide) kv_18 rfl dX2_addJar_52 ?_
    refine lv_iconst (v := 1) hx hb dX2_addJar_55 (by decide) ?_
    obtain ⟨z55, e53, t54⟩ := x_sub (x := z46) (y := (1 : Int32)) (a := (z46).toInt) (b := 1) rfl rfl (by omega) (by omega)
    refine o_isub (z := z55) hx hb dX2_addJar_56 e53 ?_
    have f56 : w10 3 = .inl (cI, 7, .inl hh) := by rw [e11, va_up_ne _ _ (by decide)]; exact n_3
    have f57 : w24 3 = .inl (cI, 7, .inl hh) := by rw [e25, va_up_ne _ _ (by decide)]; exact f56
    have f58 : w38 3 = .inl (cI, 7, .inl hh) := by rw [e39, va_up_ne _ _ (by decide)]; exact f57
    have f59 : w48 3 = .inl (cI, 7, .inl hh) := by rw [e49, va_up_ne _ _ (by decide)]; exact f58
    have f60 : w10 8 = .inr (4, [.ref (ad 9), .int nz]) := by rw [e11, va_up_ne _ _ (by decide)]; exact n_8
    have f61 : w24 8 = .inr (4, [.ref (ad 9), .int nz]) := by rw [e25, va_up_ne _ _ (by decide)]; exact f60
    have f62 : w38 8 = .inr (4, [.ref (ad 9), .int nz]) := by rw [e39, va_up_ne _ _ (by decide)]; exact f61
    have f63 : w48 8 = .inr (4, [.ref (ad 9), .int nz]) := by rw [e49, va_up_ne _ _ (by decide)]; exact f62
    have f64 : w10 9 = .inl (cI, 24, .inl nc) := by rw [e11, va_up_ne _ _ (by decide)]; exact n_9
    have f65 : w24 9 = .inl (cI, 24, .inl nc) := by rw [e25, va_up_ne _ _ (by decide)]; exact f64
    have f66 : w38 9 = .inl (cI, 24, .inl nc) := by rw [e39, va_up_ne _ _ (by decide)]; exact f65
    have f67 : w48 9 = .inl (cI, 24, .inl nc) := by rw [e49, va_up_ne _ _ (by decide)]; exact f66
    have f68 : w10 10 = .inr (4, [.ref (ad 11), .int mz]) := by rw [e11, va_up_ne _ _ (by decide)]; exact n_10
    have f69 : w24 10 = .inr (4, [.ref (ad 11), .int mz]) := by rw [e25, va_up_ne _ _ (by decide)]; exact f68
    have f70 : w38 10 = .inr (4, [.ref (ad 11), .int mz]) := by rw [e39, va_up_ne _ _ (by decide)]; exact f69
    have f71 : w48 10 = .inr (4, [.ref (ad 11), .int mz]) := by rw [e49, va_up_ne _ _ (by decide)]; exact f70
    have f72 : w10 11 = .inl (cI, 24, .inl mc) := by rw [e11, va_up_ne _ _ (by decide)]; exact n_11
    have f73 : w24 11 = .inl (cI, 24, .inl mc) := by rw [e25, va_up_ne _ _ (by decide)]; exact f72
    have f74 : w38 11 = .inl (cI, 24, .inl mc) := by rw [e39, va_up_ne _ _ (by decide)]; exact f73
    have f75 : w48 11 = .inl (cI, 24, .inl mc) := by rw [e49, va_up_ne _ _ (by decide)]; exact f74
    exact e_i X h hr hlk dX2_addJar_57 ⟨ok51, kx52, ⟨(fa_eq _ _).mpr (by omega), ⟨by rw [f50]; subst e53; subst e44; subst e35; subst e21; subst e7; rfl, (f59.trans (by subst e53; subst e44; subst e35; subst e21; subst e7; rfl)), (f63.trans (by subst e53; subst e44; subst e35; subst e21; subst e7; rfl)), (f67.trans (by subst e53; subst e44; subst e35; subst e21; subst e7; rfl)), (f71.trans (by subst e53; subst e44; subst e35; subst e21; subst e7; rfl)), (f75.trans (by subst e53; subst e44; subst e35; subst e21; subst e7; rfl))⟩⟩⟩
  · have hc1 : ¬ (ja).toInt < 4 := i_nlt hc1 rfl rfl
    refine lv_bipush (v := (-4)) hx hb dX2_addJar_8 (by decide) ?_
    exact e_i X h hr hlk dX2_addJar_10 ⟨ok, FR.rf, (by exfalso; omega)⟩

set_option maxHeartbeats 4000000 in
set_option maxRecDepth 100000 in
theorem c_F1_hasCaster (l : Launch) (G : va_G) (cI cB cZ cO : ClassId) (ad : Nat → Nat) (w : Nat → va_E) (ho so mi ca ja : Int32)  (i : Int32)  (n_1 : w 1 = .inr (1, [.int ho, .int so, .int mi, .int ca, .int ja, .ref (ad 2), .ref (ad 3), .ref (ad 4), .ref (ad 5), .ref (ad 6), .ref (ad 7), .ref (ad 8), .ref (ad 10), .ref (ad 12)])) : NI l G (tyq cI cB cZ cO) yX2_hasCaster cX2_hasCaster 2 (some .boolean) 0 0 74 ad w [.ref (ad 1), .int i] (fun r w1 => w = w1 ∧ ((0 ≤ i.toInt ∧ i.toInt < ca.toInt ∧ r = 1) ∨ (¬ (0 ≤ i.toInt ∧ i.toInt < ca.toInt) ∧ r = 0))) := by
  refine nk_i (own := "NoonShade$Isle") rfl (by decide) (Nat.le_of_ble_eq_true rfl) ?_
  intro p e s m below meth c ls X hD hN hr hlk h hl
  have hx := X.1.1
  have hb := X.1.2.1
  have hown := X.1.2.2.2.1
  have hts := X.1.2.2.2.2
  have hl : lv_has ls 2 [(0, .ref (ad 1)), (1, .int i)] := hl
  refine lv_iload_n hx hb dX2_hasCaster_0 rfl (lv_at hl 1 rfl) ?_
  refine lv_if_lt (tgt := 16) hx hb dX2_hasCaster_1 (by decide) (fun hc1 => ?_) (fun hc1 => ?_)
  · have hc1 : (i).toInt < 0 := i_lt hc1 rfl rfl
    refine lv_iconst (v := 0) hx hb dX2_hasCaster_16 (by decide) ?_
    exact e_n X h hr hlk rfl dX2_hasCaster_17 ⟨rfl, Or.inr ⟨by omega, rfl⟩⟩
  · have hc1 : ¬ (i).toInt < 0 := i_nlt hc1 rfl rfl
    refine lv_iload_n hx hb dX2_hasCaster_4 rfl (lv_at hl 1 rfl) ?_
    refine lv_aload_n hx hb dX2_hasCaster_5 rfl (lv_at hl 0 rfl) ?_
    refine r_get kc2 X h 1 3 (by decide) rfl n_1 (by decide) kv_17 rfl dX2_hasCaster_6 ?_
    refine lv_icmp_ge (tgt := 16) hx hb dX2_hasCaster_9 (by decide) (fun hc2 => ?_) (fun hc2 => ?_)
    · have hc2 : (ca).toInt ≤ (i).toInt := i_le hc2 rfl rfl
      refine lv_iconst (v := 0) hx hb dX2_hasCaster_16 (by decide) ?_
      exact e_n X h hr hlk rfl dX2_hasCaster_17 ⟨rfl, Or.inr ⟨by omega, rfl⟩⟩
    · have hc2 : ¬ (ca).toInt ≤ (i).toInt := i_nle hc2 rfl rfl
      refine lv_iconst (v := 1) hx hb dX2_hasCaster_12 (by decide) ?_
      refine lv_goto (tgt := 17) hx hb dX2_hasCaster_13 (by decide) ?_
      exact e_n X h hr hlk rfl dX2_hasCaster_17 ⟨rfl, Or.inl ⟨by omega, by omega, rfl⟩⟩

set_option maxHeartbeats 4000000 in
set_option maxRecDepth 100000 in
theorem c_F1_hasJar (l : Launch) (G : va_G) (cI cB cZ cO : ClassId) (ad : Nat → Nat) (w : Nat → va_E) (ho so mi ca ja : Int32)  (i : Int32)  (n_1 : w 1 = .inr (1, [.int ho, .int so, .int mi, .int ca, .int ja, .ref (ad 2), .ref (ad 3), .ref (ad 4), .ref (ad 5), .ref (ad 6), .ref (ad 7), .ref (ad 8), .ref (ad 10), .ref (ad 12)])) : NI l G (tyq cI cB cZ cO) yX2_hasJar cX2_hasJar 2 (some .boolean) 0 0 74 ad w [.ref (ad 1), .int i] (fun r w1 => w = w1 ∧ ((0 ≤ i.toInt ∧ i.toInt < ja.toInt ∧ r = 1) ∨ (¬ (0 ≤ i.toInt ∧ i.toInt < ja.toInt) ∧ r = 0))) := by
  refine nk_i (own := "NoonShade$Isle") rfl (by decide) (Nat.le_of_ble_eq_true rfl) ?_
  intro p e s m below meth c ls X hD hN hr hlk h hl
  have hx := X.1.1
  have hb := X.1.2.1
  have hown := X.1.2.2.2.1
  have hts := X.1.2.2.2.2
  have hl : lv_has ls 2 [(0, .ref (ad 1)), (1, .int i)] := hl
  refine lv_iload_n hx hb dX2_hasJar_0 rfl (lv_at hl 1 rfl) ?_
  refine lv_if_lt (tgt := 16) hx hb dX2_hasJar_1 (by decide) (fun hc1 => ?_) (fun hc1 => ?_)
  · have hc1 : (i).toInt < 0 := i_lt hc1 rfl rfl
    refine lv_iconst (v := 0) hx hb dX2_hasJar_16 (by decide) ?_
    exact e_n X h hr hlk rfl dX2_hasJar_17 ⟨rfl, Or.inr ⟨by omega, rfl⟩⟩
  · have hc1 : ¬ (i).toInt < 0 := i_nlt hc1 rfl rfl
    refine lv_iload_n hx hb dX2_hasJar_4 rfl (lv_at hl 1 rfl) ?_
    refine lv_aload_n hx hb dX2_hasJar_5 rfl (lv_at hl 0 rfl) ?_
    refine r_get kc2 X h 1 4 (by decide) rfl n_1 (by decide) kv_18 rfl dX2_hasJar_6 ?_
    refine lv_icmp_ge (tgt := 16) hx hb dX2_hasJar_9 (by decide) (fun hc2 => ?_) (fun hc2 => ?_)
    · have hc2 : (ja).toInt ≤ (i).toInt := i_le hc2 rfl rfl
      refine lv_iconst (v := 0) hx hb dX2_hasJar_16 (by decide) ?_
      exact e_n X h hr hlk rfl dX2_hasJar_17 ⟨rfl, Or.inr ⟨by omega, rfl⟩⟩
    · have hc2 : ¬ (ja).toInt ≤ (i).toInt := i_nle hc2 rfl rfl
      refine lv_iconst (v := 1) hx hb dX2_hasJar_12 (by decide) ?_
      refine lv_goto (tgt := 17) hx hb dX2_hasJar_13 (by decide) ?_
      exact e_n X h hr hlk rfl dX2_hasJar_17 ⟨rfl, Or.inl ⟨by omega, by omega, rfl⟩⟩

set_option maxHeartbeats 4000000 in
set_option maxRecDepth 100000 in
theorem c_F_island (l : Launch) (G : va_G) (cI cB cZ cO : ClassId) (ad : Nat → Nat) (w : Nat → va_E) (ho so mi ca ja nz mz : Int32) (hh nc mc : Nat → Int32) (ok : OK cI cB cZ cO ad w) (t : Int32)  (n_1 : w 1 = .inr (1, [.int ho, .int so, .int mi, .int ca, .int ja, .ref (ad 2), .ref (ad 3), .ref (ad 4), .ref (ad 5), .ref (ad 6), .ref (ad 7), .ref (ad 8), .ref (ad 10), .ref (ad 12)])) (n_3 : w 3 = .inl (cI, 7, .inl hh)) (n_8 : w 8 = .inr (4, [.ref (ad 9), .int nz])) (n_9 : w 9 = .inl (cI, 24, .inl nc)) (n_10 : w 10 = .inr (4, [.ref (ad 11), .int mz])) (n_11 : w 11 = .inl (cI, 24, .inl mc)) (hrn : rgA 0 9 hh) (hca : 0 ≤ ca.toInt ∧ ca.toInt ≤ 7) (hja : 0 ≤ ja.toInt ∧ ja.toInt ≤ 4) (hnz : 0 ≤ nz.toInt ∧ nz.toInt ≤ 6) (hmz : 0 ≤ mz.toInt ∧ mz.toInt ≤ 6) : NI l G (tyq cI cB cZ cO) yX8_island cX8_island 3 (some .int) 2 42 74 ad w [.ref (ad 0), .int t] (fun r w1 => OK cI cB cZ cO ad w1 ∧ KT w w1 ∧ ((¬ (0 ≤ t.toInt ∧ t.toInt ≤ 99) ∧ KX w w1 ∧ r = -2) ∨ ((0 ≤ t.toInt ∧ t.toInt ≤ 99) ∧ FR 1 w w1 ∧ ca = r ∧ IV cI ad 1 w1 0 0 0 0 hh nc mc))) := by
  refine nk_i (own := "NoonShade") rfl (by decide) (Nat.le_of_ble_eq_true rfl) ?_
  intro p e s m below meth c ls X hD hN hr hlk h hl
  have hx := X.1.1
  have hb := X.1.2.1
  have hown := X.1.2.2.2.1
  have hts := X.1.2.2.2.2
  have hl : lv_has ls 3 [(0, .ref (ad 0)), (1, .int t)] := hl
  have hca0 := hca.1
  have hca1 := hca.2
  have hja0 := hja.1
  have hja1 := hja.2
  have hnz0 := hnz.1
  have hnz1 := hnz.2
  have hmz0 := hmz.1
  have hmz1 := hmz.2
  refine lv_iload_n hx hb dX8_island_0 rfl (lv_at hl 1 rfl) ?_
  refine lv_iconst (v := 0) hx hb dX8_island_1 (by decide) ?_
  refine lv_bipush (v := 99) hx hb dX8_island_2 (by decide) ?_
  refine n_Si (na := 3) (As := [.int t, .int 0, .int 99]) (rest := []) X hD hN h (c_within l G cI cB cZ cO ad w t (0 : Int32) (99 : Int32) ((t).toInt) 0 99 rfl rfl rfl) ⟨kv_247, kv_248, kv_212, kv_249⟩ ⟨by decide, by decide, by decide⟩ ⟨Nat.le_of_ble_eq_true rfl, Nat.le_of_ble_eq_true rfl⟩ ⟨Nat.zero_le _, Nat.zero_le _⟩ rfl hl.1 rfl (Nat.le_of_ble_eq_true rfl) dX8_island_4 (fun r1 w2 H locs hp3 h => ?_)
  obtain ⟨rfl, hq4⟩ := hp3
  rcases hq4 with ⟨hq5, hq6, rfl⟩ | ⟨hq4, rfl⟩
  · refine lv_if_ne (tgt := 17) hx hb dX8_island_7 (by decide) (fun _ => ?_) (fun hc => absurd hc (by decide))
    refine lv_aload_n hx hb dX8_island_17 rfl (lv_at hl 0 rfl) ?_
    obtain ⟨x8, x9, q10, q11, q12, f7⟩ := (show sN ad (w 0) from ok 0 (by decide))
    have f13 : w 0 = .inr (6, [.ref (ad 1), .ref (ad 14), .ref (ad 27), .ref (ad 54), .ref (ad 55), .ref (ad 58), .ref (ad 62), .long x8, .long x9, .int q10, .int q11, .int q12]) := f7
    refine r_get kc8 X h 0 0 (by decide) rfl f13 (by decide) kv_172 rfl dX8_island_18 ?_
    refine r_get kc2 X h 1 3 (by decide) rfl n_1 (by decide) kv_173 rfl dX8_island_21 ?_
    refine lv_istore_n (lv' := [(2, .int ca), (0, .ref (ad 0)), (1, .int t)]) hx hb dX8_island_24 rfl hl (by decide) rfl (fun ls hl => ?_)
    refine lv_aload_n hx hb dX8_island_25 rfl (lv_at hl 1 rfl) ?_
    refine r_get kc8 X h 0 0 (by decide) rfl f13 (by decide) kv_172 rfl dX8_island_26 ?_
    refine lv_iload_n hx hb dX8_island_29 rfl (lv_at hl 2 rfl) ?_
    refine n_Vv (na := 1) (As := [.int t]) (rest := []) X hD hN h rfl (c_F1_begin l G cI cB cZ cO ad w ho so mi ca ja nz mz hh nc mc ok t  n_1 n_3 n_8 n_9 n_10 n_11 hrn ⟨by omega, by omega⟩ ⟨by omega, by omega⟩ ⟨by omega, by omega⟩ ⟨by omega, by omega⟩) ⟨kv_331, kv_332, kv_333, kv_37, kv_334⟩ rfl ⟨by decide, by decide, by decide⟩ ⟨Nat.le_of_ble_eq_true rfl, Nat.le_of_ble_eq_true rfl⟩ ⟨Nat.zero_le _, Nat.zero_le _⟩ (by decide) n_1 rfl rfl hl.1 rfl (Nat.le_of_ble_eq_true rfl) dX8_island_30 (fun w15 H locs hp16 h => ?_)
    obtain ⟨ok17, kk18, hr19⟩ := hp16
    have kx20 : KT w w15 := (FR.t (Or.inl rfl) kk18)
    refine lv_iload_n hx hb dX8_island_33 rfl (lv_at hl 0 rfl) ?_
    exact e_i X h hr hlk dX8_island_34 ⟨ok17, kx20, Or.inr ⟨by omega, (FR.tr FR.rf kk18), rfl, hr19⟩⟩
  · refine lv_if_ne (tgt := 17) hx hb dX8_island_7 (by decide) (fun hc => absurd (by decide) hc) (fun _ => ?_)
    refine lv_aload_n hx hb dX8_island_10 rfl (lv_at hl 0 rfl) ?_
    refine lv_bipush (v := (-2)) hx hb dX8_island_11 (by decide) ?_
    obtain ⟨x25, x26, q27, q28, q29, f24⟩ := (show sN ad (w 0) from ok 0 (by decide))
    have f30 : w 0 = .inr (6, [.ref (ad 1), .ref (ad 14), .ref (ad 27), .ref (ad 54), .ref (ad 55), .ref (ad 58), .ref (ad 62), .long x25, .long x26, .int q27, .int q28, .int q29]) := f24
    refine n_Vi (na := 1) (As := [.int (-2)]) (rest := []) X hD hN h rfl (c_refused l G cI cB cZ cO ad w  ok ((-2) : Int32)  ) ⟨kv_227, kv_228, kv_229, kv_212, kv_230⟩ rfl ⟨by decide, by decide, by decide⟩ ⟨Nat.le_of_ble_eq_true rfl, Nat.le_of_ble_eq_true rfl⟩ ⟨Nat.zero_le _, Nat.zero_le _⟩ (by decide) f30 rfl rfl hl.1 rfl (Nat.le_of_ble_eq_true rfl) dX8_island_13 (fun r21 w22 H locs hp23 h => ?_)
    have kX31 : KX w w22 := hp23.2.1
    obtain ⟨ok34, kk35, hr33⟩ := hp23
    have kx36 : KT w w22 := kk35.t
    subst hr33
    exact e_i X h hr hlk dX8_island_16 ⟨ok34, kx36, Or.inl ⟨by omega, kX31, rfl⟩⟩

set_option maxHeartbeats 4000000 in
set_option maxRecDepth 100000 in
theorem c_F_caster (l : Launch) (G : va_G) (cI cB cZ cO : ClassId) (ad : Nat → Nat) (w : Nat → va_E) (ho so mi ca ja nz mz : Int32) (hh nc mc : Nat → Int32) (ok : OK cI cB cZ cO ad w) (k : Int32) (q : Int32) (t : Int32)  (n_1 : w 1 = .inr (1, [.int ho, .int so, .int mi, .int ca, .int ja, .ref (ad 2), .ref (ad 3), .ref (ad 4), .ref (ad 5), .ref (ad 6), .ref (ad 7), .ref (ad 8), .ref (ad 10), .ref (ad 12)])) (n_3 : w 3 = .inl (cI, 7, .inl hh)) (n_8 : w 8 = .inr (4, [.ref (ad 9), .int nz])) (n_9 : w 9 = .inl (cI, 24, .inl nc)) (n_10 : w 10 = .inr (4, [.ref (ad 11), .int mz])) (n_11 : w 11 = .inl (cI, 24, .inl mc)) (hrn : rgA 0 9 hh) (hca : 0 ≤ ca.toInt ∧ ca.toInt ≤ 7) (hja : 0 ≤ ja.toInt ∧ ja.toInt ≤ 4) (hnz : 0 ≤ nz.toInt ∧ nz.toInt ≤ 6) (hmz : 0 ≤ mz.toInt ∧ mz.toInt ≤ 6) : NI l G (tyq cI cB cZ cO) yX8_caster cX8_caster 4 (some .int) 1 23 74 ad w [.ref (ad 0), .int k, .int q, .int t] (fun r w1 => OK cI cB cZ cO ad w1 ∧ KT w w1 ∧ ((¬ ((0 ≤ k.toInt ∧ k.toInt ≤ 5) ∧ (1 ≤ q.toInt ∧ q.toInt ≤ 9) ∧ (0 ≤ t.toInt ∧ t.toInt ≤ 3)) ∧ KX w w1 ∧ r = -2) ∨ (((0 ≤ k.toInt ∧ k.toInt ≤ 5) ∧ (1 ≤ q.toInt ∧ q.toInt ≤ 9) ∧ (0 ≤ t.toInt ∧ t.toInt ≤ 3)) ∧ 7 ≤ ca.toInt ∧ KX w w1 ∧ r = -4) ∨ (((0 ≤ k.toInt ∧ k.toInt ≤ 5) ∧ (1 ≤ q.toInt ∧ q.toInt ≤ 9) ∧ (0 ≤ t.toInt ∧ t.toInt ≤ 3)) ∧ ¬ 7 ≤ ca.toInt ∧ FR 1 w w1 ∧ ca = r ∧ IV cI ad 1 w1 (ca + 1) ja nz mz (upd hh ca.toNatClampNeg q) nc mc))) := by
  refine nk_i (own := "NoonShade") rfl (by decide) (Nat.le_of_ble_eq_true rfl) ?_
  intro p e s m below meth c ls X hD hN hr hlk h hl
  have hx := X.1.1
  have hb := X.1.2.1
  have hown := X.1.2.2.2.1
  have hts := X.1.2.2.2.2
  have hl : lv_has ls 4 [(0, .ref (ad 0)), (1, .int k), (2, .int q), (3, .int t)] := hl
  have hca0 := hca.1
  have hca1 := hca.2
  have hja0 := hja.1
  have hja1 := hja.2
  have hnz0 := hnz.1
  have hnz1 := hnz.2
  have hmz0 := hmz.1
  have hmz1 := hmz.2
  refine lv_iload_n hx hb dX8_caster_0 rfl (lv_at hl 1 rfl) ?_
  refine lv_iconst (v := 0) hx hb dX8_caster_1 (by decide) ?_
  refine lv_iconst (v := 5) hx hb dX8_caster_2 (by decide) ?_
  refine n_Si (na := 3) (As := [.int k, .int 0, .int 5]) (rest := []) X hD hN h (c_within l G cI cB cZ cO ad w k (0 : Int32) (5 : Int32) ((k).toInt) 0 5 rfl rfl rfl) ⟨kv_247, kv_248, kv_212, kv_249⟩ ⟨by decide, by decide, by decide⟩ ⟨Nat.le_of_ble_eq_true rfl, Nat.le_of_ble_eq_true rfl⟩ ⟨Nat.zero_le _, Nat.zero_le _⟩ rfl hl.1 rfl (Nat.le_of_ble_eq_true rfl) dX8_caster_3 (fun r1 w2 H locs hp3 h => ?_)
  obtain ⟨rfl, hq4⟩ := hp3
  rcases hq4 with ⟨hq5, hq6, rfl⟩ | ⟨hq4, rfl⟩
  · refine lv_if_eq (tgt := 28) hx hb dX8_caster_6 (by decide) (fun hc => absurd hc (by decide)) (fun _ => ?_)
    refine lv_iload_n hx hb dX8_caster_9 rfl (lv_at hl 2 rfl) ?_
    refine lv_iconst (v := 1) hx hb dX8_caster_10 (by decide) ?_
    refine lv_bipush (v := 9) hx hb dX8_caster_11 (by decide) ?_
    refine n_Si (na := 3) (As := [.int q, .int 1, .int 9]) (rest := []) X hD hN h (c_within l G cI cB cZ cO ad w q (1 : Int32) (9 : Int32) ((q).toInt) 1 9 rfl rfl rfl) ⟨kv_247, kv_248, kv_212, kv_249⟩ ⟨by decide, by decide, by decide⟩ ⟨Nat.le_of_ble_eq_true rfl, Nat.le_of_ble_eq_true rfl⟩ ⟨Nat.zero_le _, Nat.zero_le _⟩ rfl hl.1 rfl (Nat.le_of_ble_eq_true rfl) dX8_caster_13 (fun r7 w8 H locs hp9 h => ?_)
    obtain ⟨rfl, hq10⟩ := hp9
    rcases hq10 with ⟨hq11, hq12, rfl⟩ | ⟨hq10, rfl⟩
    · refine lv_if_eq (tgt := 28) hx hb dX8_caster_16 (by decide) (fun hc => absurd hc (by decide)) (fun _ => ?_)
      refine lv_iload_n hx hb dX8_caster_19 rfl (lv_at hl 3 rfl) ?_
      refine lv_iconst (v := 0) hx hb dX8_caster_20 (by decide) ?_
      refine lv_iconst (v := 3) hx hb dX8_caster_21 (by decide) ?_
      refine n_Si (na := 3) (As := [.int t, .int 0, .int 3]) (rest := []) X hD hN h (c_within l G cI cB cZ cO ad w t (0 : Int32) (3 : Int32) ((t).toInt) 0 3 rfl rfl rfl) ⟨kv_247, kv_248, kv_212, kv_249⟩ ⟨by decide, by decide, by decide⟩ ⟨Nat.le_of_ble_eq_true rfl, Nat.le_of_ble_eq_true rfl⟩ ⟨Nat.zero_le _, Nat.zero_le _⟩ rfl hl.1 rfl (Nat.le_of_ble_eq_true rfl) dX8_caster_22 (fun r13 w14 H locs hp15 h => ?_)
      obtain ⟨rfl, hq16⟩ := hp15
      rcases hq16 with ⟨hq17, hq18, rfl⟩ | ⟨hq16, rfl⟩
      · refine lv_if_ne (tgt := 35) hx hb dX8_caster_25 (by decide) (fun _ => ?_) (fun hc => absurd hc (by decide))
        refine lv_aload_n hx hb dX8_caster_35 rfl (lv_at hl 0 rfl) ?_
        obtain ⟨x20, x21, q22, q23, q24, f19⟩ := (show sN ad (w 0) from ok 0 (by decide))
        have f25 : w 0 = .inr (6, [.ref (ad 1), .ref (ad 14), .ref (ad 27), .ref (ad 54), .ref (ad 55), .ref (ad 58), .ref (ad 62), .long x20, .long x21, .int q22, .int q23, .int q24]) := f19
        refine r_get kc8 X h 0 0 (by decide) rfl f25 (by decide) kv_172 rfl dX8_caster_36 ?_
        refine r_get kc2 X h 1 3 (by decide) rfl n_1 (by decide) kv_173 rfl dX8_caster_39 ?_
        refine lv_bipush (v := 7) hx hb dX8_caster_42 (by decide) ?_
        refine lv_icmp_lt (tgt := 54) hx hb dX8_caster_44 (by decide) (fun hc26 => ?_) (fun hc26 => ?_)
        · have hc26 : (ca).toInt < 7 := i_lt hc26 rfl rfl
          refine lv_aload_n hx hb dX8_caster_54 rfl (lv_at hl 0 rfl) ?_
          refine r_get kc8 X h 0 0 (by decide) rfl f25 (by decide) kv_172 rfl dX8_caster_55 ?_
          refine r_get kc2 X h 1 13 (by decide) rfl n_1 (by decide) kv_189 rfl dX8_caster_58 ?_
          obtain ⟨z28, f27, h29, h30⟩ := (show sR ad 2 13 8 (w 12) from ok 12 (by decide))
          have f31 : w 12 = .inr (2, [.ref (ad 13), .int z28]) := f27
          refine n_Vv (na := 0) (As := []) (rest := []) X hD hN h rfl (c_P_empty l G cI cB cZ cO ad w 12 _ _ (by decide) f31) ⟨kv_335, kv_69, kv_70, kv_71, kv_72⟩ rfl ⟨by decide, by decide, by decide⟩ ⟨Nat.le_of_ble_eq_true rfl, Nat.le_of_ble_eq_true rfl⟩ ⟨Nat.zero_le _, Nat.zero_le _⟩ (by decide) f31 rfl rfl hl.1 rfl (Nat.le_of_ble_eq_true rfl) dX8_caster_61 (fun w33 H locs hp34 h => ?_)
          have e35 := hp34
          have f36 : w33 12 = .inr (2, [.ref (ad 13), .int 0]) := (congrFun e35 _).trans (va_up_self _ _ _)
          have ok37 : OK cI cB cZ cO ad w33 := OK.up ok e35 (sR_mk (by decide) (by decide))
          have kx38 : KT w w33 := KT.up KT.rf e35 f31 rfl
          refine lv_aload_n hx hb dX8_caster_64 rfl (lv_at hl 0 rfl) ?_
          have f39 : w33 0 = .inr (6, [.ref (ad 1), .ref (ad 14), .ref (ad 27), .ref (ad 54), .ref (ad 55), .ref (ad 58), .ref (ad 62), .long x20, .long x21, .int q22, .int q23, .int q24]) := by rw [e35, va_up_ne _ _ (by decide)]; exact f25
          refine r_get kc8 X h 0 0 (by decide) rfl f39 (by decide) kv_172 rfl dX8_caster_65 ?_
          refine lv_iload_n hx hb dX8_caster_68 rfl (lv_at hl 1 rfl) ?_
          refine lv_iload_n hx hb dX8_caster_69 rfl (lv_at hl 2 rfl) ?_
          refine lv_iload_n hx hb dX8_caster_70 rfl (lv_at hl 3 rfl) ?_
          have f40 : w33 1 = .inr (1, [.int ho, .int so, .int mi, .int ca, .int ja, .ref (ad 2), .ref (ad 3), .ref (ad 4), .ref (ad 5), .ref (ad 6), .ref (ad 7), .ref (ad 8), .ref (ad 10), .ref (ad 12)]) := by rw [e35, va_up_ne _ _ (by decide)]; exact n_1
          have f41 : w33 3 = .inl (cI, 7, .inl hh) := by rw [e35, va_up_ne _ _ (by decide)]; exact n_3
          have f42 : w33 8 = .inr (4, [.ref (ad 9), .int nz]) := by rw [e35, va_up_ne _ _ (by decide)]; exact n_8
          have f43 : w33 9 = .inl (cI, 24, .inl nc) := by rw [e35, va_up_ne _ _ (by decide)]; exact n_9
          have f44 : w33 10 = .inr (4, [.ref (ad 11), .int mz]) := by rw [e35, va_up_ne _ _ (by decide)]; exact n_10
          have f45 : w33 11 = .inl (cI, 24, .inl mc) := by rw [e35, va_up_ne _ _ (by decide)]; exact n_11
          refine n_Vi (na := 3) (As := [.int k, .int q, .int t]) (rest := []) X hD hN h rfl (c_F1_addCaster l G cI cB cZ cO ad w33 ho so mi ca ja nz mz hh nc mc ok37 k q t (by omega) (by omega) f40 f41 f42 f43 f44 f45 hrn ⟨by omega, by omega⟩ ⟨by omega, by omega⟩ ⟨by omega, by omega⟩ ⟨by omega, by omega⟩ (by omega)) ⟨kv_336, kv_337, kv_338, kv_37, kv_339⟩ rfl ⟨by decide, by decide, by decide⟩ ⟨Nat.le_of_ble_eq_true rfl, Nat.le_of_ble_eq_true rfl⟩ ⟨Nat.zero_le _, Nat.zero_le _⟩ (by decide) f40 rfl rfl hl.1 rfl (Nat.le_of_ble_eq_true rfl) dX8_caster_71 (fun r46 w47 H locs hp48 h => ?_)
          obtain ⟨ok49, kk50, hr51⟩ := hp48
          have kx52 : KT w w47 := KT.tr kx38 (FR.t (Or.inl rfl) kk50)
          exact e_i X h hr hlk dX8_caster_74 ⟨ok49, kx52, Or.inr (Or.inr ⟨by omega, by omega, (FR.tr (FR.up FR.rf e35 (by decide)) kk50), hr51⟩)⟩
        · have hc26 : ¬ (ca).toInt < 7 := i_nlt hc26 rfl rfl
          refine lv_aload_n hx hb dX8_caster_47 rfl (lv_at hl 0 rfl) ?_
          refine lv_bipush (v := (-4)) hx hb dX8_caster_48 (by decide) ?_
          refine n_Vi (na := 1) (As := [.int (-4)]) (rest := []) X hD hN h rfl (c_refused l G cI cB cZ cO ad w  ok ((-4) : Int32)  ) ⟨kv_227, kv_228, kv_229, kv_212, kv_230⟩ rfl ⟨by decide, by decide, by decide⟩ ⟨Nat.le_of_ble_eq_true rfl, Nat.le_of_ble_eq_true rfl⟩ ⟨Nat.zero_le _, Nat.zero_le _⟩ (by decide) f25 rfl rfl hl.1 rfl (Nat.le_of_ble_eq_true rfl) dX8_caster_50 (fun r53 w54 H locs hp55 h => ?_)
          have kX56 : KX w w54 := hp55.2.1
          obtain ⟨ok59, kk60, hr58⟩ := hp55
          have kx61 : KT w w54 := kk60.t
          subst hr58
          exact e_i X h hr hlk dX8_caster_53 ⟨ok59, kx61, Or.inr (Or.inl ⟨by omega, by omega, kX56, rfl⟩)⟩
      · refine lv_if_ne (tgt := 35) hx hb dX8_caster_25 (by decide) (fun hc => absurd (by decide) hc) (fun _ => ?_)
        refine lv_aload_n hx hb dX8_caster_28 rfl (lv_at hl 0 rfl) ?_
        refine lv_bipush (v := (-2)) hx hb dX8_caster_29 (by decide) ?_
        obtain ⟨x66, x67, q68, q69, q70, f65⟩ := (show sN ad (w 0) from ok 0 (by decide))
        have f71 : w 0 = .inr (6, [.ref (ad 1), .ref (ad 14), .ref (ad 27), .ref (ad 54), .ref (ad 55), .ref (ad 58), .ref (ad 62), .long x66, .long x67, .int q68, .int q69, .int q70]) := f65
        refine n_Vi (na := 1) (As := [.int (-2)]) (rest := []) X hD hN h rfl (c_refused l G cI cB cZ cO ad w  ok ((-2) : Int32)  ) ⟨kv_227, kv_228, kv_229, kv_212, kv_230⟩ rfl ⟨by decide, by decide, by decide⟩ ⟨Nat.le_of_ble_eq_true rfl, Nat.le_of_ble_eq_true rfl⟩ ⟨Nat.zero_le _, Nat.zero_le _⟩ (by decide) f71 rfl rfl hl.1 rfl (Nat.le_of_ble_eq_true rfl) dX8_caster_31 (fun r62 w63 H locs hp64 h => ?_)
        have kX72 : KX w w63 := hp64.2.1
        obtain ⟨ok75, kk76, hr74⟩ := hp64
        have kx77 : KT w w63 := kk76.t
        subst hr74
        exact e_i X h hr hlk dX8_caster_34 ⟨ok75, kx77, Or.inl ⟨by omega, kX72, rfl⟩⟩
    · refine lv_if_eq (tgt := 28) hx hb dX8_caster_16 (by decide) (fun _ => ?_) (fun hc => absurd (by decide) hc)
      refine lv_aload_n hx hb dX8_caster_28 rfl (lv_at hl 0 rfl) ?_
      refine lv_bipush (v := (-2)) hx hb dX8_caster_29 (by decide) ?_
      obtain ⟨x82, x83, q84, q85, q86, f81⟩ := (show sN ad (w 0) from ok 0 (by decide))
      have f87 : w 0 = .inr (6, [.ref (ad 1), .ref (ad 14), .ref (ad 27), .ref (ad 54), .ref (ad 55), .ref (ad 58), .ref (ad 62), .long x82, .long x83, .int q84, .int q85, .int q86]) := f81
      refine n_Vi (na := 1) (As := [.int (-2)]) (rest := []) X hD hN h rfl (c_refused l G cI cB cZ cO ad w  ok ((-2) : Int32)  ) ⟨kv_227, kv_228, kv_229, kv_212, kv_230⟩ rfl ⟨by decide, by decide, by decide⟩ ⟨Nat.le_of_ble_eq_true rfl, Nat.le_of_ble_eq_true rfl⟩ ⟨Nat.zero_le _, Nat.zero_le _⟩ (by decide) f87 rfl rfl hl.1 rfl (Nat.le_of_ble_eq_true rfl) dX8_caster_31 (fun r78 w79 H locs hp80 h => ?_)
      have kX88 : KX w w79 := hp80.2.1
      obtain ⟨ok91, kk92, hr90⟩ := hp80
      have kx93 : KT w w79 := kk92.t
      subst hr90
      exact e_i X h hr hlk dX8_caster_34 ⟨ok91, kx93, Or.inl ⟨by omega, kX88, rfl⟩⟩
  · refine lv_if_eq (tgt := 28) hx hb dX8_caster_6 (by decide) (fun _ => ?_) (fun hc => absurd (by decide) hc)
    refine lv_aload_n hx hb dX8_caster_28 rfl (lv_at hl 0 rfl) ?_
    refine lv_bipush (v := (-2)) hx hb dX8_caster_29 (by decide) ?_
    obtain ⟨x98, x99, q100, q101, q102, f97⟩ := (show sN ad (w 0) from ok 0 (by decide))
    have f103 : w 0 = .inr (6, [.ref (ad 1), .ref (ad 14), .ref (ad 27), .ref (ad 54), .ref (ad 55), .ref (ad 58), .ref (ad 62), .long x98, .long x99, .int q100, .int q101, .int q102]) := f97
    refine n_Vi (na := 1) (As := [.int (-2)]) (rest := []) X hD hN h rfl (c_refused l G cI cB cZ cO ad w  ok ((-2) : Int32)  ) ⟨kv_227, kv_228, kv_229, kv_212, kv_230⟩ rfl ⟨by decide, by decide, by decide⟩ ⟨Nat.le_of_ble_eq_true rfl, Nat.le_of_ble_eq_true rfl⟩ ⟨Nat.zero_le _, Nat.zero_le _⟩ (by decide) f103 rfl rfl hl.1 rfl (Nat.le_of_ble_eq_true rfl) dX8_caster_31 (fun r94 w95 H locs hp96 h => ?_)
    have kX104 : KX w w95 := hp96.2.1
    obtain ⟨ok107, kk108, hr106⟩ := hp96
    have kx109 : KT w w95 := kk108.t
    subst hr106
    exact e_i X h hr hlk dX8_caster_34 ⟨ok107, kx109, Or.inl ⟨by omega, kX104, rfl⟩⟩

set_option maxHeartbeats 4000000 in
set_option maxRecDepth 100000 in
theorem c_F_jar (l : Launch) (G : va_G) (cI cB cZ cO : ClassId) (ad : Nat → Nat) (w : Nat → va_E) (ho so mi ca ja nz mz : Int32) (hh nc mc : Nat → Int32) (ok : OK cI cB cZ cO ad w) (k : Int32)  (n_1 : w 1 = .inr (1, [.int ho, .int so, .int mi, .int ca, .int ja, .ref (ad 2), .ref (ad 3), .ref (ad 4), .ref (ad 5), .ref (ad 6), .ref (ad 7), .ref (ad 8), .ref (ad 10), .ref (ad 12)])) (n_3 : w 3 = .inl (cI, 7, .inl hh)) (n_8 : w 8 = .inr (4, [.ref (ad 9), .int nz])) (n_9 : w 9 = .inl (cI, 24, .inl nc)) (n_10 : w 10 = .inr (4, [.ref (ad 11), .int mz])) (n_11 : w 11 = .inl (cI, 24, .inl mc)) (hrn : rgA 0 9 hh) (hca : 0 ≤ ca.toInt ∧ ca.toInt ≤ 7) (hja : 0 ≤ ja.toInt ∧ ja.toInt ≤ 4) (hnz : 0 ≤ nz.toInt ∧ nz.toInt ≤ 6) (hmz : 0 ≤ mz.toInt ∧ mz.toInt ≤ 6) : NI l G (tyq cI cB cZ cO) yX8_jar cX8_jar 2 (some .int) 1 22 74 ad w [.ref (ad 0), .int k] (fun r w1 => OK cI cB cZ cO ad w1 ∧ KT w w1 ∧ ((¬ (0 ≤ k.toInt ∧ k.toInt ≤ 5) ∧ KX w w1 ∧ r = -2) ∨ ((0 ≤ k.toInt ∧ k.toInt ≤ 5) ∧ 4 ≤ ja.toInt ∧ KX w w1 ∧ r = -4) ∨ ((0 ≤ k.toInt ∧ k.toInt ≤ 5) ∧ ¬ 4 ≤ ja.toInt ∧ FR 1 w w1 ∧ ja = r ∧ IV cI ad 1 w1 ca (ja + 1) nz mz hh nc mc))) := by
  refine nk_i (own := "NoonShade") rfl (by decide) (Nat.le_of_ble_eq_true rfl) ?_
  intro p e s m below meth c ls X hD hN hr hlk h hl
  have hx := X.1.1
  have hb := X.1.2.1
  have hown := X.1.2.2.2.1
  have hts := X.1.2.2.2.2
  have hl : lv_has ls 2 [(0, .ref (ad 0)), (1, .int k)] := hl
  have hca0 := hca.1
  have hca1 := hca.2
  have hja0 := hja.1
  have hja1 := hja.2
  have hnz0 := hnz.1
  have hnz1 := hnz.2
  have hmz0 := hmz.1
  have hmz1 := hmz.2
  refine lv_iload_n hx hb dX8_jar_0 rfl (lv_at hl 1 rfl) ?_
  refine lv_iconst (v := 0) hx hb dX8_jar_1 (by decide) ?_
  refine lv_iconst (v := 5) hx hb dX8_jar_2 (by decide) ?_
  refine n_Si (na := 3) (As := [.int k, .int 0, .int 5]) (rest := []) X hD hN h (c_within l G cI cB cZ cO ad w k (0 : Int32) (5 : Int32) ((k).toInt) 0 5 rfl rfl rfl) ⟨kv_247, kv_248, kv_212, kv_249⟩ ⟨by decide, by decide, by decide⟩ ⟨Nat.le_of_ble_eq_true rfl, Nat.le_of_ble_eq_true rfl⟩ ⟨Nat.zero_le _, Nat.zero_le _⟩ rfl hl.1 rfl (Nat.le_of_ble_eq_true rfl) dX8_jar_3 (fun r1 w2 H locs hp3 h => ?_)
  obtain ⟨rfl, hq4⟩ := hp3
  rcases hq4 with ⟨hq5, hq6, rfl⟩ | ⟨hq4, rfl⟩
  · refine lv_if_ne (tgt := 16) hx hb dX8_jar_6 (by decide) (fun _ => ?_) (fun hc => absurd hc (by decide))
    refine lv_aload_n hx hb dX8_jar_16 rfl (lv_at hl 0 rfl) ?_
    obtain ⟨x8, x9, q10, q11, q12, f7⟩ := (show sN ad (w 0) from ok 0 (by decide))
    have f13 : w 0 = .inr (6, [.ref (ad 1), .ref (ad 14), .ref (ad 27), .ref (ad 54), .ref (ad 55), .ref (ad 58), .ref (ad 62), .long x8, .long x9, .int q10, .int q11, .int q12]) := f7
    refine r_get kc8 X h 0 0 (by decide) rfl f13 (by decide) kv_172 rfl dX8_jar_17 ?_
    refine r_get kc2 X h 1 4 (by decide) rfl n_1 (by decide) kv_174 rfl dX8_jar_20 ?_
    refine lv_iconst (v := 4) hx hb dX8_jar_23 (by decide) ?_
    refine lv_icmp_lt (tgt := 34) hx hb dX8_jar_24 (by decide) (fun hc14 => ?_) (fun hc14 => ?_)
    · have hc14 : (ja).toInt < 4 := i_lt hc14 rfl rfl
      refine lv_aload_n hx hb dX8_jar_34 rfl (lv_at hl 0 rfl) ?_
      refine r_get kc8 X h 0 0 (by decide) rfl f13 (by decide) kv_172 rfl dX8_jar_35 ?_
      refine r_get kc2 X h 1 13 (by decide) rfl n_1 (by decide) kv_189 rfl dX8_jar_38 ?_
      obtain ⟨z16, f15, h17, h18⟩ := (show sR ad 2 13 8 (w 12) from ok 12 (by decide))
      have f19 : w 12 = .inr (2, [.ref (ad 13), .int z16]) := f15
      refine n_Vv (na := 0) (As := []) (rest := []) X hD hN h rfl (c_P_empty l G cI cB cZ cO ad w 12 _ _ (by decide) f19) ⟨kv_335, kv_69, kv_70, kv_71, kv_72⟩ rfl ⟨by decide, by decide, by decide⟩ ⟨Nat.le_of_ble_eq_true rfl, Nat.le_of_ble_eq_true rfl⟩ ⟨Nat.zero_le _, Nat.zero_le _⟩ (by decide) f19 rfl rfl hl.1 rfl (Nat.le_of_ble_eq_true rfl) dX8_jar_41 (fun w21 H locs hp22 h => ?_)
      have e23 := hp22
      have f24 : w21 12 = .inr (2, [.ref (ad 13), .int 0]) := (congrFun e23 _).trans (va_up_self _ _ _)
      have ok25 : OK cI cB cZ cO ad w21 := OK.up ok e23 (sR_mk (by decide) (by decide))
      have kx26 : KT w w21 := KT.up KT.rf e23 f19 rfl
      refine lv_aload_n hx hb dX8_jar_44 rfl (lv_at hl 0 rfl) ?_
      have f27 : w21 0 = .inr (6, [.ref (ad 1), .ref (ad 14), .ref (ad 27), .ref (ad 54), .ref (ad 55), .ref (ad 58), .ref (ad 62), .long x8, .long x9, .int q10, .int q11, .int q12]) := by rw [e23, va_up_ne _ _ (by decide)]; exact f13
      refine r_get kc8 X h 0 0 (by decide) rfl f27 (by decide) kv_172 rfl dX8_jar_45 ?_
      refine lv_iload_n hx hb dX8_jar_48 rfl (lv_at hl 1 rfl) ?_
      have f28 : w21 1 = .inr (1, [.int ho, .int so, .int mi, .int ca, .int ja, .ref (ad 2), .ref (ad 3), .ref (ad 4), .ref (ad 5), .ref (ad 6), .ref (ad 7), .ref (ad 8), .ref (ad 10), .ref (ad 12)]) := by rw [e23, va_up_ne _ _ (by decide)]; exact n_1
      have f29 : w21 3 = .inl (cI, 7, .inl hh) := by rw [e23, va_up_ne _ _ (by decide)]; exact n_3
      have f30 : w21 8 = .inr (4, [.ref (ad 9), .int nz]) := by rw [e23, va_up_ne _ _ (by decide)]; exact n_8
      have f31 : w21 9 = .inl (cI, 24, .inl nc) := by rw [e23, va_up_ne _ _ (by decide)]; exact n_9
      have f32 : w21 10 = .inr (4, [.ref (ad 11), .int mz]) := by rw [e23, va_up_ne _ _ (by decide)]; exact n_10
      have f33 : w21 11 = .inl (cI, 24, .inl mc) := by rw [e23, va_up_ne _ _ (by decide)]; exact n_11
      refine n_Vi (na := 1) (As := [.int k]) (rest := []) X hD hN h rfl (c_F1_addJar l G cI cB cZ cO ad w21 ho so mi ca ja nz mz hh nc mc ok25 k  f28 f29 f30 f31 f32 f33 hrn ⟨by omega, by omega⟩ ⟨by omega, by omega⟩ ⟨by omega, by omega⟩ ⟨by omega, by omega⟩ (by omega)) ⟨kv_340, kv_341, kv_342, kv_37, kv_343⟩ rfl ⟨by decide, by decide, by decide⟩ ⟨Nat.le_of_ble_eq_true rfl, Nat.le_of_ble_eq_true rfl⟩ ⟨Nat.zero_le _, Nat.zero_le _⟩ (by decide) f28 rfl rfl hl.1 rfl (Nat.le_of_ble_eq_true rfl) dX8_jar_49 (fun r34 w35 H locs hp36 h => ?_)
      obtain ⟨ok37, kk38, hr39⟩ := hp36
      have kx40 : KT w w35 := KT.tr kx26 (FR.t (Or.inl rfl) kk38)
      exact e_i X h hr hlk dX8_jar_52 ⟨ok37, kx40, Or.inr (Or.inr ⟨by omega, by omega, (FR.tr (FR.up FR.rf e23 (by decide)) kk38), hr39⟩)⟩
    · have hc14 : ¬ (ja).toInt < 4 := i_nlt hc14 rfl rfl
      refine lv_aload_n hx hb dX8_jar_27 rfl (lv_at hl 0 rfl) ?_
      refine lv_bipush (v := (-4)) hx hb dX8_jar_28 (by decide) ?_
      refine n_Vi (na := 1) (As := [.int (-4)]) (rest := []) X hD hN h rfl (c_refused l G cI cB cZ cO ad w  ok ((-4) : Int32)  ) ⟨kv_227, kv_228, kv_229, kv_212, kv_230⟩ rfl ⟨by decide, by decide, by decide⟩ ⟨Nat.le_of_ble_eq_true rfl, Nat.le_of_ble_eq_true rfl⟩ ⟨Nat.zero_le _, Nat.zero_le _⟩ (by decide) f13 rfl rfl hl.1 rfl (Nat.le_of_ble_eq_true rfl) dX8_jar_30 (fun r41 w42 H locs hp43 h => ?_)
      have kX44 : KX w w42 := hp43.2.1
      obtain ⟨ok47, kk48, hr46⟩ := hp43
      have kx49 : KT w w42 := kk48.t
      subst hr46
      exact e_i X h hr hlk dX8_jar_33 ⟨ok47, kx49, Or.inr (Or.inl ⟨by omega, by omega, kX44, rfl⟩)⟩
  · refine lv_if_ne (tgt := 16) hx hb dX8_jar_6 (by decide) (fun hc => absurd (by decide) hc) (fun _ => ?_)
    refine lv_aload_n hx hb dX8_jar_9 rfl (lv_at hl 0 rfl) ?_
    refine lv_bipush (v := (-2)) hx hb dX8_jar_10 (by decide) ?_
    obtain ⟨x54, x55, q56, q57, q58, f53⟩ := (show sN ad (w 0) from ok 0 (by decide))
    have f59 : w 0 = .inr (6, [.ref (ad 1), .ref (ad 14), .ref (ad 27), .ref (ad 54), .ref (ad 55), .ref (ad 58), .ref (ad 62), .long x54, .long x55, .int q56, .int q57, .int q58]) := f53
    refine n_Vi (na := 1) (As := [.int (-2)]) (rest := []) X hD hN h rfl (c_refused l G cI cB cZ cO ad w  ok ((-2) : Int32)  ) ⟨kv_227, kv_228, kv_229, kv_212, kv_230⟩ rfl ⟨by decide, by decide, by decide⟩ ⟨Nat.le_of_ble_eq_true rfl, Nat.le_of_ble_eq_true rfl⟩ ⟨Nat.zero_le _, Nat.zero_le _⟩ (by decide) f59 rfl rfl hl.1 rfl (Nat.le_of_ble_eq_true rfl) dX8_jar_12 (fun r50 w51 H locs hp52 h => ?_)
    have kX60 : KX w w51 := hp52.2.1
    obtain ⟨ok63, kk64, hr62⟩ := hp52
    have kx65 : KT w w51 := kk64.t
    subst hr62
    exact e_i X h hr hlk dX8_jar_15 ⟨ok63, kx65, Or.inl ⟨by omega, kX60, rfl⟩⟩

set_option maxHeartbeats 4000000 in
set_option maxRecDepth 100000 in
theorem c_F_Radd8 (l : Launch) (G : va_G) (cI cB cZ cO : ClassId) (ad : Nat → Nat) (w : Nat → va_E) (ho so mi ca ja nz mz : Int32) (hh nc mc : Nat → Int32) (ok : OK cI cB cZ cO ad w) (a0 : Int32) (a1 : Int32) (a2 : Int32) (a3 : Int32)  (n_1 : w 1 = .inr (1, [.int ho, .int so, .int mi, .int ca, .int ja, .ref (ad 2), .ref (ad 3), .ref (ad 4), .ref (ad 5), .ref (ad 6), .ref (ad 7), .ref (ad 8), .ref (ad 10), .ref (ad 12)])) (n_3 : w 3 = .inl (cI, 7, .inl hh)) (n_8 : w 8 = .inr (4, [.ref (ad 9), .int nz])) (n_9 : w 9 = .inl (cI, 24, .inl nc)) (n_10 : w 10 = .inr (4, [.ref (ad 11), .int mz])) (n_11 : w 11 = .inl (cI, 24, .inl mc)) (hrn : rgA 0 9 hh) (hca : 0 ≤ ca.toInt ∧ ca.toInt ≤ 7) (hja : 0 ≤ ja.toInt ∧ ja.toInt ≤ 4) (hnz : 0 ≤ nz.toInt ∧ nz.toInt ≤ 6) (hmz : 0 ≤ mz.toInt ∧ mz.toInt ≤ 6) (hlt : nz.toInt < 6) : NI l G (tyq cI cB cZ cO) yX6_add cX6_add 6 (some .int) 1 20 74 ad w [.ref (ad 8), .int a0, .int a1, .int a2, .int a3] (fun r w1 => OK cI cB cZ cO ad w1 ∧ FR 1 w w1 ∧ nz + 1 = r ∧ ∃ n : Nat, (n : Int) = 4 * nz.toInt ∧ IV cI ad 1 w1 ca ja (nz + 1) mz hh (upd (upd (upd (upd nc n a0) (n + 1) a1) (n + 2) a2) (n + 3) a3) mc) := by
  refine nk_i (own := "NoonShade$Rows") rfl (by decide) (Nat.le_of_ble_eq_true rfl) ?_
  intro p e s m below meth c ls X hD hN hr hlk h hl
  have hx := X.1.1
  have hb := X.1.2.1
  have hown := X.1.2.2.2.1
  have hts := X.1.2.2.2.2
  have hl : lv_has ls 6 [(0, .ref (ad 8)), (1, .int a0), (2, .int a1), (3, .int a2), (4, .int a3)] := hl
  have hca0 := hca.1
  have hca1 := hca.2
  have hja0 := hja.1
  have hja1 := hja.2
  have hnz0 := hnz.1
  have hnz1 := hnz.2
  have hmz0 := hmz.1
  have hmz1 := hmz.2
  refine lv_aload_n hx hb dX6_add_0 rfl (lv_at hl 0 rfl) ?_
  refine n_Vi (na := 0) (As := []) (rest := []) X hD hN h rfl (c_R_isFull l G cI cB cZ cO ad w 8 (Or.inl rfl) nz    n_8) ⟨kv_73, kv_74, kv_75, kv_64, kv_76⟩ rfl ⟨by decide, by decide, by decide⟩ ⟨Nat.le_of_ble_eq_true rfl, Nat.le_of_ble_eq_true rfl⟩ ⟨Nat.zero_le _, Nat.zero_le _⟩ (by decide) n_8 rfl rfl hl.1 rfl (Nat.le_of_ble_eq_true rfl) dX6_add_1 (fun r1 w2 H locs hp3 h => ?_)
  obtain ⟨rfl, hr4⟩ := hp3
  rcases hr4 with ⟨hq5, rfl⟩ | ⟨hq6, rfl⟩
  · refine lv_if_eq (tgt := 10) hx hb dX6_add_4 (by decide) (fun hc => absurd hc (by decide)) (fun _ => ?_)
    refine lv_bipush (v := (-4)) hx hb dX6_add_7 (by decide) ?_
    exact e_i X h hr hlk dX6_add_9 ⟨ok, FR.rf, (by exfalso; omega)⟩
  · refine lv_if_eq (tgt := 10) hx hb dX6_add_4 (by decide) (fun _ => ?_) (fun hc => absurd (by decide) hc)
    refine lv_aload_n hx hb dX6_add_10 rfl (lv_at hl 0 rfl) ?_
    refine r_get kc6 X h 8 1 (by decide) rfl n_8 (by decide) kv_58 rfl dX6_add_11 ?_
    refine lv_iconst (v := 4) hx hb dX6_add_14 (by decide) ?_
    obtain ⟨z9, e7, t8⟩ := x_mul (x := nz) (y := (4 : Int32)) (a := (nz).toInt) (b := 4) rfl rfl (by omega) (by omega)
    refine o_imul (z := z9) hx hb dX6_add_15 e7 ?_
    refine lv_istore (lv' := [(5, .int z9), (0, .ref (ad 8)), (1, .int a0), (2, .int a1), (3, .int a2), (4, .int a3)]) hx hb dX6_add_16 hl (by decide) rfl (fun ls hl => ?_)
    refine lv_aload_n hx hb dX6_add_18 rfl (lv_at hl 1 rfl) ?_
    refine r_get kc6 X h 8 0 (by decide) rfl n_8 (by decide) kv_77 rfl dX6_add_19 ?_
    refine lv_iload hx hb dX6_add_22 (lv_at hl 0 rfl) ?_
    refine lv_iload_n hx hb dX6_add_24 rfl (lv_at hl 2 rfl) ?_
    obtain ⟨g10, e11⟩ : ∃ z : Nat → Int32, upd nc z9.toNatClampNeg a0 = z := ⟨_, rfl⟩
    have p13 : anyA g10 := trivial
    refine o_iast (f1 := g10) X hD h 9 0 (by decide) rfl n_9 rfl (in_of (by omega) (by omega)) e11 dX6_add_25 (fun H locs w14 e15 h => ?_)
    have f16 : w14 9 = .inl (cI, 24, .inl g10) := (congrFun e15 _).trans (va_up_self _ _ _)
    have ok17 : OK cI cB cZ cO ad w14 := OK.up ok e15 (sA_mk p13)
    have kx18 : FR 1 w w14 := FR.up FR.rf e15 (by decide)
    refine lv_aload_n hx hb dX6_add_26 rfl (lv_at hl 1 rfl) ?_
    have f19 : w14 8 = .inr (4, [.ref (ad 9), .int nz]) := by rw [e15, va_up_ne _ _ (by decide)]; exact n_8
    refine r_get kc6 X h 8 0 (by decide) rfl f19 (by decide) kv_77 rfl dX6_add_27 ?_
    refine lv_iload hx hb dX6_add_30 (lv_at hl 0 rfl) ?_
    refine lv_iconst (v := 1) hx hb dX6_add_32 (by decide) ?_
    obtain ⟨z22, e20, t21⟩ := x_add (x := z9) (y := (1 : Int32)) (a := (z9).toInt) (b := 1) rfl rfl (by omega) (by omega)
    have n23 : z22.toNatClampNeg = z9.toNatClampNeg + 1 := cl_addn (x := z9) (y := (1 : Int32)) rfl rfl t21 (by omega) (by decide)
    refine o_iadd (z := z22) hx hb dX6_add_33 e20 ?_
    refine lv_iload_n hx hb dX6_add_34 rfl (lv_at hl 3 rfl) ?_
    obtain ⟨g24, e25⟩ : ∃ z : Nat → Int32, upd g10 (z9.toNatClampNeg + 1) a1 = z := ⟨_, rfl⟩
    have p27 : anyA g24 := trivial
    refine o_iast (f1 := g24) X hD h 9 0 (by decide) rfl f16 rfl (in_of (by omega) (by omega)) (by rw [n23]; exact e25) dX6_add_35 (fun H locs w28 e29 h => ?_)
    have f30 : w28 9 = .inl (cI, 24, .inl g24) := (congrFun e29 _).trans (va_up_self _ _ _)
    have ok31 : OK cI cB cZ cO ad w28 := OK.up ok17 e29 (sA_mk p27)
    have kx32 : FR 1 w w28 := FR.up kx18 e29 (by decide)
    refine lv_aload_n hx hb dX6_add_36 rfl (lv_at hl 1 rfl) ?_
    have f33 : w28 8 = .inr (4, [.ref (ad 9), .int nz]) := by rw [e29, va_up_ne _ _ (by decide)]; exact f19
    refine r_get kc6 X h 8 0 (by decide) rfl f33 (by decide) kv_77 rfl dX6_add_37 ?_
    refine lv_iload hx hb dX6_add_40 (lv_at hl 0 rfl) ?_
    refine lv_iconst (v := 2) hx hb dX6_add_42 (by decide) ?_
    obtain ⟨z36, e34, t35⟩ := x_add (x := z9) (y := (2 : Int32)) (a := (z9).toInt) (b := 2) rfl rfl (by omega) (by omega)
    have n37 : z36.toNatClampNeg = z9.toNatClampNeg + 2 := cl_addn (x := z9) (y := (2 : Int32)) rfl rfl t35 (by omega) (by decide)
    refine o_iadd (z := z36) hx hb dX6_add_43 e34 ?_
    refine lv_iload_n hx hb dX6_add_44 rfl (lv_at hl 4 rfl) ?_
    obtain ⟨g38, e39⟩ : ∃ z : Nat → Int32, upd g24 (z9.toNatClampNeg + 2) a2 = z := ⟨_, rfl⟩
    have p41 : anyA g38 := trivial
    refine o_iast (f1 := g38) X hD h 9 0 (by decide) rfl f30 rfl (in_of (by omega) (by omega)) (by rw [n37]; exact e39) dX6_add_45 (fun H locs w42 e43 h => ?_)
    have f44 : w42 9 = .inl (cI, 24, .inl g38) := (congrFun e43 _).trans (va_up_self _ _ _)
    have ok45 : OK cI cB cZ cO ad w42 := OK.up ok31 e43 (sA_mk p41)
    have kx46 : FR 1 w w42 := FR.up kx32 e43 (by decide)
    refine lv_aload_n hx hb dX6_add_46 rfl (lv_at hl 1 rfl) ?_
    have f47 : w42 8 = .inr (4, [.ref (ad 9), .int nz]) := by rw [e43, va_up_ne _ _ (by decide)]; exact f33
    refine r_get kc6 X h 8 0 (by decide) rfl f47 (by decide) kv_77 rfl dX6_add_47 ?_
    refine lv_iload hx hb dX6_add_50 (lv_at hl 0 rfl) ?_
    refine lv_iconst (v := 3) hx hb dX6_add_52 (by decide) ?_
    obtain ⟨z50, e48, t49⟩ := x_add (x := z9) (y := (3 : Int32)) (a := (z9).toInt) (b := 3) rfl rfl (by omega) (by omega)
    have n51 : z50.toNatClampNeg = z9.toNatClampNeg + 3 := cl_addn (x := z9) (y := (3 : Int32)) rfl rfl t49 (by omega) (by decide)
    refine o_iadd (z := z50) hx hb dX6_add_53 e48 ?_
    refine lv_iload hx hb dX6_add_54 (lv_at hl 5 rfl) ?_
    obtain ⟨g52, e53⟩ : ∃ z : Nat → Int32, upd g38 (z9.toNatClampNeg + 3) a3 = z := ⟨_, rfl⟩
    have p55 : anyA g52 := trivial
    refine o_iast (f1 := g52) X hD h 9 0 (by decide) rfl f44 rfl (in_of (by omega) (by omega)) (by rw [n51]; exact e53) dX6_add_56 (fun H locs w56 e57 h => ?_)
    have f58 : w56 9 = .inl (cI, 24, .inl g52) := (congrFun e57 _).trans (va_up_self _ _ _)
    have ok59 : OK cI cB cZ cO ad w56 := OK.up ok45 e57 (sA_mk p55)
    have kx60 : FR 1 w w56 := FR.up kx46 e57 (by decide)
    refine lv_aload_n hx hb dX6_add_57 rfl (lv_at hl 1 rfl) ?_
    refine lv_dup hx hb dX6_add_58 rfl ?_
    have f61 : w56 8 = .inr (4, [.ref (ad 9), .int nz]) := by rw [e57, va_up_ne _ _ (by decide)]; exact f47
    refine r_get kc6 X h 8 1 (by decide) rfl f61 (by decide) kv_58 rfl dX6_add_59 ?_
    refine lv_iconst (v := 1) hx hb dX6_add_62 (by decide) ?_
    obtain ⟨z64, e62, t63⟩ := x_add (x := nz) (y := (1 : Int32)) (a := (nz).toInt) (b := 1) rfl rfl (by omega) (by omega)
    have n65 : z64.toNatClampNeg = nz.toNatClampNeg + 1 := cl_addn (x := nz) (y := (1 : Int32)) rfl rfl t63 (by omega) (by decide)
    refine o_iadd (z := z64) hx hb dX6_add_63 e62 ?_
    refine r_put kc6 X hD h 8 1 (by decide) rfl f61 (by decide) kv_58 rfl rfl rfl (Nat.le_of_ble_eq_true rfl) dX6_add_64 (fun H locs w66 e67 h => ?_)
    have f68 : w66 8 = .inr (4, [.ref (ad 9), .int z64]) := (congrFun e67 _).trans (va_up_self _ _ _)
    have ok69 : OK cI cB cZ cO ad w66 := OK.up ok59 e67 (sR_mk (by omega) (by omega))
    have kx70 : FR 1 w w66 := FR.up kx60 e67 (by decide)
    refine lv_aload_n hx hb dX6_add_67 rfl (lv_at hl 1 rfl) ?_
    refine r_get kc6 X h 8 1 (by decide) rfl f68 (by decide) kv_58 rfl dX6_add_68 ?_
    have f71 : w66 9 = .inl (cI, 24, .inl g52) := by rw [e67, va_up_ne _ _ (by decide)]; exact f58
    have f72 : w14 1 = .inr (1, [.int ho, .int so, .int mi, .int ca, .int ja, .ref (ad 2), .ref (ad 3), .ref (ad 4), .ref (ad 5), .ref (ad 6), .ref (ad 7), .ref (ad 8), .ref (ad 10), .ref (ad 12)]) := by rw [e15, va_up_ne _ _ (by decide)]; exact n_1
    have f73 : w28 1 = .inr (1, [.int ho, .int so, .int mi, .int ca, .int ja, .ref (ad 2), .ref (ad 3), .ref (ad 4), .ref (ad 5), .ref (ad 6), .ref (ad 7), .ref (ad 8), .ref (ad 10), .ref (ad 12)]) := by rw [e29, va_up_ne _ _ (by decide)]; exact f72
    have f74 : w42 1 = .inr (1, [.int ho, .int so, .int mi, .int ca, .int ja, .ref (ad 2), .ref (ad 3), .ref (ad 4), .ref (ad 5), .ref (ad 6), .ref (ad 7), .ref (ad 8), .ref (ad 10), .ref (ad 12)]) := by rw [e43, va_up_ne _ _ (by decide)]; exact f73
    have f75 : w56 1 = .inr (1, [.int ho, .int so, .int mi, .int ca, .int ja, .ref (ad 2), .ref (ad 3), .ref (ad 4), .ref (ad 5), .ref (ad 6), .ref (ad 7), .ref (ad 8), .ref (ad 10), .ref (ad 12)]) := by rw [e57, va_up_ne _ _ (by decide)]; exact f74
    have f76 : w66 1 = .inr (1, [.int ho, .int so, .int mi, .int ca, .int ja, .ref (ad 2), .ref (ad 3), .ref (ad 4), .ref (ad 5), .ref (ad 6), .ref (ad 7), .ref (ad 8), .ref (ad 10), .ref (ad 12)]) := by rw [e67, va_up_ne _ _ (by decide)]; exact f75
    have f77 : w14 3 = .inl (cI, 7, .inl hh) := by rw [e15, va_up_ne _ _ (by decide)]; exact n_3
    have f78 : w28 3 = .inl (cI, 7, .inl hh) := by rw [e29, va_up_ne _ _ (by decide)]; exact f77
    have f79 : w42 3 = .inl (cI, 7, .inl hh) := by rw [e43, va_up_ne _ _ (by decide)]; exact f78
    have f80 : w56 3 = .inl (cI, 7, .inl hh) := by rw [e57, va_up_ne _ _ (by decide)]; exact f79
    have f81 : w66 3 = .inl (cI, 7, .inl hh) := by rw [e67, va_up_ne _ _ (by decide)]; exact f80
    have f82 : w14 10 = .inr (4, [.ref (ad 11), .int mz]) := by rw [e15, va_up_ne _ _ (by decide)]; exact n_10
    have f83 : w28 10 = .inr (4, [.ref (ad 11), .int mz]) := by rw [e29, va_up_ne _ _ (by decide)]; exact f82
    have f84 : w42 10 = .inr (4, [.ref (ad 11), .int mz]) := by rw [e43, va_up_ne _ _ (by decide)]; exact f83
    have f85 : w56 10 = .inr (4, [.ref (ad 11), .int mz]) := by rw [e57, va_up_ne _ _ (by decide)]; exact f84
    have f86 : w66 10 = .inr (4, [.ref (ad 11), .int mz]) := by rw [e67, va_up_ne _ _ (by decide)]; exact f85
    have f87 : w14 11 = .inl (cI, 24, .inl mc) := by rw [e15, va_up_ne _ _ (by decide)]; exact n_11
    have f88 : w28 11 = .inl (cI, 24, .inl mc) := by rw [e29, va_up_ne _ _ (by decide)]; exact f87
    have f89 : w42 11 = .inl (cI, 24, .inl mc) := by rw [e43, va_up_ne _ _ (by decide)]; exact f88
    have f90 : w56 11 = .inl (cI, 24, .inl mc) := by rw [e57, va_up_ne _ _ (by decide)]; exact f89
    have f91 : w66 11 = .inl (cI, 24, .inl mc) := by rw [e67, va_up_ne _ _ (by decide)]; exact f90
    exact e_i X h hr hlk dX6_add_71 ⟨ok69, kx70, ⟨(fa_eq _ _).mpr (by rw [inc32 (by omega) (by omega)]; omega), z9.toNatClampNeg, by have := cl_of (x := z9) (by omega); omega, ⟨by rw [f76]; subst e62; subst e53; subst e48; subst e39; subst e34; subst e25; subst e20; subst e11; subst e7; rfl, (f81.trans (by subst e62; subst e53; subst e48; subst e39; subst e34; subst e25; subst e20; subst e11; subst e7; rfl)), (f68.trans (by subst e62; subst e53; subst e48; subst e39; subst e34; subst e25; subst e20; subst e11; subst e7; rfl)), (f71.trans (by subst e62; subst e53; subst e48; subst e39; subst e34; subst e25; subst e20; subst e11; subst e7; rfl)), (f86.trans (by subst e62; subst e53; subst e48; subst e39; subst e34; subst e25; subst e20; subst e11; subst e7; rfl)), (f91.trans (by subst e62; subst e53; subst e48; subst e39; subst e34; subst e25; subst e20; subst e11; subst e7; rfl))⟩⟩⟩

set_option maxHeartbeats 4000000 in
set_option maxRecDepth 100000 in
theorem c_F_Radd10 (l : Launch) (G : va_G) (cI cB cZ cO : ClassId) (ad : Nat → Nat) (w : Nat → va_E) (ho so mi ca ja nz mz : Int32) (hh nc mc : Nat → Int32) (ok : OK cI cB cZ cO ad w) (a0 : Int32) (a1 : Int32) (a2 : Int32) (a3 : Int32)  (n_1 : w 1 = .inr (1, [.int ho, .int so, .int mi, .int ca, .int ja, .ref (ad 2), .ref (ad 3), .ref (ad 4), .ref (ad 5), .ref (ad 6), .ref (ad 7), .ref (ad 8), .ref (ad 10), .ref (ad 12)])) (n_3 : w 3 = .inl (cI, 7, .inl hh)) (n_8 : w 8 = .inr (4, [.ref (ad 9), .int nz])) (n_9 : w 9 = .inl (cI, 24, .inl nc)) (n_10 : w 10 = .inr (4, [.ref (ad 11), .int mz])) (n_11 : w 11 = .inl (cI, 24, .inl mc)) (hrn : rgA 0 9 hh) (hca : 0 ≤ ca.toInt ∧ ca.toInt ≤ 7) (hja : 0 ≤ ja.toInt ∧ ja.toInt ≤ 4) (hnz : 0 ≤ nz.toInt ∧ nz.toInt ≤ 6) (hmz : 0 ≤ mz.toInt ∧ mz.toInt ≤ 6) (hlt : mz.toInt < 6) : NI l G (tyq cI cB cZ cO) yX6_add cX6_add 6 (some .int) 1 20 74 ad w [.ref (ad 10), .int a0, .int a1, .int a2, .int a3] (fun r w1 => OK cI cB cZ cO ad w1 ∧ FR 1 w w1 ∧ mz + 1 = r ∧ ∃ n : Nat, (n : Int) = 4 * mz.toInt ∧ IV cI ad 1 w1 ca ja nz (mz + 1) hh nc (upd (upd (upd (upd mc n a0) (n + 1) a1) (n + 2) a2) (n + 3) a3)) := by
  refine nk_i (own := "NoonShade$Rows") rfl (by decide) (Nat.le_of_ble_eq_true rfl) ?_
  intro p e s m below meth c ls X hD hN hr hlk h hl
  have hx := X.1.1
  have hb := X.1.2.1
  have hown := X.1.2.2.2.1
  have hts := X.1.2.2.2.2
  have hl : lv_has ls 6 [(0, .ref (ad 10)), (1, .int a0), (2, .int a1), (3, .int a2), (4, .int a3)] := hl
  have hca0 := hca.1
  have hca1 := hca.2
  have hja0 := hja.1
  have hja1 := hja.2
  have hnz0 := hnz.1
  have hnz1 := hnz.2
  have hmz0 := hmz.1
  have hmz1 := hmz.2
  refine lv_aload_n hx hb dX6_add_0 rfl (lv_at hl 0 rfl) ?_
  refine n_Vi (na := 0) (As := []) (rest := []) X hD hN h rfl (c_R_isFull l G cI cB cZ cO ad w 10 (Or.inr rfl) mz    n_10) ⟨kv_73, kv_74, kv_75, kv_64, kv_76⟩ rfl ⟨by decide, by decide, by decide⟩ ⟨Nat.le_of_ble_eq_true rfl, Nat.le_of_ble_eq_true rfl⟩ ⟨Nat.zero_le _, Nat.zero_le _⟩ (by decide) n_10 rfl rfl hl.1 rfl (Nat.le_of_ble_eq_true rfl) dX6_add_1 (fun r1 w2 H locs hp3 h => ?_)
  obtain ⟨rfl, hr4⟩ := hp3
  rcases hr4 with ⟨hq5, rfl⟩ | ⟨hq6, rfl⟩
  · refine lv_if_eq (tgt := 10) hx hb dX6_add_4 (by decide) (fun hc => absurd hc (by decide)) (fun _ => ?_)
    refine lv_bipush (v := (-4)) hx hb dX6_add_7 (by decide) ?_
    exact e_i X h hr hlk dX6_add_9 ⟨ok, FR.rf, (by exfalso; omega)⟩
  · refine lv_if_eq (tgt := 10) hx hb dX6_add_4 (by decide) (fun _ => ?_) (fun hc => absurd (by decide) hc)
    refine lv_aload_n hx hb dX6_add_10 rfl (lv_at hl 0 rfl) ?_
    refine r_get kc6 X h 10 1 (by decide) rfl n_10 (by decide) kv_58 rfl dX6_add_11 ?_
    refine lv_iconst (v := 4) hx hb dX6_add_14 (by decide) ?_
    obtain ⟨z9, e7, t8⟩ := x_mul (x := mz) (y := (4 : Int32)) (a := (mz).toInt) (b := 4) rfl rfl (by omega) (by omega)
    refine o_imul (z := z9) hx hb dX6_add_15 e7 ?_
    refine lv_istore (lv' := [(5, .int z9), (0, .ref (ad 10)), (1, .int a0), (2, .int a1), (3, .int a2), (4, .int a3)]) hx hb dX6_add_16 hl (by decide) rfl (fun ls hl => ?_)
    refine lv_aload_n hx hb dX6_add_18 rfl (lv_at hl 1 rfl) ?_
    refine r_get kc6 X h 10 0 (by decide) rfl n_10 (by decide) kv_77 rfl dX6_add_19 ?_
    refine lv_iload hx hb dX6_add_22 (lv_at hl 0 rfl) ?_
    refine lv_iload_n hx hb dX6_add_24 rfl (lv_at hl 2 rfl) ?_
    obtain ⟨g10, e11⟩ : ∃ z : Nat → Int32, upd mc z9.toNatClampNeg a0 = z := ⟨_, rfl⟩
    have p13 : anyA g10 := trivial
    refine o_iast (f1 := g10) X hD h 11 0 (by decide) rfl n_11 rfl (in_of (by omega) (by omega)) e11 dX6_add_25 (fun H locs w14 e15 h => ?_)
    have f16 : w14 11 = .inl (cI, 24, .inl g10) := (congrFun e15 _).trans (va_up_self _ _ _)
    have ok17 : OK cI cB cZ cO ad w14 := OK.up ok e15 (sA_mk p13)
    have kx18 : FR 1 w w14 := FR.up FR.rf e15 (by decide)
    refine lv_aload_n hx hb dX6_add_26 rfl (lv_at hl 1 rfl) ?_
    have f19 : w14 10 = .inr (4, [.ref (ad 11), .int mz]) := by rw [e15, va_up_ne _ _ (by decide)]; exact n_10
    refine r_get kc6 X h 10 0 (by decide) rfl f19 (by decide) kv_77 rfl dX6_add_27 ?_
    refine lv_iload hx hb dX6_add_30 (lv_at hl 0 rfl) ?_
    refine lv_iconst (v := 1) hx hb dX6_add_32 (by decide) ?_
    obtain ⟨z22, e20, t21⟩ := x_add (x := z9) (y := (1 : Int32)) (a := (z9).toInt) (b := 1) rfl rfl (by omega) (by omega)
    have n23 : z22.toNatClampNeg = z9.toNatClampNeg + 1 := cl_addn (x := z9) (y := (1 : Int32)) rfl rfl t21 (by omega) (by decide)
    refine o_iadd (z := z22) hx hb dX6_add_33 e20 ?_
    refine lv_iload_n hx hb dX6_add_34 rfl (lv_at hl 3 rfl) ?_
    obtain ⟨g24, e25⟩ : ∃ z : Nat → Int32, upd g10 (z9.toNatClampNeg + 1) a1 = z := ⟨_, rfl⟩
    have p27 : anyA g24 := trivial
    refine o_iast (f1 := g24) X hD h 11 0 (by decide) rfl f16 rfl (in_of (by omega) (by omega)) (by rw [n23]; exact e25) dX6_add_35 (fun H locs w28 e29 h => ?_)
    have f30 : w28 11 = .inl (cI, 24, .inl g24) := (congrFun e29 _).trans (va_up_self _ _ _)
    have ok31 : OK cI cB cZ cO ad w28 := OK.up ok17 e29 (sA_mk p27)
    have kx32 : FR 1 w w28 := FR.up kx18 e29 (by decide)
    refine lv_aload_n hx hb dX6_add_36 rfl (lv_at hl 1 rfl) ?_
    have f33 : w28 10 = .inr (4, [.ref (ad 11), .int mz]) := by rw [e29, va_up_ne _ _ (by decide)]; exact f19
    refine r_get kc6 X h 10 0 (by decide) rfl f33 (by decide) kv_77 rfl dX6_add_37 ?_
    refine lv_iload hx hb dX6_add_40 (lv_at hl 0 rfl) ?_
    refine lv_iconst (v := 2) hx hb dX6_add_42 (by decide) ?_
    obtain ⟨z36, e34, t35⟩ := x_add (x := z9) (y := (2 : Int32)) (a := (z9).toInt) (b := 2) rfl rfl (by omega) (by omega)
    have n37 : z36.toNatClampNeg = z9.toNatClampNeg + 2 := cl_addn (x := z9) (y := (2 : Int32)) rfl rfl t35 (by omega) (by decide)
    refine o_iadd (z := z36) hx hb dX6_add_43 e34 ?_
    refine lv_iload_n hx hb dX6_add_44 rfl (lv_at hl 4 rfl) ?_
    obtain ⟨g38, e39⟩ : ∃ z : Nat → Int32, upd g24 (z9.toNatClampNeg + 2) a2 = z := ⟨_, rfl⟩
    have p41 : anyA g38 := trivial
    refine o_iast (f1 := g38) X hD h 11 0 (by decide) rfl f30 rfl (in_of (by omega) (by omega)) (by rw [n37]; exact e39) dX6_add_45 (fun H locs w42 e43 h => ?_)
    have f44 : w42 11 = .inl (cI, 24, .inl g38) := (congrFun e43 _).trans (va_up_self _ _ _)
    have ok45 : OK cI cB cZ cO ad w42 := OK.up ok31 e43 (sA_mk p41)
    have kx46 : FR 1 w w42 := FR.up kx32 e43 (by decide)
    refine lv_aload_n hx hb dX6_add_46 rfl (lv_at hl 1 rfl) ?_
    have f47 : w42 10 = .inr (4, [.ref (ad 11), .int mz]) := by rw [e43, va_up_ne _ _ (by decide)]; exact f33
    refine r_get kc6 X h 10 0 (by decide) rfl f47 (by decide) kv_77 rfl dX6_add_47 ?_
    refine lv_iload hx hb dX6_add_50 (lv_at hl 0 rfl) ?_
    refine lv_iconst (v := 3) hx hb dX6_add_52 (by decide) ?_
    obtain ⟨z50, e48, t49⟩ := x_add (x := z9) (y := (3 : Int32)) (a := (z9).toInt) (b := 3) rfl rfl (by omega) (by omega)
    have n51 : z50.toNatClampNeg = z9.toNatClampNeg + 3 := cl_addn (x := z9) (y := (3 : Int32)) rfl rfl t49 (by omega) (by decide)
    refine o_iadd (z := z50) hx hb dX6_add_53 e48 ?_
    refine lv_iload hx hb dX6_add_54 (lv_at hl 5 rfl) ?_
    obtain ⟨g52, e53⟩ : ∃ z : Nat → Int32, upd g38 (z9.toNatClampNeg + 3) a3 = z := ⟨_, rfl⟩
    have p55 : anyA g52 := trivial
    refine o_iast (f1 := g52) X hD h 11 0 (by decide) rfl f44 rfl (in_of (by omega) (by omega)) (by rw [n51]; exact e53) dX6_add_56 (fun H locs w56 e57 h => ?_)
    have f58 : w56 11 = .inl (cI, 24, .inl g52) := (congrFun e57 _).trans (va_up_self _ _ _)
    have ok59 : OK cI cB cZ cO ad w56 := OK.up ok45 e57 (sA_mk p55)
    have kx60 : FR 1 w w56 := FR.up kx46 e57 (by decide)
    refine lv_aload_n hx hb dX6_add_57 rfl (lv_at hl 1 rfl) ?_
    refine lv_dup hx hb dX6_add_58 rfl ?_
    have f61 : w56 10 = .inr (4, [.ref (ad 11), .int mz]) := by rw [e57, va_up_ne _ _ (by decide)]; exact f47
    refine r_get kc6 X h 10 1 (by decide) rfl f61 (by decide) kv_58 rfl dX6_add_59 ?_
    refine lv_iconst (v := 1) hx hb dX6_add_62 (by decide) ?_
    obtain ⟨z64, e62, t63⟩ := x_add (x := mz) (y := (1 : Int32)) (a := (mz).toInt) (b := 1) rfl rfl (by omega) (by omega)
    have n65 : z64.toNatClampNeg = mz.toNatClampNeg + 1 := cl_addn (x := mz) (y := (1 : Int32)) rfl rfl t63 (by omega) (by decide)
    refine o_iadd (z := z64) hx hb dX6_add_63 e62 ?_
    refine r_put kc6 X hD h 10 1 (by decide) rfl f61 (by decide) kv_58 rfl rfl rfl (Nat.le_of_ble_eq_true rfl) dX6_add_64 (fun H locs w66 e67 h => ?_)
    have f68 : w66 10 = .inr (4, [.ref (ad 11), .int z64]) := (congrFun e67 _).trans (va_up_self _ _ _)
    have ok69 : OK cI cB cZ cO ad w66 := OK.up ok59 e67 (sR_mk (by omega) (by omega))
    have kx70 : FR 1 w w66 := FR.up kx60 e67 (by decide)
    refine lv_aload_n hx hb dX6_add_67 rfl (lv_at hl 1 rfl) ?_
    refine r_get kc6 X h 10 1 (by decide) rfl f68 (by decide) kv_58 rfl dX6_add_68 ?_
    have f71 : w66 11 = .inl (cI, 24, .inl g52) := by rw [e67, va_up_ne _ _ (by decide)]; exact f58
    have f72 : w14 1 = .inr (1, [.int ho, .int so, .int mi, .int ca, .int ja, .ref (ad 2), .ref (ad 3), .ref (ad 4), .ref (ad 5), .ref (ad 6), .ref (ad 7), .ref (ad 8), .ref (ad 10), .ref (ad 12)]) := by rw [e15, va_up_ne _ _ (by decide)]; exact n_1
    have f73 : w28 1 = .inr (1, [.int ho, .int so, .int mi, .int ca, .int ja, .ref (ad 2), .ref (ad 3), .ref (ad 4), .ref (ad 5), .ref (ad 6), .ref (ad 7), .ref (ad 8), .ref (ad 10), .ref (ad 12)]) := by rw [e29, va_up_ne _ _ (by decide)]; exact f72
    have f74 : w42 1 = .inr (1, [.int ho, .int so, .int mi, .int ca, .int ja, .ref (ad 2), .ref (ad 3), .ref (ad 4), .ref (ad 5), .ref (ad 6), .ref (ad 7), .ref (ad 8), .ref (ad 10), .ref (ad 12)]) := by rw [e43, va_up_ne _ _ (by decide)]; exact f73
    have f75 : w56 1 = .inr (1, [.int ho, .int so, .int mi, .int ca, .int ja, .ref (ad 2), .ref (ad 3), .ref (ad 4), .ref (ad 5), .ref (ad 6), .ref (ad 7), .ref (ad 8), .ref (ad 10), .ref (ad 12)]) := by rw [e57, va_up_ne _ _ (by decide)]; exact f74
    have f76 : w66 1 = .inr (1, [.int ho, .int so, .int mi, .int ca, .int ja, .ref (ad 2), .ref (ad 3), .ref (ad 4), .ref (ad 5), .ref (ad 6), .ref (ad 7), .ref (ad 8), .ref (ad 10), .ref (ad 12)]) := by rw [e67, va_up_ne _ _ (by decide)]; exact f75
    have f77 : w14 3 = .inl (cI, 7, .inl hh) := by rw [e15, va_up_ne _ _ (by decide)]; exact n_3
    have f78 : w28 3 = .inl (cI, 7, .inl hh) := by rw [e29, va_up_ne _ _ (by decide)]; exact f77
    have f79 : w42 3 = .inl (cI, 7, .inl hh) := by rw [e43, va_up_ne _ _ (by decide)]; exact f78
    have f80 : w56 3 = .inl (cI, 7, .inl hh) := by rw [e57, va_up_ne _ _ (by decide)]; exact f79
    have f81 : w66 3 = .inl (cI, 7, .inl hh) := by rw [e67, va_up_ne _ _ (by decide)]; exact f80
    have f82 : w14 8 = .inr (4, [.ref (ad 9), .int nz]) := by rw [e15, va_up_ne _ _ (by decide)]; exact n_8
    have f83 : w28 8 = .inr (4, [.ref (ad 9), .int nz]) := by rw [e29, va_up_ne _ _ (by decide)]; exact f82
    have f84 : w42 8 = .inr (4, [.ref (ad 9), .int nz]) := by rw [e43, va_up_ne _ _ (by decide)]; exact f83
    have f85 : w56 8 = .inr (4, [.ref (ad 9), .int nz]) := by rw [e57, va_up_ne _ _ (by decide)]; exact f84
    have f86 : w66 8 = .inr (4, [.ref (ad 9), .int nz]) := by rw [e67, va_up_ne _ _ (by decide)]; exact f85
    have f87 : w14 9 = .inl (cI, 24, .inl nc) := by rw [e15, va_up_ne _ _ (by decide)]; exact n_9
    have f88 : w28 9 = .inl (cI, 24, .inl nc) := by rw [e29, va_up_ne _ _ (by decide)]; exact f87
    have f89 : w42 9 = .inl (cI, 24, .inl nc) := by rw [e43, va_up_ne _ _ (by decide)]; exact f88
    have f90 : w56 9 = .inl (cI, 24, .inl nc) := by rw [e57, va_up_ne _ _ (by decide)]; exact f89
    have f91 : w66 9 = .inl (cI, 24, .inl nc) := by rw [e67, va_up_ne _ _ (by decide)]; exact f90
    exact e_i X h hr hlk dX6_add_71 ⟨ok69, kx70, ⟨(fa_eq _ _).mpr (by rw [inc32 (by omega) (by omega)]; omega), z9.toNatClampNeg, by have := cl_of (x := z9) (by omega); omega, ⟨by rw [f76]; subst e62; subst e53; subst e48; subst e39; subst e34; subst e25; subst e20; subst e11; subst e7; rfl, (f81.trans (by subst e62; subst e53; subst e48; subst e39; subst e34; subst e25; subst e20; subst e11; subst e7; rfl)), (f86.trans (by subst e62; subst e53; subst e48; subst e39; subst e34; subst e25; subst e20; subst e11; subst e7; rfl)), (f91.trans (by subst e62; subst e53; subst e48; subst e39; subst e34; subst e25; subst e20; subst e11; subst e7; rfl)), (f68.trans (by subst e62; subst e53; subst e48; subst e39; subst e34; subst e25; subst e20; subst e11; subst e7; rfl)), (f71.trans (by subst e62; subst e53; subst e48; subst e39; subst e34; subst e25; subst e20; subst e11; subst e7; rfl))⟩⟩⟩

set_option maxHeartbeats 4000000 in
set_option maxRecDepth 100000 in
theorem c_F_note (l : Launch) (G : va_G) (cI cB cZ cO : ClassId) (ad : Nat → Nat) (w : Nat → va_E) (ho so mi ca ja nz mz : Int32) (hh nc mc : Nat → Int32) (ok : OK cI cB cZ cO ad w) (i : Int32) (q : Int32) (t : Int32) (x : Int32)  (n_1 : w 1 = .inr (1, [.int ho, .int so, .int mi, .int ca, .int ja, .ref (ad 2), .ref (ad 3), .ref (ad 4), .ref (ad 5), .ref (ad 6), .ref (ad 7), .ref (ad 8), .ref (ad 10), .ref (ad 12)])) (n_3 : w 3 = .inl (cI, 7, .inl hh)) (n_8 : w 8 = .inr (4, [.ref (ad 9), .int nz])) (n_9 : w 9 = .inl (cI, 24, .inl nc)) (n_10 : w 10 = .inr (4, [.ref (ad 11), .int mz])) (n_11 : w 11 = .inl (cI, 24, .inl mc)) (hrn : rgA 0 9 hh) (hca : 0 ≤ ca.toInt ∧ ca.toInt ≤ 7) (hja : 0 ≤ ja.toInt ∧ ja.toInt ≤ 4) (hnz : 0 ≤ nz.toInt ∧ nz.toInt ≤ 6) (hmz : 0 ≤ mz.toInt ∧ mz.toInt ≤ 6) : NI l G (tyq cI cB cZ cO) yX8_note cX8_note 5 (some .int) 2 45 74 ad w [.ref (ad 0), .int i, .int q, .int t, .int x] (fun r w1 => OK cI cB cZ cO ad w1 ∧ KT w w1 ∧ ((¬ ((0 ≤ i.toInt ∧ i.toInt < ca.toInt) ∧ (1 ≤ q.toInt ∧ q.toInt ≤ 9) ∧ (0 ≤ t.toInt ∧ t.toInt ≤ 23) ∧ (0 ≤ x.toInt ∧ x.toInt ≤ 40)) ∧ KX w w1 ∧ r = -2) ∨ (((0 ≤ i.toInt ∧ i.toInt < ca.toInt) ∧ (1 ≤ q.toInt ∧ q.toInt ≤ 9) ∧ (0 ≤ t.toInt ∧ t.toInt ≤ 23) ∧ (0 ≤ x.toInt ∧ x.toInt ≤ 40)) ∧ 6 ≤ nz.toInt ∧ KX w w1 ∧ r = -4) ∨ (((0 ≤ i.toInt ∧ i.toInt < ca.toInt) ∧ (1 ≤ q.toInt ∧ q.toInt ≤ 9) ∧ (0 ≤ t.toInt ∧ t.toInt ≤ 23) ∧ (0 ≤ x.toInt ∧ x.toInt ≤ 40)) ∧ ¬ 6 ≤ nz.toInt ∧ FR 1 w w1 ∧ nz + 1 = r ∧ ∃ n : Nat, (n : Int) = 4 * nz.toInt ∧ IV cI ad 1 w1 ca ja (nz + 1) mz hh (upd (upd (upd (upd nc n i) (n + 1) q) (n + 2) t) (n + 3) x) mc))) := by
  refine nk_i (own := "NoonShade") rfl (by decide) (Nat.le_of_ble_eq_true rfl) ?_
  intro p e s m below meth c ls X hD hN hr hlk h hl
  have hx := X.1.1
  have hb := X.1.2.1
  have hown := X.1.2.2.2.1
  have hts := X.1.2.2.2.2
  have hl : lv_has ls 5 [(0, .ref (ad 0)), (1, .int i), (2, .int q), (3, .int t), (4, .int x)] := hl
  have hca0 := hca.1
  have hca1 := hca.2
  have hja0 := hja.1
  have hja1 := hja.2
  have hnz0 := hnz.1
  have hnz1 := hnz.2
  have hmz0 := hmz.1
  have hmz1 := hmz.2
  refine lv_aload_n hx hb dX8_note_0 rfl (lv_at hl 0 rfl) ?_
  obtain ⟨x2, x3, q4, q5, q6, f1⟩ := (show sN ad (w 0) from ok 0 (by decide))
  have f7 : w 0 = .inr (6, [.ref (ad 1), .ref (ad 14), .ref (ad 27), .ref (ad 54), .ref (ad 55), .ref (ad 58), .ref (ad 62), .long x2, .long x3, .int q4, .int q5, .int q6]) := f1
  refine r_get kc8 X h 0 0 (by decide) rfl f7 (by decide) kv_172 rfl dX8_note_1 ?_
  refine lv_iload_n hx hb dX8_note_4 rfl (lv_at hl 1 rfl) ?_
  refine n_Vi (na := 1) (As := [.int i]) (rest := []) X hD hN h rfl (c_F1_hasCaster l G cI cB cZ cO ad w ho so mi ca ja  i  n_1) ⟨kv_219, kv_220, kv_221, kv_37, kv_222⟩ rfl ⟨by decide, by decide, by decide⟩ ⟨Nat.le_of_ble_eq_true rfl, Nat.le_of_ble_eq_true rfl⟩ ⟨Nat.zero_le _, Nat.zero_le _⟩ (by decide) n_1 rfl rfl hl.1 rfl (Nat.le_of_ble_eq_true rfl) dX8_note_5 (fun r8 w9 H locs hp10 h => ?_)
  obtain ⟨rfl, hr11⟩ := hp10
  rcases hr11 with ⟨hq12, hq13, rfl⟩ | ⟨hq14, rfl⟩
  · refine lv_if_eq (tgt := 42) hx hb dX8_note_8 (by decide) (fun hc => absurd hc (by decide)) (fun _ => ?_)
    refine lv_iload_n hx hb dX8_note_11 rfl (lv_at hl 2 rfl) ?_
    refine lv_iconst (v := 1) hx hb dX8_note_12 (by decide) ?_
    refine lv_bipush (v := 9) hx hb dX8_note_13 (by decide) ?_
    refine n_Si (na := 3) (As := [.int q, .int 1, .int 9]) (rest := []) X hD hN h (c_within l G cI cB cZ cO ad w q (1 : Int32) (9 : Int32) ((q).toInt) 1 9 rfl rfl rfl) ⟨kv_247, kv_248, kv_212, kv_249⟩ ⟨by decide, by decide, by decide⟩ ⟨Nat.le_of_ble_eq_true rfl, Nat.le_of_ble_eq_true rfl⟩ ⟨Nat.zero_le _, Nat.zero_le _⟩ rfl hl.1 rfl (Nat.le_of_ble_eq_true rfl) dX8_note_15 (fun r15 w16 H locs hp17 h => ?_)
    obtain ⟨rfl, hq18⟩ := hp17
    rcases hq18 with ⟨hq19, hq20, rfl⟩ | ⟨hq18, rfl⟩
    · refine lv_if_eq (tgt := 42) hx hb dX8_note_18 (by decide) (fun hc => absurd hc (by decide)) (fun _ => ?_)
      refine lv_iload_n hx hb dX8_note_21 rfl (lv_at hl 3 rfl) ?_
      refine lv_iconst (v := 0) hx hb dX8_note_22 (by decide) ?_
      refine lv_bipush (v := 23) hx hb dX8_note_23 (by decide) ?_
      refine n_Si (na := 3) (As := [.int t, .int 0, .int 23]) (rest := []) X hD hN h (c_within l G cI cB cZ cO ad w t (0 : Int32) (23 : Int32) ((t).toInt) 0 23 rfl rfl rfl) ⟨kv_247, kv_248, kv_212, kv_249⟩ ⟨by decide, by decide, by decide⟩ ⟨Nat.le_of_ble_eq_true rfl, Nat.le_of_ble_eq_true rfl⟩ ⟨Nat.zero_le _, Nat.zero_le _⟩ rfl hl.1 rfl (Nat.le_of_ble_eq_true rfl) dX8_note_25 (fun r21 w22 H locs hp23 h => ?_)
      obtain ⟨rfl, hq24⟩ := hp23
      rcases hq24 with ⟨hq25, hq26, rfl⟩ | ⟨hq24, rfl⟩
      · refine lv_if_eq (tgt := 42) hx hb dX8_note_28 (by decide) (fun hc => absurd hc (by decide)) (fun _ => ?_)
        refine lv_iload hx hb dX8_note_31 (lv_at hl 4 rfl) ?_
        refine lv_iconst (v := 0) hx hb dX8_note_33 (by decide) ?_
        refine lv_bipush (v := 40) hx hb dX8_note_34 (by decide) ?_
        refine n_Si (na := 3) (As := [.int x, .int 0, .int 40]) (rest := []) X hD hN h (c_within l G cI cB cZ cO ad w x (0 : Int32) (40 : Int32) ((x).toInt) 0 40 rfl rfl rfl) ⟨kv_247, kv_248, kv_212, kv_249⟩ ⟨by decide, by decide, by decide⟩ ⟨Nat.le_of_ble_eq_true rfl, Nat.le_of_ble_eq_true rfl⟩ ⟨Nat.zero_le _, Nat.zero_le _⟩ rfl hl.1 rfl (Nat.le_of_ble_eq_true rfl) dX8_note_36 (fun r27 w28 H locs hp29 h => ?_)
        obtain ⟨rfl, hq30⟩ := hp29
        rcases hq30 with ⟨hq31, hq32, rfl⟩ | ⟨hq30, rfl⟩
        · refine lv_if_ne (tgt := 49) hx hb dX8_note_39 (by decide) (fun _ => ?_) (fun hc => absurd hc (by decide))
          refine lv_aload_n hx hb dX8_note_49 rfl (lv_at hl 0 rfl) ?_
          refine r_get kc8 X h 0 0 (by decide) rfl f7 (by decide) kv_172 rfl dX8_note_50 ?_
          refine r_get kc2 X h 1 11 (by decide) rfl n_1 (by decide) kv_186 rfl dX8_note_53 ?_
          refine n_Vi (na := 0) (As := []) (rest := []) X hD hN h rfl (c_R_isFull l G cI cB cZ cO ad w 8 (Or.inl rfl) nz    n_8) ⟨kv_344, kv_74, kv_75, kv_64, kv_76⟩ rfl ⟨by decide, by decide, by decide⟩ ⟨Nat.le_of_ble_eq_true rfl, Nat.le_of_ble_eq_true rfl⟩ ⟨Nat.zero_le _, Nat.zero_le _⟩ (by decide) n_8 rfl rfl hl.1 rfl (Nat.le_of_ble_eq_true rfl) dX8_note_56 (fun r33 w34 H locs hp35 h => ?_)
          obtain ⟨rfl, hr36⟩ := hp35
          rcases hr36 with ⟨hq37, rfl⟩ | ⟨hq38, rfl⟩
          · refine lv_if_eq (tgt := 69) hx hb dX8_note_59 (by decide) (fun hc => absurd hc (by decide)) (fun _ => ?_)
            refine lv_aload_n hx hb dX8_note_62 rfl (lv_at hl 0 rfl) ?_
            refine lv_bipush (v := (-4)) hx hb dX8_note_63 (by decide) ?_
            refine n_Vi (na := 1) (As := [.int (-4)]) (rest := []) X hD hN h rfl (c_refused l G cI cB cZ cO ad w  ok ((-4) : Int32)  ) ⟨kv_227, kv_228, kv_229, kv_212, kv_230⟩ rfl ⟨by decide, by decide, by decide⟩ ⟨Nat.le_of_ble_eq_true rfl, Nat.le_of_ble_eq_true rfl⟩ ⟨Nat.zero_le _, Nat.zero_le _⟩ (by decide) f7 rfl rfl hl.1 rfl (Nat.le_of_ble_eq_true rfl) dX8_note_65 (fun r39 w40 H locs hp41 h => ?_)
            have kX42 : KX w w40 := hp41.2.1
            obtain ⟨ok45, kk46, hr44⟩ := hp41
            have kx47 : KT w w40 := kk46.t
            subst hr44
            exact e_i X h hr hlk dX8_note_68 ⟨ok45, kx47, Or.inr (Or.inl ⟨by omega, by omega, kX42, rfl⟩)⟩
          · refine lv_if_eq (tgt := 69) hx hb dX8_note_59 (by decide) (fun _ => ?_) (fun hc => absurd (by decide) hc)
            refine lv_aload_n hx hb dX8_note_69 rfl (lv_at hl 0 rfl) ?_
            refine r_get kc8 X h 0 0 (by decide) rfl f7 (by decide) kv_172 rfl dX8_note_70 ?_
            refine r_get kc2 X h 1 11 (by decide) rfl n_1 (by decide) kv_186 rfl dX8_note_73 ?_
            refine lv_iload_n hx hb dX8_note_76 rfl (lv_at hl 1 rfl) ?_
            refine lv_iload_n hx hb dX8_note_77 rfl (lv_at hl 2 rfl) ?_
            refine lv_iload_n hx hb dX8_note_78 rfl (lv_at hl 3 rfl) ?_
            refine lv_iload hx hb dX8_note_79 (lv_at hl 4 rfl) ?_
            refine n_Vi (na := 4) (As := [.int i, .int q, .int t, .int x]) (rest := []) X hD hN h rfl (c_F_Radd8 l G cI cB cZ cO ad w ho so mi ca ja nz mz hh nc mc ok i q t x  n_1 n_3 n_8 n_9 n_10 n_11 hrn ⟨by omega, by omega⟩ ⟨by omega, by omega⟩ ⟨by omega, by omega⟩ ⟨by omega, by omega⟩ (by omega)) ⟨kv_345, kv_346, kv_347, kv_64, kv_348⟩ rfl ⟨by decide, by decide, by decide⟩ ⟨Nat.le_of_ble_eq_true rfl, Nat.le_of_ble_eq_true rfl⟩ ⟨Nat.zero_le _, Nat.zero_le _⟩ (by decide) n_8 rfl rfl hl.1 rfl (Nat.le_of_ble_eq_true rfl) dX8_note_81 (fun r48 w49 H locs hp50 h => ?_)
            obtain ⟨ok51, kk52, hr53⟩ := hp50
            have kx54 : KT w w49 := (FR.t (Or.inl rfl) kk52)
            exact e_i X h hr hlk dX8_note_84 ⟨ok51, kx54, Or.inr (Or.inr ⟨by omega, by omega, (FR.tr FR.rf kk52), hr53⟩)⟩
        · refine lv_if_ne (tgt := 49) hx hb dX8_note_39 (by decide) (fun hc => absurd (by decide) hc) (fun _ => ?_)
          refine lv_aload_n hx hb dX8_note_42 rfl (lv_at hl 0 rfl) ?_
          refine lv_bipush (v := (-2)) hx hb dX8_note_43 (by decide) ?_
          refine n_Vi (na := 1) (As := [.int (-2)]) (rest := []) X hD hN h rfl (c_refused l G cI cB cZ cO ad w  ok ((-2) : Int32)  ) ⟨kv_227, kv_228, kv_229, kv_212, kv_230⟩ rfl ⟨by decide, by decide, by decide⟩ ⟨Nat.le_of_ble_eq_true rfl, Nat.le_of_ble_eq_true rfl⟩ ⟨Nat.zero_le _, Nat.zero_le _⟩ (by decide) f7 rfl rfl hl.1 rfl (Nat.le_of_ble_eq_true rfl) dX8_note_45 (fun r55 w56 H locs hp57 h => ?_)
          have kX58 : KX w w56 := hp57.2.1
          obtain ⟨ok61, kk62, hr60⟩ := hp57
          have kx63 : KT w w56 := kk62.t
          subst hr60
          exact e_i X h hr hlk dX8_note_48 ⟨ok61, kx63, Or.inl ⟨by omega, kX58, rfl⟩⟩
      · refine lv_if_eq (tgt := 42) hx hb dX8_note_28 (by decide) (fun _ => ?_) (fun hc => absurd (by decide) hc)
        refine lv_aload_n hx hb dX8_note_42 rfl (lv_at hl 0 rfl) ?_
        refine lv_bipush (v := (-2)) hx hb dX8_note_43 (by decide) ?_
        refine n_Vi (na := 1) (As := [.int (-2)]) (rest := []) X hD hN h rfl (c_refused l G cI cB cZ cO ad w  ok ((-2) : Int32)  ) ⟨kv_227, kv_228, kv_229, kv_212, kv_230⟩ rfl ⟨by decide, by decide, by decide⟩ ⟨Nat.le_of_ble_eq_true rfl, Nat.le_of_ble_eq_true rfl⟩ ⟨Nat.zero_le _, Nat.zero_le _⟩ (by decide) f7 rfl rfl hl.1 rfl (Nat.le_of_ble_eq_true rfl) dX8_note_45 (fun r64 w65 H locs hp66 h => ?_)
        have kX67 : KX w w65 := hp66.2.1
        obtain ⟨ok70, kk71, hr69⟩ := hp66
        have kx72 : KT w w65 := kk71.t
        subst hr69
        exact e_i X h hr hlk dX8_note_48 ⟨ok70, kx72, Or.inl ⟨by omega, kX67, rfl⟩⟩
    · refine lv_if_eq (tgt := 42) hx hb dX8_note_18 (by decide) (fun _ => ?_) (fun hc => absurd (by decide) hc)
      refine lv_aload_n hx hb dX8_note_42 rfl (lv_at hl 0 rfl) ?_
      refine lv_bipush (v := (-2)) hx hb dX8_note_43 (by decide) ?_
      refine n_Vi (na := 1) (As := [.int (-2)]) (rest := []) X hD hN h rfl (c_refused l G cI cB cZ cO ad w  ok ((-2) : Int32)  ) ⟨kv_227, kv_228, kv_229, kv_212, kv_230⟩ rfl ⟨by decide, by decide, by decide⟩ ⟨Nat.le_of_ble_eq_true rfl, Nat.le_of_ble_eq_true rfl⟩ ⟨Nat.zero_le _, Nat.zero_le _⟩ (by decide) f7 rfl rfl hl.1 rfl (Nat.le_of_ble_eq_true rfl) dX8_note_45 (fun r73 w74 H locs hp75 h => ?_)
      have kX76 : KX w w74 := hp75.2.1
      obtain ⟨ok79, kk80, hr78⟩ := hp75
      have kx81 : KT w w74 := kk80.t
      subst hr78
      exact e_i X h hr hlk dX8_note_48 ⟨ok79, kx81, Or.inl ⟨by omega, kX76, rfl⟩⟩
  · refine lv_if_eq (tgt := 42) hx hb dX8_note_8 (by decide) (fun _ => ?_) (fun hc => absurd (by decide) hc)
    refine lv_aload_n hx hb dX8_note_42 rfl (lv_at hl 0 rfl) ?_
    refine lv_bipush (v := (-2)) hx hb dX8_note_43 (by decide) ?_
    refine n_Vi (na := 1) (As := [.int (-2)]) (rest := []) X hD hN h rfl (c_refused l G cI cB cZ cO ad w  ok ((-2) : Int32)  ) ⟨kv_227, kv_228, kv_229, kv_212, kv_230⟩ rfl ⟨by decide, by decide, by decide⟩ ⟨Nat.le_of_ble_eq_true rfl, Nat.le_of_ble_eq_true rfl⟩ ⟨Nat.zero_le _, Nat.zero_le _⟩ (by decide) f7 rfl rfl hl.1 rfl (Nat.le_of_ble_eq_true rfl) dX8_note_45 (fun r82 w83 H locs hp84 h => ?_)
    have kX85 : KX w w83 := hp84.2.1
    obtain ⟨ok88, kk89, hr87⟩ := hp84
    have kx90 : KT w w83 := kk89.t
    subst hr87
    exact e_i X h hr hlk dX8_note_48 ⟨ok88, kx90, Or.inl ⟨by omega, kX85, rfl⟩⟩

set_option maxHeartbeats 4000000 in
set_option maxRecDepth 100000 in
theorem c_F_mark (l : Launch) (G : va_G) (cI cB cZ cO : ClassId) (ad : Nat → Nat) (w : Nat → va_E) (ho so mi ca ja nz mz : Int32) (hh nc mc : Nat → Int32) (ok : OK cI cB cZ cO ad w) (i : Int32) (q : Int32) (t : Int32) (x : Int32)  (n_1 : w 1 = .inr (1, [.int ho, .int so, .int mi, .int ca, .int ja, .ref (ad 2), .ref (ad 3), .ref (ad 4), .ref (ad 5), .ref (ad 6), .ref (ad 7), .ref (ad 8), .ref (ad 10), .ref (ad 12)])) (n_3 : w 3 = .inl (cI, 7, .inl hh)) (n_8 : w 8 = .inr (4, [.ref (ad 9), .int nz])) (n_9 : w 9 = .inl (cI, 24, .inl nc)) (n_10 : w 10 = .inr (4, [.ref (ad 11), .int mz])) (n_11 : w 11 = .inl (cI, 24, .inl mc)) (hrn : rgA 0 9 hh) (hca : 0 ≤ ca.toInt ∧ ca.toInt ≤ 7) (hja : 0 ≤ ja.toInt ∧ ja.toInt ≤ 4) (hnz : 0 ≤ nz.toInt ∧ nz.toInt ≤ 6) (hmz : 0 ≤ mz.toInt ∧ mz.toInt ≤ 6) : NI l G (tyq cI cB cZ cO) yX8_mark cX8_mark 5 (some .int) 2 45 74 ad w [.ref (ad 0), .int i, .int q, .int t, .int x] (fun r w1 => OK cI cB cZ cO ad w1 ∧ KT w w1 ∧ ((¬ ((0 ≤ i.toInt ∧ i.toInt < ja.toInt) ∧ (0 ≤ q.toInt ∧ q.toInt ≤ 60) ∧ (0 ≤ t.toInt ∧ t.toInt ≤ 23) ∧ (0 ≤ x.toInt ∧ x.toInt ≤ 60)) ∧ KX w w1 ∧ r = -2) ∨ (((0 ≤ i.toInt ∧ i.toInt < ja.toInt) ∧ (0 ≤ q.toInt ∧ q.toInt ≤ 60) ∧ (0 ≤ t.toInt ∧ t.toInt ≤ 23) ∧ (0 ≤ x.toInt ∧ x.toInt ≤ 60)) ∧ 6 ≤ mz.toInt ∧ KX w w1 ∧ r = -4) ∨ (((0 ≤ i.toInt ∧ i.toInt < ja.toInt) ∧ (0 ≤ q.toInt ∧ q.toInt ≤ 60) ∧ (0 ≤ t.toInt ∧ t.toInt ≤ 23) ∧ (0 ≤ x.toInt ∧ x.toInt ≤ 60)) ∧ ¬ 6 ≤ mz.toInt ∧ FR 1 w w1 ∧ mz + 1 = r ∧ ∃ n : Nat, (n : Int) = 4 * mz.toInt ∧ IV cI ad 1 w1 ca ja nz (mz + 1) hh nc (upd (upd (upd (upd mc n i) (n + 1) q) (n + 2) t) (n + 3) x)))) := by
  refine nk_i (own := "NoonShade") rfl (by decide) (Nat.le_of_ble_eq_true rfl) ?_
  intro p e s m below meth c ls X hD hN hr hlk h hl
  have hx := X.1.1
  have hb := X.1.2.1
  have hown := X.1.2.2.2.1
  have hts := X.1.2.2.2.2
  have hl : lv_has ls 5 [(0, .ref (ad 0)), (1, .int i), (2, .int q), (3, .int t), (4, .int x)] := hl
  have hca0 := hca.1
  have hca1 := hca.2
  have hja0 := hja.1
  have hja1 := hja.2
  have hnz0 := hnz.1
  have hnz1 := hnz.2
  have hmz0 := hmz.1
  have hmz1 := hmz.2
  refine lv_aload_n hx hb dX8_mark_0 rfl (lv_at hl 0 rfl) ?_
  obtain ⟨x2, x3, q4, q5, q6, f1⟩ := (show sN ad (w 0) from ok 0 (by decide))
  have f7 : w 0 = .inr (6, [.ref (ad 1), .ref (ad 14), .ref (ad 27), .ref (ad 54), .ref (ad 55), .ref (ad 58), .ref (ad 62), .long x2, .long x3, .int q4, .int q5, .int q6]) := f1
  refine r_get kc8 X h 0 0 (by decide) rfl f7 (by decide) kv_172 rfl dX8_mark_1 ?_
  refine lv_iload_n hx hb dX8_mark_4 rfl (lv_at hl 1 rfl) ?_
  refine n_Vi (na := 1) (As := [.int i]) (rest := []) X hD hN h rfl (c_F1_hasJar l G cI cB cZ cO ad w ho so mi ca ja  i  n_1) ⟨kv_223, kv_224, kv_225, kv_37, kv_226⟩ rfl ⟨by decide, by decide, by decide⟩ ⟨Nat.le_of_ble_eq_true rfl, Nat.le_of_ble_eq_true rfl⟩ ⟨Nat.zero_le _, Nat.zero_le _⟩ (by decide) n_1 rfl rfl hl.1 rfl (Nat.le_of_ble_eq_true rfl) dX8_mark_5 (fun r8 w9 H locs hp10 h => ?_)
  obtain ⟨rfl, hr11⟩ := hp10
  rcases hr11 with ⟨hq12, hq13, rfl⟩ | ⟨hq14, rfl⟩
  · refine lv_if_eq (tgt := 42) hx hb dX8_mark_8 (by decide) (fun hc => absurd hc (by decide)) (fun _ => ?_)
    refine lv_iload_n hx hb dX8_mark_11 rfl (lv_at hl 2 rfl) ?_
    refine lv_iconst (v := 0) hx hb dX8_mark_12 (by decide) ?_
    refine lv_bipush (v := 60) hx hb dX8_mark_13 (by decide) ?_
    refine n_Si (na := 3) (As := [.int q, .int 0, .int 60]) (rest := []) X hD hN h (c_within l G cI cB cZ cO ad w q (0 : Int32) (60 : Int32) ((q).toInt) 0 60 rfl rfl rfl) ⟨kv_247, kv_248, kv_212, kv_249⟩ ⟨by decide, by decide, by decide⟩ ⟨Nat.le_of_ble_eq_true rfl, Nat.le_of_ble_eq_true rfl⟩ ⟨Nat.zero_le _, Nat.zero_le _⟩ rfl hl.1 rfl (Nat.le_of_ble_eq_true rfl) dX8_mark_15 (fun r15 w16 H locs hp17 h => ?_)
    obtain ⟨rfl, hq18⟩ := hp17
    rcases hq18 with ⟨hq19, hq20, rfl⟩ | ⟨hq18, rfl⟩
    · refine lv_if_eq (tgt := 42) hx hb dX8_mark_18 (by decide) (fun hc => absurd hc (by decide)) (fun _ => ?_)
      refine lv_iload_n hx hb dX8_mark_21 rfl (lv_at hl 3 rfl) ?_
      refine lv_iconst (v := 0) hx hb dX8_mark_22 (by decide) ?_
      refine lv_bipush (v := 23) hx hb dX8_mark_23 (by decide) ?_
      refine n_Si (na := 3) (As := [.int t, .int 0, .int 23]) (rest := []) X hD hN h (c_within l G cI cB cZ cO ad w t (0 : Int32) (23 : Int32) ((t).toInt) 0 23 rfl rfl rfl) ⟨kv_247, kv_248, kv_212, kv_249⟩ ⟨by decide, by decide, by decide⟩ ⟨Nat.le_of_ble_eq_true rfl, Nat.le_of_ble_eq_true rfl⟩ ⟨Nat.zero_le _, Nat.zero_le _⟩ rfl hl.1 rfl (Nat.le_of_ble_eq_true rfl) dX8_mark_25 (fun r21 w22 H locs hp23 h => ?_)
      obtain ⟨rfl, hq24⟩ := hp23
      rcases hq24 with ⟨hq25, hq26, rfl⟩ | ⟨hq24, rfl⟩
      · refine lv_if_eq (tgt := 42) hx hb dX8_mark_28 (by decide) (fun hc => absurd hc (by decide)) (fun _ => ?_)
        refine lv_iload hx hb dX8_mark_31 (lv_at hl 4 rfl) ?_
        refine lv_iconst (v := 0) hx hb dX8_mark_33 (by decide) ?_
        refine lv_bipush (v := 60) hx hb dX8_mark_34 (by decide) ?_
        refine n_Si (na := 3) (As := [.int x, .int 0, .int 60]) (rest := []) X hD hN h (c_within l G cI cB cZ cO ad w x (0 : Int32) (60 : Int32) ((x).toInt) 0 60 rfl rfl rfl) ⟨kv_247, kv_248, kv_212, kv_249⟩ ⟨by decide, by decide, by decide⟩ ⟨Nat.le_of_ble_eq_true rfl, Nat.le_of_ble_eq_true rfl⟩ ⟨Nat.zero_le _, Nat.zero_le _⟩ rfl hl.1 rfl (Nat.le_of_ble_eq_true rfl) dX8_mark_36 (fun r27 w28 H locs hp29 h => ?_)
        obtain ⟨rfl, hq30⟩ := hp29
        rcases hq30 with ⟨hq31, hq32, rfl⟩ | ⟨hq30, rfl⟩
        · refine lv_if_ne (tgt := 49) hx hb dX8_mark_39 (by decide) (fun _ => ?_) (fun hc => absurd hc (by decide))
          refine lv_aload_n hx hb dX8_mark_49 rfl (lv_at hl 0 rfl) ?_
          refine r_get kc8 X h 0 0 (by decide) rfl f7 (by decide) kv_172 rfl dX8_mark_50 ?_
          refine r_get kc2 X h 1 12 (by decide) rfl n_1 (by decide) kv_188 rfl dX8_mark_53 ?_
          refine n_Vi (na := 0) (As := []) (rest := []) X hD hN h rfl (c_R_isFull l G cI cB cZ cO ad w 10 (Or.inr rfl) mz    n_10) ⟨kv_344, kv_74, kv_75, kv_64, kv_76⟩ rfl ⟨by decide, by decide, by decide⟩ ⟨Nat.le_of_ble_eq_true rfl, Nat.le_of_ble_eq_true rfl⟩ ⟨Nat.zero_le _, Nat.zero_le _⟩ (by decide) n_10 rfl rfl hl.1 rfl (Nat.le_of_ble_eq_true rfl) dX8_mark_56 (fun r33 w34 H locs hp35 h => ?_)
          obtain ⟨rfl, hr36⟩ := hp35
          rcases hr36 with ⟨hq37, rfl⟩ | ⟨hq38, rfl⟩
          · refine lv_if_eq (tgt := 69) hx hb dX8_mark_59 (by decide) (fun hc => absurd hc (by decide)) (fun _ => ?_)
            refine lv_aload_n hx hb dX8_mark_62 rfl (lv_at hl 0 rfl) ?_
            refine lv_bipush (v := (-4)) hx hb dX8_mark_63 (by decide) ?_
            refine n_Vi (na := 1) (As := [.int (-4)]) (rest := []) X hD hN h rfl (c_refused l G cI cB cZ cO ad w  ok ((-4) : Int32)  ) ⟨kv_227, kv_228, kv_229, kv_212, kv_230⟩ rfl ⟨by decide, by decide, by decide⟩ ⟨Nat.le_of_ble_eq_true rfl, Nat.le_of_ble_eq_true rfl⟩ ⟨Nat.zero_le _, Nat.zero_le _⟩ (by decide) f7 rfl rfl hl.1 rfl (Nat.le_of_ble_eq_true rfl) dX8_mark_65 (fun r39 w40 H locs hp41 h => ?_)
            have kX42 : KX w w40 := hp41.2.1
            obtain ⟨ok45, kk46, hr44⟩ := hp41
            have kx47 : KT w w40 := kk46.t
            subst hr44
            exact e_i X h hr hlk dX8_mark_68 ⟨ok45, kx47, Or.inr (Or.inl ⟨by omega, by omega, kX42, rfl⟩)⟩
          · refine lv_if_eq (tgt := 69) hx hb dX8_mark_59 (by decide) (fun _ => ?_) (fun hc => absurd (by decide) hc)
            refine lv_aload_n hx hb dX8_mark_69 rfl (lv_at hl 0 rfl) ?_
            refine r_get kc8 X h 0 0 (by decide) rfl f7 (by decide) kv_172 rfl dX8_mark_70 ?_
            refine r_get kc2 X h 1 12 (by decide) rfl n_1 (by decide) kv_188 rfl dX8_mark_73 ?_
            refine lv_iload_n hx hb dX8_mark_76 rfl (lv_at hl 1 rfl) ?_
            refine lv_iload_n hx hb dX8_mark_77 rfl (lv_at hl 2 rfl) ?_
            refine lv_iload_n hx hb dX8_mark_78 rfl (lv_at hl 3 rfl) ?_
            refine lv_iload hx hb dX8_mark_79 (lv_at hl 4 rfl) ?_
            refine n_Vi (na := 4) (As := [.int i, .int q, .int t, .int x]) (rest := []) X hD hN h rfl (c_F_Radd10 l G cI cB cZ cO ad w ho so mi ca ja nz mz hh nc mc ok i q t x  n_1 n_3 n_8 n_9 n_10 n_11 hrn ⟨by omega, by omega⟩ ⟨by omega, by omega⟩ ⟨by omega, by omega⟩ ⟨by omega, by omega⟩ (by omega)) ⟨kv_345, kv_346, kv_347, kv_64, kv_348⟩ rfl ⟨by decide, by decide, by decide⟩ ⟨Nat.le_of_ble_eq_true rfl, Nat.le_of_ble_eq_true rfl⟩ ⟨Nat.zero_le _, Nat.zero_le _⟩ (by decide) n_10 rfl rfl hl.1 rfl (Nat.le_of_ble_eq_true rfl) dX8_mark_81 (fun r48 w49 H locs hp50 h => ?_)
            obtain ⟨ok51, kk52, hr53⟩ := hp50
            have kx54 : KT w w49 := (FR.t (Or.inl rfl) kk52)
            exact e_i X h hr hlk dX8_mark_84 ⟨ok51, kx54, Or.inr (Or.inr ⟨by omega, by omega, (FR.tr FR.rf kk52), hr53⟩)⟩
        · refine lv_if_ne (tgt := 49) hx hb dX8_mark_39 (by decide) (fun hc => absurd (by decide) hc) (fun _ => ?_)
          refine lv_aload_n hx hb dX8_mark_42 rfl (lv_at hl 0 rfl) ?_
          refine lv_bipush (v := (-2)) hx hb dX8_mark_43 (by decide) ?_
          refine n_Vi (na := 1) (As := [.int (-2)]) (rest := []) X hD hN h rfl (c_refused l G cI cB cZ cO ad w  ok ((-2) : Int32)  ) ⟨kv_227, kv_228, kv_229, kv_212, kv_230⟩ rfl ⟨by decide, by decide, by decide⟩ ⟨Nat.le_of_ble_eq_true rfl, Nat.le_of_ble_eq_true rfl⟩ ⟨Nat.zero_le _, Nat.zero_le _⟩ (by decide) f7 rfl rfl hl.1 rfl (Nat.le_of_ble_eq_true rfl) dX8_mark_45 (fun r55 w56 H locs hp57 h => ?_)
          have kX58 : KX w w56 := hp57.2.1
          obtain ⟨ok61, kk62, hr60⟩ := hp57
          have kx63 : KT w w56 := kk62.t
          subst hr60
          exact e_i X h hr hlk dX8_mark_48 ⟨ok61, kx63, Or.inl ⟨by omega, kX58, rfl⟩⟩
      · refine lv_if_eq (tgt := 42) hx hb dX8_mark_28 (by decide) (fun _ => ?_) (fun hc => absurd (by decide) hc)
        refine lv_aload_n hx hb dX8_mark_42 rfl (lv_at hl 0 rfl) ?_
        refine lv_bipush (v := (-2)) hx hb dX8_mark_43 (by decide) ?_
        refine n_Vi (na := 1) (As := [.int (-2)]) (rest := []) X hD hN h rfl (c_refused l G cI cB cZ cO ad w  ok ((-2) : Int32)  ) ⟨kv_227, kv_228, kv_229, kv_212, kv_230⟩ rfl ⟨by decide, by decide, by decide⟩ ⟨Nat.le_of_ble_eq_true rfl, Nat.le_of_ble_eq_true rfl⟩ ⟨Nat.zero_le _, Nat.zero_le _⟩ (by decide) f7 rfl rfl hl.1 rfl (Nat.le_of_ble_eq_true rfl) dX8_mark_45 (fun r64 w65 H locs hp66 h => ?_)
        have kX67 : KX w w65 := hp66.2.1
        obtain ⟨ok70, kk71, hr69⟩ := hp66
        have kx72 : KT w w65 := kk71.t
        subst hr69
        exact e_i X h hr hlk dX8_mark_48 ⟨ok70, kx72, Or.inl ⟨by omega, kX67, rfl⟩⟩
    · refine lv_if_eq (tgt := 42) hx hb dX8_mark_18 (by decide) (fun _ => ?_) (fun hc => absurd (by decide) hc)
      refine lv_aload_n hx hb dX8_mark_42 rfl (lv_at hl 0 rfl) ?_
      refine lv_bipush (v := (-2)) hx hb dX8_mark_43 (by decide) ?_
      refine n_Vi (na := 1) (As := [.int (-2)]) (rest := []) X hD hN h rfl (c_refused l G cI cB cZ cO ad w  ok ((-2) : Int32)  ) ⟨kv_227, kv_228, kv_229, kv_212, kv_230⟩ rfl ⟨by decide, by decide, by decide⟩ ⟨Nat.le_of_ble_eq_true rfl, Nat.le_of_ble_eq_true rfl⟩ ⟨Nat.zero_le _, Nat.zero_le _⟩ (by decide) f7 rfl rfl hl.1 rfl (Nat.le_of_ble_eq_true rfl) dX8_mark_45 (fun r73 w74 H locs hp75 h => ?_)
      have kX76 : KX w w74 := hp75.2.1
      obtain ⟨ok79, kk80, hr78⟩ := hp75
      have kx81 : KT w w74 := kk80.t
      subst hr78
      exact e_i X h hr hlk dX8_mark_48 ⟨ok79, kx81, Or.inl ⟨by omega, kX76, rfl⟩⟩
  · refine lv_if_eq (tgt := 42) hx hb dX8_mark_8 (by decide) (fun _ => ?_) (fun hc => absurd (by decide) hc)
    refine lv_aload_n hx hb dX8_mark_42 rfl (lv_at hl 0 rfl) ?_
    refine lv_bipush (v := (-2)) hx hb dX8_mark_43 (by decide) ?_
    refine n_Vi (na := 1) (As := [.int (-2)]) (rest := []) X hD hN h rfl (c_refused l G cI cB cZ cO ad w  ok ((-2) : Int32)  ) ⟨kv_227, kv_228, kv_229, kv_212, kv_230⟩ rfl ⟨by decide, by decide, by decide⟩ ⟨Nat.le_of_ble_eq_true rfl, Nat.le_of_ble_eq_true rfl⟩ ⟨Nat.zero_le _, Nat.zero_le _⟩ (by decide) f7 rfl rfl hl.1 rfl (Nat.le_of_ble_eq_true rfl) dX8_mark_45 (fun r82 w83 H locs hp84 h => ?_)
    have kX85 : KX w w83 := hp84.2.1
    obtain ⟨ok88, kk89, hr87⟩ := hp84
    have kx90 : KT w w83 := kk89.t
    subst hr87
    exact e_i X h hr hlk dX8_mark_48 ⟨ok88, kx90, Or.inl ⟨by omega, kX85, rfl⟩⟩

set_option maxHeartbeats 4000000 in
set_option maxRecDepth 100000 in
theorem c_F_forget (l : Launch) (G : va_G) (cI cB cZ cO : ClassId) (ad : Nat → Nat) (w : Nat → va_E) (ho so mi ca ja nz mz : Int32) (hh nc mc : Nat → Int32) (ok : OK cI cB cZ cO ad w) (u : Int32)  (n_1 : w 1 = .inr (1, [.int ho, .int so, .int mi, .int ca, .int ja, .ref (ad 2), .ref (ad 3), .ref (ad 4), .ref (ad 5), .ref (ad 6), .ref (ad 7), .ref (ad 8), .ref (ad 10), .ref (ad 12)])) (n_3 : w 3 = .inl (cI, 7, .inl hh)) (n_8 : w 8 = .inr (4, [.ref (ad 9), .int nz])) (n_9 : w 9 = .inl (cI, 24, .inl nc)) (n_10 : w 10 = .inr (4, [.ref (ad 11), .int mz])) (n_11 : w 11 = .inl (cI, 24, .inl mc)) (hrn : rgA 0 9 hh) (hca : 0 ≤ ca.toInt ∧ ca.toInt ≤ 7) (hja : 0 ≤ ja.toInt ∧ ja.toInt ≤ 4) (hnz : 0 ≤ nz.toInt ∧ nz.toInt ≤ 6) (hmz : 0 ≤ mz.toInt ∧ mz.toInt ≤ 6) : NI l G (tyq cI cB cZ cO) yX8_forget cX8_forget 2 (some .int) 1 21 74 ad w [.ref (ad 0), .int u] (fun r w1 => OK cI cB cZ cO ad w1 ∧ KT w w1 ∧ ((u.toInt = 0 ∧ FR 1 w w1 ∧ nz = r ∧ IV cI ad 1 w1 ca ja 0 mz hh nc mc) ∨ (u.toInt = 1 ∧ FR 1 w w1 ∧ mz = r ∧ IV cI ad 1 w1 ca ja nz 0 hh nc mc) ∨ (¬ (u.toInt = 0 ∨ u.toInt = 1) ∧ KX w w1 ∧ r = -2))) := by
  refine nk_i (own := "NoonShade") rfl (by decide) (Nat.le_of_ble_eq_true rfl) ?_
  intro p e s m below meth c ls X hD hN hr hlk h hl
  have hx := X.1.1
  have hb := X.1.2.1
  have hown := X.1.2.2.2.1
  have hts := X.1.2.2.2.2
  have hl : lv_has ls 2 [(0, .ref (ad 0)), (1, .int u)] := hl
  have hca0 := hca.1
  have hca1 := hca.2
  have hja0 := hja.1
  have hja1 := hja.2
  have hnz0 := hnz.1
  have hnz1 := hnz.2
  have hmz0 := hmz.1
  have hmz1 := hmz.2
  refine lv_iload_n hx hb dX8_forget_0 rfl (lv_at hl 1 rfl) ?_
  by_cases hq1 : (u).toInt = 0
  · refine lv_lookup (tgt := 28) (off := 27) hx hb dX8_forget_1 (by decide) (by rw [hq1]; rfl) (by decide) ?_
    refine lv_aload_n hx hb dX8_forget_28 rfl (lv_at hl 0 rfl) ?_
    obtain ⟨x3, x4, q5, q6, q7, f2⟩ := (show sN ad (w 0) from ok 0 (by decide))
    have f8 : w 0 = .inr (6, [.ref (ad 1), .ref (ad 14), .ref (ad 27), .ref (ad 54), .ref (ad 55), .ref (ad 58), .ref (ad 62), .long x3, .long x4, .int q5, .int q6, .int q7]) := f2
    refine r_get kc8 X h 0 0 (by decide) rfl f8 (by decide) kv_172 rfl dX8_forget_29 ?_
    refine r_get kc2 X h 1 11 (by decide) rfl n_1 (by decide) kv_186 rfl dX8_forget_32 ?_
    refine n_Vi (na := 0) (As := []) (rest := []) X hD hN h rfl (c_R_empty l G cI cB cZ cO ad w 8 _ _ (by decide) n_8) ⟨kv_349, kv_62, kv_63, kv_64, kv_65⟩ rfl ⟨by decide, by decide, by decide⟩ ⟨Nat.le_of_ble_eq_true rfl, Nat.le_of_ble_eq_true rfl⟩ ⟨Nat.zero_le _, Nat.zero_le _⟩ (by decide) n_8 rfl rfl hl.1 rfl (Nat.le_of_ble_eq_true rfl) dX8_forget_35 (fun r9 w10 H locs hp11 h => ?_)
    obtain ⟨e12r, e12⟩ := hp11
    subst e12r
    have f13 : w10 8 = .inr (4, [.ref (ad 9), .int 0]) := (congrFun e12 _).trans (va_up_self _ _ _)
    have ok14 : OK cI cB cZ cO ad w10 := OK.up ok e12 (sR_mk (by decide) (by decide))
    have kx15 : KT w w10 := KT.up KT.rf e12 n_8 rfl
    have f16 : w10 1 = .inr (1, [.int ho, .int so, .int mi, .int ca, .int ja, .ref (ad 2), .ref (ad 3), .ref (ad 4), .ref (ad 5), .ref (ad 6), .ref (ad 7), .ref (ad 8), .ref (ad 10), .ref (ad 12)]) := by rw [e12, va_up_ne _ _ (by decide)]; exact n_1
    have f17 : w10 3 = .inl (cI, 7, .inl hh) := by rw [e12, va_up_ne _ _ (by decide)]; exact n_3
    have f18 : w10 9 = .inl (cI, 24, .inl nc) := by rw [e12, va_up_ne _ _ (by decide)]; exact n_9
    have f19 : w10 10 = .inr (4, [.ref (ad 11), .int mz]) := by rw [e12, va_up_ne _ _ (by decide)]; exact n_10
    have f20 : w10 11 = .inl (cI, 24, .inl mc) := by rw [e12, va_up_ne _ _ (by decide)]; exact n_11
    exact e_i X h hr hlk dX8_forget_38 ⟨ok14, kx15, Or.inl ⟨by omega, (FR.up FR.rf e12 (by decide)), rfl, ⟨by rw [f16]; rfl, f17, f13, f18, f19, f20⟩⟩⟩
  by_cases hq21 : (u).toInt = 1
  · refine lv_lookup (tgt := 39) (off := 38) hx hb dX8_forget_1 (by decide) (by rw [hq21]; rfl) (by decide) ?_
    refine lv_aload_n hx hb dX8_forget_39 rfl (lv_at hl 0 rfl) ?_
    obtain ⟨x23, x24, q25, q26, q27, f22⟩ := (show sN ad (w 0) from ok 0 (by decide))
    have f28 : w 0 = .inr (6, [.ref (ad 1), .ref (ad 14), .ref (ad 27), .ref (ad 54), .ref (ad 55), .ref (ad 58), .ref (ad 62), .long x23, .long x24, .int q25, .int q26, .int q27]) := f22
    refine r_get kc8 X h 0 0 (by decide) rfl f28 (by decide) kv_172 rfl dX8_forget_40 ?_
    refine r_get kc2 X h 1 12 (by decide) rfl n_1 (by decide) kv_188 rfl dX8_forget_43 ?_
    refine n_Vi (na := 0) (As := []) (rest := []) X hD hN h rfl (c_R_empty l G cI cB cZ cO ad w 10 _ _ (by decide) n_10) ⟨kv_349, kv_62, kv_63, kv_64, kv_65⟩ rfl ⟨by decide, by decide, by decide⟩ ⟨Nat.le_of_ble_eq_true rfl, Nat.le_of_ble_eq_true rfl⟩ ⟨Nat.zero_le _, Nat.zero_le _⟩ (by decide) n_10 rfl rfl hl.1 rfl (Nat.le_of_ble_eq_true rfl) dX8_forget_46 (fun r29 w30 H locs hp31 h => ?_)
    obtain ⟨e32r, e32⟩ := hp31
    subst e32r
    have f33 : w30 10 = .inr (4, [.ref (ad 11), .int 0]) := (congrFun e32 _).trans (va_up_self _ _ _)
    have ok34 : OK cI cB cZ cO ad w30 := OK.up ok e32 (sR_mk (by decide) (by decide))
    have kx35 : KT w w30 := KT.up KT.rf e32 n_10 rfl
    have f36 : w30 1 = .inr (1, [.int ho, .int so, .int mi, .int ca, .int ja, .ref (ad 2), .ref (ad 3), .ref (ad 4), .ref (ad 5), .ref (ad 6), .ref (ad 7), .ref (ad 8), .ref (ad 10), .ref (ad 12)]) := by rw [e32, va_up_ne _ _ (by decide)]; exact n_1
    have f37 : w30 3 = .inl (cI, 7, .inl hh) := by rw [e32, va_up_ne _ _ (by decide)]; exact n_3
    have f38 : w30 8 = .inr (4, [.ref (ad 9), .int nz]) := by rw [e32, va_up_ne _ _ (by decide)]; exact n_8
    have f39 : w30 9 = .inl (cI, 24, .inl nc) := by rw [e32, va_up_ne _ _ (by decide)]; exact n_9
    have f40 : w30 11 = .inl (cI, 24, .inl mc) := by rw [e32, va_up_ne _ _ (by decide)]; exact n_11
    exact e_i X h hr hlk dX8_forget_49 ⟨ok34, kx35, Or.inr (Or.inl ⟨by omega, (FR.up FR.rf e32 (by decide)), rfl, ⟨by rw [f36]; rfl, f37, f38, f39, f33, f40⟩⟩)⟩
  refine lv_lookup (tgt := 50) (off := 49) hx hb dX8_forget_1 (by decide) (by show (if (0 : Int) = _ then _ else if (1 : Int) = _ then _ else _) = _; rw [if_neg (by omega), if_neg (by omega)]; rfl) (by decide) ?_
  refine lv_aload_n hx hb dX8_forget_50 rfl (lv_at hl 0 rfl) ?_
  refine lv_bipush (v := (-2)) hx hb dX8_forget_51 (by decide) ?_
  obtain ⟨x45, x46, q47, q48, q49, f44⟩ := (show sN ad (w 0) from ok 0 (by decide))
  have f50 : w 0 = .inr (6, [.ref (ad 1), .ref (ad 14), .ref (ad 27), .ref (ad 54), .ref (ad 55), .ref (ad 58), .ref (ad 62), .long x45, .long x46, .int q47, .int q48, .int q49]) := f44
  refine n_Vi (na := 1) (As := [.int (-2)]) (rest := []) X hD hN h rfl (c_refused l G cI cB cZ cO ad w  ok ((-2) : Int32)  ) ⟨kv_227, kv_228, kv_229, kv_212, kv_230⟩ rfl ⟨by decide, by decide, by decide⟩ ⟨Nat.le_of_ble_eq_true rfl, Nat.le_of_ble_eq_true rfl⟩ ⟨Nat.zero_le _, Nat.zero_le _⟩ (by decide) f50 rfl rfl hl.1 rfl (Nat.le_of_ble_eq_true rfl) dX8_forget_53 (fun r41 w42 H locs hp43 h => ?_)
  have kX51 : KX w w42 := hp43.2.1
  obtain ⟨ok54, kk55, hr53⟩ := hp43
  have kx56 : KT w w42 := kk55.t
  subst hr53
  exact e_i X h hr hlk dX8_forget_56 ⟨ok54, kx56, Or.inr (Or.inr ⟨by omega, kX51, rfl⟩)⟩
