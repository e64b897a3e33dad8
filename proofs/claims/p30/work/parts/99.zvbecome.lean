set_option maxHeartbeats 4000000 in
set_option maxRecDepth 100000 in
theorem c_F_R_become (l : Launch) (G : va_G) (cI cB cZ cO : ClassId) (ad : Nat → Nat) (w : Nat → va_E) (q oo : Nat) (z y : Int32) (f g : Nat → Int32) (hq0 : q + 1 < 74) (ho0 : oo + 1 < 74) (hap : oo + 1 < q ∨ q + 1 < oo)    (pq : w q = .inr (4, [.ref (ad (q + 1)), .int z])) (pq1 : w (q + 1) = .inl (cI, 24, .inl g)) (po : w oo = .inr (4, [.ref (ad (oo + 1)), .int y])) (po1 : w (oo + 1) = .inl (cI, 24, .inl f)) : NV l G (tyq cI cB cZ cO) yX6_become cX6_become 2 1 40 74 ad w [.ref (ad q), .ref (ad oo)] (fun w1 => w1 q = .inr (4, [.ref (ad (q + 1)), .int y]) ∧ (∃ f1 : Nat → Int32, w1 (q + 1) = .inl (cI, 24, .inl f1) ∧ ∀ j, j < 24 → f1 j = f j) ∧ ∀ k, k ≠ q → k ≠ q + 1 → w1 k = w k) := by
  refine nk_v (own := "NoonShade$Rows") rfl (by decide) (Nat.le_of_ble_eq_true rfl) ?_
  intro p e s m below meth c ls X hD hN hr hlk h hl
  have hx := X.1.1
  have hb := X.1.2.1
  have hown := X.1.2.2.2.1
  have hts := X.1.2.2.2.2
  have hl : lv_has ls 2 [(0, .ref (ad q)), (1, .ref (ad oo))] := hl
  refine lv_aload_n hx hb dX6_become_0 rfl (lv_at hl 1 rfl) ?_
  refine r_get kc6 X h oo 0 (by omega) rfl po (by decide) kv_77 rfl dX6_become_1 ?_
  refine lv_iconst (v := 0) hx hb dX6_become_4 (by decide) ?_
  refine lv_aload_n hx hb dX6_become_5 rfl (lv_at hl 0 rfl) ?_
  refine r_get kc6 X h q 0 (by omega) rfl pq (by decide) kv_77 rfl dX6_become_6 ?_
  refine lv_iconst (v := 0) hx hb dX6_become_9 (by decide) ?_
  refine lv_bipush (v := 24) hx hb dX6_become_10 (by decide) ?_
  obtain ⟨g1, e2⟩ : ∃ z : Nat → Int32, va_cpy f g 0 0 24 = z := ⟨_, rfl⟩
  have p3 : anyA g1 := trivial
  refine r_copy (f1 := g1) X hD h hl.1 kv_151 kv_88 kv_89 kv_90 (oo + 1) (q + 1) 0 (by omega) (by omega) rfl rfl po1 pq1 rfl (by decide) (by decide) (by decide) (by decide) (by decide) e2 ⟨Nat.le_of_ble_eq_true rfl, by decide⟩ dX6_become_12 (fun H locs w4 e5 h => ?_)
  have f6 : w4 (q + 1) = .inl (cI, 24, .inl g1) := (congrFun e5 _).trans (va_up_self _ _ _)
  refine lv_aload_n hx hb dX6_become_15 rfl (lv_at hl 0 rfl) ?_
  refine lv_aload_n hx hb dX6_become_16 rfl (lv_at hl 1 rfl) ?_
  have f7 : w4 oo = .inr (4, [.ref (ad (oo + 1)), .int y]) := by rw [e5, va_up_ne _ _ (by omega)]; exact po
  refine r_get kc6 X h oo 1 (by omega) rfl f7 (by decide) kv_58 rfl dX6_become_17 ?_
  have f8 : w4 q = .inr (4, [.ref (ad (q + 1)), .int z]) := by rw [e5, va_up_ne _ _ (by omega)]; exact pq
  refine r_put kc6 X hD h q 1 (by omega) rfl f8 (by decide) kv_58 rfl rfl rfl (Nat.le_of_ble_eq_true rfl) dX6_become_20 (fun H locs w9 e10 h => ?_)
  have f11 : w9 q = .inr (4, [.ref (ad (q + 1)), .int y]) := (congrFun e10 _).trans (va_up_self _ _ _)
  have f12 : w9 (q + 1) = .inl (cI, 24, .inl g1) := by rw [e10, va_up_ne _ _ (by omega)]; exact f6
  exact e_v X h hr hlk dX6_become_23 ⟨f11, ⟨g1, f12, (fun j hj => by rw [← e2, pk_cpy_in (Nat.zero_le _) (by omega)]; congr 1; omega)⟩, fun k h1 h2 => ((congrFun e10 k).trans (va_up_ne _ _ (by omega))).trans ((congrFun e5 k).trans (va_up_ne _ _ (by omega)))⟩

set_option maxHeartbeats 4000000 in
set_option maxRecDepth 100000 in
theorem c_F_become (l : Launch) (G : va_G) (cI cB cZ cO : ClassId) (ad : Nat → Nat) (w : Nat → va_E) (b o2 : Nat) (hbB : isB b) (ho2 : isB o2) (hap : b + 12 < o2 ∨ o2 + 12 < b) (ho so mi ca ja nz mz : Int32) (hh nc mc : Nat → Int32) (ok : OK cI cB cZ cO ad w)   (n_1 : w o2 = .inr (1, [.int ho, .int so, .int mi, .int ca, .int ja, .ref (ad (o2 + 1)), .ref (ad (o2 + 2)), .ref (ad (o2 + 3)), .ref (ad (o2 + 4)), .ref (ad (o2 + 5)), .ref (ad (o2 + 6)), .ref (ad (o2 + 7)), .ref (ad (o2 + 9)), .ref (ad (o2 + 11))])) (n_3 : w (o2 + 2) = .inl (cI, 7, .inl hh)) (n_8 : w (o2 + 7) = .inr (4, [.ref (ad (o2 + 8)), .int nz])) (n_9 : w (o2 + 8) = .inl (cI, 24, .inl nc)) (n_10 : w (o2 + 9) = .inr (4, [.ref (ad (o2 + 10)), .int mz])) (n_11 : w (o2 + 10) = .inl (cI, 24, .inl mc)) (hrn : rgA 0 9 hh) (hca : 0 ≤ ca.toInt ∧ ca.toInt ≤ 7) (hja : 0 ≤ ja.toInt ∧ ja.toInt ≤ 4) (hnz : 0 ≤ nz.toInt ∧ nz.toInt ≤ 6) (hmz : 0 ≤ mz.toInt ∧ mz.toInt ≤ 6) : NV l G (tyq cI cB cZ cO) yX2_become cX2_become 2 2 61 74 ad w [.ref (ad b), .ref (ad o2)] (fun w1 => OK cI cB cZ cO ad w1 ∧ FR b w w1 ∧ ∃ hh1 nc1 mc1 : Nat → Int32, IV cI ad b w1 ca ja nz mz hh1 nc1 mc1 ∧ (∀ j, j < 7 → hh1 j = hh j) ∧ (∀ j, j < 24 → nc1 j = nc j) ∧ (∀ j, j < 24 → mc1 j = mc j)) := by
  refine nk_v (own := "NoonShade$Isle") rfl (by decide) (Nat.le_of_ble_eq_true rfl) ?_
  intro p e s m below meth c ls X hD hN hr hlk h hl
  have hx := X.1.1
  have hb := X.1.2.1
  have hown := X.1.2.2.2.1
  have hts := X.1.2.2.2.2
  have hl : lv_has ls 2 [(0, .ref (ad b)), (1, .ref (ad o2))] := hl
  have hca0 := hca.1
  have hca1 := hca.2
  have hja0 := hja.1
  have hja1 := hja.2
  have hnz0 := hnz.1
  have hnz1 := hnz.2
  have hmz0 := hmz.1
  have hmz1 := hmz.2
  refine lv_aload_n hx hb dX2_become_0 rfl (lv_at hl 0 rfl) ?_
  refine lv_aload_n hx hb dX2_become_1 rfl (lv_at hl 1 rfl) ?_
  refine r_get kc2 X h o2 0 (by have := isB.lt ho2; omega) rfl n_1 (by decide) kv_26 rfl dX2_become_2 ?_
  obtain ⟨q2, q3, q4, q5, q6, f1, h7, h8, h9, h10⟩ := (show sI ad b (w b) from ok.b0 hbB)
  have f11 : w b = .inr (1, [.int q2, .int q3, .int q4, .int q5, .int q6, .ref (ad (b + 1)), .ref (ad (b + 2)), .ref (ad (b + 3)), .ref (ad (b + 4)), .ref (ad (b + 5)), .ref (ad (b + 6)), .ref (ad (b + 7)), .ref (ad (b + 9)), .ref (ad (b + 11))]) := f1
  refine r_put kc2 X hD h b 0 (by have := isB.lt hbB; omega) rfl f11 (by decide) kv_26 rfl rfl rfl (Nat.le_of_ble_eq_true rfl) dX2_become_5 (fun H locs w12 e13 h => ?_)
  have f14 : w12 b = .inr (1, [.int ho, .int q3, .int q4, .int q5, .int q6, .ref (ad (b + 1)), .ref (ad (b + 2)), .ref (ad (b + 3)), .ref (ad (b + 4)), .ref (ad (b + 5)), .ref (ad (b + 6)), .ref (ad (b + 7)), .ref (ad (b + 9)), .ref (ad (b + 11))]) := (congrFun e13 _).trans (va_up_self _ _ _)
  have ok15 : OK cI cB cZ cO ad w12 := OK.up ok e13 (Eq.mpr (okc_b0 hbB) (sI_mk (by omega) (by omega) (by omega) (by omega)))
  have kx16 : FR b w w12 := FR.up FR.rf e13 (by omega)
  refine lv_aload_n hx hb dX2_become_8 rfl (lv_at hl 0 rfl) ?_
  refine lv_aload_n hx hb dX2_become_9 rfl (lv_at hl 1 rfl) ?_
  have f17 : w12 o2 = .inr (1, [.int ho, .int so, .int mi, .int ca, .int ja, .ref (ad (o2 + 1)), .ref (ad (o2 + 2)), .ref (ad (o2 + 3)), .ref (ad (o2 + 4)), .ref (ad (o2 + 5)), .ref (ad (o2 + 6)), .ref (ad (o2 + 7)), .ref (ad (o2 + 9)), .ref (ad (o2 + 11))]) := by rw [e13, va_up_ne _ _ (by omega)]; exact n_1
  refine r_get kc2 X h o2 1 (by have := isB.lt ho2; omega) rfl f17 (by decide) kv_52 rfl dX2_become_10 ?_
  refine r_put kc2 X hD h b 1 (by have := isB.lt hbB; omega) rfl f14 (by decide) kv_52 rfl rfl rfl (Nat.le_of_ble_eq_true rfl) dX2_become_13 (fun H locs w18 e19 h => ?_)
  have f20 : w18 b = .inr (1, [.int ho, .int so, .int q4, .int q5, .int q6, .ref (ad (b + 1)), .ref (ad (b + 2)), .ref (ad (b + 3)), .ref (ad (b + 4)), .ref (ad (b + 5)), .ref (ad (b + 6)), .ref (ad (b + 7)), .ref (ad (b + 9)), .ref (ad (b + 11))]) := (congrFun e19 _).trans (va_up_self _ _ _)
  have ok21 : OK cI cB cZ cO ad w18 := OK.up ok15 e19 (Eq.mpr (okc_b0 hbB) (sI_mk (by omega) (by omega) (by omega) (by omega)))
  have kx22 : FR b w w18 := FR.up kx16 e19 (by omega)
  refine lv_aload_n hx hb dX2_become_16 rfl (lv_at hl 0 rfl) ?_
  refine lv_aload_n hx hb dX2_become_17 rfl (lv_at hl 1 rfl) ?_
  have f23 : w18 o2 = .inr (1, [.int ho, .int so, .int mi, .int ca, .int ja, .ref (ad (o2 + 1)), .ref (ad (o2 + 2)), .ref (ad (o2 + 3)), .ref (ad (o2 + 4)), .ref (ad (o2 + 5)), .ref (ad (o2 + 6)), .ref (ad (o2 + 7)), .ref (ad (o2 + 9)), .ref (ad (o2 + 11))]) := by rw [e19, va_up_ne _ _ (by omega)]; exact f17
  refine r_get kc2 X h o2 2 (by have := isB.lt ho2; omega) rfl f23 (by decide) kv_19 rfl dX2_become_18 ?_
  refine r_put kc2 X hD h b 2 (by have := isB.lt hbB; omega) rfl f20 (by decide) kv_19 rfl rfl rfl (Nat.le_of_ble_eq_true rfl) dX2_become_21 (fun H locs w24 e25 h => ?_)
  have f26 : w24 b = .inr (1, [.int ho, .int so, .int mi, .int q5, .int q6, .ref (ad (b + 1)), .ref (ad (b + 2)), .ref (ad (b + 3)), .ref (ad (b + 4)), .ref (ad (b + 5)), .ref (ad (b + 6)), .ref (ad (b + 7)), .ref (ad (b + 9)), .ref (ad (b + 11))]) := (congrFun e25 _).trans (va_up_self _ _ _)
  have ok27 : OK cI cB cZ cO ad w24 := OK.up ok21 e25 (Eq.mpr (okc_b0 hbB) (sI_mk (by omega) (by omega) (by omega) (by omega)))
  have kx28 : FR b w w24 := FR.up kx22 e25 (by omega)
  refine lv_aload_n hx hb dX2_become_24 rfl (lv_at hl 0 rfl) ?_
  refine lv_aload_n hx hb dX2_become_25 rfl (lv_at hl 1 rfl) ?_
  have f29 : w24 o2 = .inr (1, [.int ho, .int so, .int mi, .int ca, .int ja, .ref (ad (o2 + 1)), .ref (ad (o2 + 2)), .ref (ad (o2 + 3)), .ref (ad (o2 + 4)), .ref (ad (o2 + 5)), .ref (ad (o2 + 6)), .ref (ad (o2 + 7)), .ref (ad (o2 + 9)), .ref (ad (o2 + 11))]) := by rw [e25, va_up_ne _ _ (by omega)]; exact f23
  refine r_get kc2 X h o2 3 (by have := isB.lt ho2; omega) rfl f29 (by decide) kv_17 rfl dX2_become_26 ?_
  refine r_put kc2 X hD h b 3 (by have := isB.lt hbB; omega) rfl f26 (by decide) kv_17 rfl rfl rfl (Nat.le_of_ble_eq_true rfl) dX2_become_29 (fun H locs w30 e31 h => ?_)
  have f32 : w30 b = .inr (1, [.int ho, .int so, .int mi, .int ca, .int q6, .ref (ad (b + 1)), .ref (ad (b + 2)), .ref (ad (b + 3)), .ref (ad (b + 4)), .ref (ad (b + 5)), .ref (ad (b + 6)), .ref (ad (b + 7)), .ref (ad (b + 9)), .ref (ad (b + 11))]) := (congrFun e31 _).trans (va_up_self _ _ _)
  have ok33 : OK cI cB cZ cO ad w30 := OK.up ok27 e31 (Eq.mpr (okc_b0 hbB) (sI_mk (by omega) (by omega) (by omega) (by omega)))
  have kx34 : FR b w w30 := FR.up kx28 e31 (by omega)
  refine lv_aload_n hx hb dX2_become_32 rfl (lv_at hl 0 rfl) ?_
  refine lv_aload_n hx hb dX2_become_33 rfl (lv_at hl 1 rfl) ?_
  have f35 : w30 o2 = .inr (1, [.int ho, .int so, .int mi, .int ca, .int ja, .ref (ad (o2 + 1)), .ref (ad (o2 + 2)), .ref (ad (o2 + 3)), .ref (ad (o2 + 4)), .ref (ad (o2 + 5)), .ref (ad (o2 + 6)), .ref (ad (o2 + 7)), .ref (ad (o2 + 9)), .ref (ad (o2 + 11))]) := by rw [e31, va_up_ne _ _ (by omega)]; exact f29
  refine r_get kc2 X h o2 4 (by have := isB.lt ho2; omega) rfl f35 (by decide) kv_18 rfl dX2_become_34 ?_
  refine r_put kc2 X hD h b 4 (by have := isB.lt hbB; omega) rfl f32 (by decide) kv_18 rfl rfl rfl (Nat.le_of_ble_eq_true rfl) dX2_become_37 (fun H locs w36 e37 h => ?_)
  have f38 : w36 b = .inr (1, [.int ho, .int so, .int mi, .int ca, .int ja, .ref (ad (b + 1)), .ref (ad (b + 2)), .ref (ad (b + 3)), .ref (ad (b + 4)), .ref (ad (b + 5)), .ref (ad (b + 6)), .ref (ad (b + 7)), .ref (ad (b + 9)), .ref (ad (b + 11))]) := (congrFun e37 _).trans (va_up_self _ _ _)
  have ok39 : OK cI cB cZ cO ad w36 := OK.up ok33 e37 (Eq.mpr (okc_b0 hbB) (sI_mk (by omega) (by omega) (by omega) (by omega)))
  have kx40 : FR b w w36 := FR.up kx34 e37 (by omega)
  refine lv_aload_n hx hb dX2_become_40 rfl (lv_at hl 1 rfl) ?_
  have f41 : w36 o2 = .inr (1, [.int ho, .int so, .int mi, .int ca, .int ja, .ref (ad (o2 + 1)), .ref (ad (o2 + 2)), .ref (ad (o2 + 3)), .ref (ad (o2 + 4)), .ref (ad (o2 + 5)), .ref (ad (o2 + 6)), .ref (ad (o2 + 7)), .ref (ad (o2 + 9)), .ref (ad (o2 + 11))]) := by rw [e37, va_up_ne _ _ (by omega)]; exact f35
  refine r_get kc2 X h o2 5 (by have := isB.lt ho2; omega) rfl f41 (by decide) kv_20 rfl dX2_become_41 ?_
  refine lv_iconst (v := 0) hx hb dX2_become_44 (by decide) ?_
  refine lv_aload_n hx hb dX2_become_45 rfl (lv_at hl 0 rfl) ?_
  refine r_get kc2 X h b 5 (by have := isB.lt hbB; omega) rfl f38 (by decide) kv_20 rfl dX2_become_46 ?_
  refine lv_iconst (v := 0) hx hb dX2_become_49 (by decide) ?_
  refine lv_bipush (v := 7) hx hb dX2_become_50 (by decide) ?_
  obtain ⟨g43, f42, p44⟩ := (show sA cI 7 (anyA) (w36 (o2 + 1)) from ok39.b1 ho2)
  have f45 : w36 (o2 + 1) = .inl (cI, 7, .inl g43) := f42
  obtain ⟨g47, f46, p48⟩ := (show sA cI 7 (anyA) (w36 (b + 1)) from ok39.b1 hbB)
  have f49 : w36 (b + 1) = .inl (cI, 7, .inl g47) := f46
  obtain ⟨g50, e51⟩ : ∃ z : Nat → Int32, va_cpy g43 g47 0 0 7 = z := ⟨_, rfl⟩
  have p52 : anyA g50 := trivial
  refine r_copy (f1 := g50) X hD h hl.1 kv_152 kv_88 kv_89 kv_90 (o2 + 1) (b + 1) 0 (by have := isB.lt ho2; omega) (by have := isB.lt hbB; omega) rfl rfl f45 f49 rfl (by decide) (by decide) (by decide) (by decide) (by decide) e51 ⟨Nat.le_of_ble_eq_true rfl, by decide⟩ dX2_become_52 (fun H locs w53 e54 h => ?_)
  have f55 : w53 (b + 1) = .inl (cI, 7, .inl g50) := (congrFun e54 _).trans (va_up_self _ _ _)
  have ok56 : OK cI cB cZ cO ad w53 := OK.up ok39 e54 (Eq.mpr (okc_b1 hbB) (sA_mk p52))
  have kx57 : FR b w w53 := FR.up kx40 e54 (by omega)
  refine lv_aload_n hx hb dX2_become_55 rfl (lv_at hl 1 rfl) ?_
  have f58 : w53 o2 = .inr (1, [.int ho, .int so, .int mi, .int ca, .int ja, .ref (ad (o2 + 1)), .ref (ad (o2 + 2)), .ref (ad (o2 + 3)), .ref (ad (o2 + 4)), .ref (ad (o2 + 5)), .ref (ad (o2 + 6)), .ref (ad (o2 + 7)), .ref (ad (o2 + 9)), .ref (ad (o2 + 11))]) := by rw [e54, va_up_ne _ _ (by omega)]; exact f41
  refine r_get kc2 X h o2 6 (by have := isB.lt ho2; omega) rfl f58 (by decide) kv_21 rfl dX2_become_56 ?_
  refine lv_iconst (v := 0) hx hb dX2_become_59 (by decide) ?_
  refine lv_aload_n hx hb dX2_become_60 rfl (lv_at hl 0 rfl) ?_
  have f59 : w53 b = .inr (1, [.int ho, .int so, .int mi, .int ca, .int ja, .ref (ad (b + 1)), .ref (ad (b + 2)), .ref (ad (b + 3)), .ref (ad (b + 4)), .ref (ad (b + 5)), .ref (ad (b + 6)), .ref (ad (b + 7)), .ref (ad (b + 9)), .ref (ad (b + 11))]) := by rw [e54, va_up_ne _ _ (by omega)]; exact f38
  refine r_get kc2 X h b 6 (by have := isB.lt hbB; omega) rfl f59 (by decide) kv_21 rfl dX2_become_61 ?_
  refine lv_iconst (v := 0) hx hb dX2_become_64 (by decide) ?_
  refine lv_bipush (v := 7) hx hb dX2_become_65 (by decide) ?_
  have f60 : w12 (o2 + 2) = .inl (cI, 7, .inl hh) := by rw [e13, va_up_ne _ _ (by omega)]; exact n_3
  have f61 : w18 (o2 + 2) = .inl (cI, 7, .inl hh) := by rw [e19, va_up_ne _ _ (by omega)]; exact f60
  have f62 : w24 (o2 + 2) = .inl (cI, 7, .inl hh) := by rw [e25, va_up_ne _ _ (by omega)]; exact f61
  have f63 : w30 (o2 + 2) = .inl (cI, 7, .inl hh) := by rw [e31, va_up_ne _ _ (by omega)]; exact f62
  have f64 : w36 (o2 + 2) = .inl (cI, 7, .inl hh) := by rw [e37, va_up_ne _ _ (by omega)]; exact f63
  have f65 : w53 (o2 + 2) = .inl (cI, 7, .inl hh) := by rw [e54, va_up_ne _ _ (by omega)]; exact f64
  obtain ⟨g67, f66, p68⟩ := (show sA cI 7 (rgA 0 9) (w53 (b + 2)) from ok56.b2 hbB)
  have f69 : w53 (b + 2) = .inl (cI, 7, .inl g67) := f66
  obtain ⟨g70, e71⟩ : ∃ z : Nat → Int32, va_cpy hh g67 0 0 7 = z := ⟨_, rfl⟩
  have p72 : rgA 0 9 g70 := rgA_cpy hrn p68 e71
  refine r_copy (f1 := g70) X hD h hl.1 kv_152 kv_88 kv_89 kv_90 (o2 + 2) (b + 2) 0 (by have := isB.lt ho2; omega) (by have := isB.lt hbB; omega) rfl rfl f65 f69 rfl (by decide) (by decide) (by decide) (by decide) (by decide) e71 ⟨Nat.le_of_ble_eq_true rfl, by decide⟩ dX2_become_67 (fun H locs w73 e74 h => ?_)
  have f75 : w73 (b + 2) = .inl (cI, 7, .inl g70) := (congrFun e74 _).trans (va_up_self _ _ _)
  have ok76 : OK cI cB cZ cO ad w73 := OK.up ok56 e74 (Eq.mpr (okc_b2 hbB) (sA_mk p72))
  have kx77 : FR b w w73 := FR.up kx57 e74 (by omega)
  refine lv_aload_n hx hb dX2_become_70 rfl (lv_at hl 1 rfl) ?_
  have f78 : w73 o2 = .inr (1, [.int ho, .int so, .int mi, .int ca, .int ja, .ref (ad (o2 + 1)), .ref (ad (o2 + 2)), .ref (ad (o2 + 3)), .ref (ad (o2 + 4)), .ref (ad (o2 + 5)), .ref (ad (o2 + 6)), .ref (ad (o2 + 7)), .ref (ad (o2 + 9)), .ref (ad (o2 + 11))]) := by rw [e74, va_up_ne _ _ (by omega)]; exact f58
  refine r_get kc2 X h o2 7 (by have := isB.lt ho2; omega) rfl f78 (by decide) kv_22 rfl dX2_become_71 ?_
  refine lv_iconst (v := 0) hx hb dX2_become_74 (by decide) ?_
  refine lv_aload_n hx hb dX2_become_75 rfl (lv_at hl 0 rfl) ?_
  have f79 : w73 b = .inr (1, [.int ho, .int so, .int mi, .int ca, .int ja, .ref (ad (b + 1)), .ref (ad (b + 2)), .ref (ad (b + 3)), .ref (ad (b + 4)), .ref (ad (b + 5)), .ref (ad (b + 6)), .ref (ad (b + 7)), .ref (ad (b + 9)), .ref (ad (b + 11))]) := by rw [e74, va_up_ne _ _ (by omega)]; exact f59
  refine r_get kc2 X h b 7 (by have := isB.lt hbB; omega) rfl f79 (by decide) kv_22 rfl dX2_become_76 ?_
  refine lv_iconst (v := 0) hx hb dX2_become_79 (by decide) ?_
  refine lv_bipush (v := 7) hx hb dX2_become_80 (by decide) ?_
  obtain ⟨g81, f80, p82⟩ := (show sA cI 7 (anyA) (w73 (o2 + 3)) from ok76.b3 ho2)
  have f83 : w73 (o2 + 3) = .inl (cI, 7, .inl g81) := f80
  obtain ⟨g85, f84, p86⟩ := (show sA cI 7 (anyA) (w73 (b + 3)) from ok76.b3 hbB)
  have f87 : w73 (b + 3) = .inl (cI, 7, .inl g85) := f84
  obtain ⟨g88, e89⟩ : ∃ z : Nat → Int32, va_cpy g81 g85 0 0 7 = z := ⟨_, rfl⟩
  have p90 : anyA g88 := trivial
  refine r_copy (f1 := g88) X hD h hl.1 kv_152 kv_88 kv_89 kv_90 (o2 + 3) (b + 3) 0 (by have := isB.lt ho2; omega) (by have := isB.lt hbB; omega) rfl rfl f83 f87 rfl (by decide) (by decide) (by decide) (by decide) (by decide) e89 ⟨Nat.le_of_ble_eq_true rfl, by decide⟩ dX2_become_82 (fun H locs w91 e92 h => ?_)
  have f93 : w91 (b + 3) = .inl (cI, 7, .inl g88) := (congrFun e92 _).trans (va_up_self _ _ _)
  have ok94 : OK cI cB cZ cO ad w91 := OK.up ok76 e92 (Eq.mpr (okc_b3 hbB) (sA_mk p90))
  have kx95 : FR b w w91 := FR.up kx77 e92 (by omega)
  refine lv_aload_n hx hb dX2_become_85 rfl (lv_at hl 1 rfl) ?_
  have f96 : w91 o2 = .inr (1, [.int ho, .int so, .int mi, .int ca, .int ja, .ref (ad (o2 + 1)), .ref (ad (o2 + 2)), .ref (ad (o2 + 3)), .ref (ad (o2 + 4)), .ref (ad (o2 + 5)), .ref (ad (o2 + 6)), .ref (ad (o2 + 7)), .ref (ad (o2 + 9)), .ref (ad (o2 + 11))]) := by rw [e92, va_up_ne _ _ (by omega)]; exact f78
  refine r_get kc2 X h o2 8 (by have := isB.lt ho2; omega) rfl f96 (by decide) kv_23 rfl dX2_become_86 ?_
  refine lv_iconst (v := 0) hx hb dX2_become_89 (by decide) ?_
  refine lv_aload_n hx hb dX2_become_90 rfl (lv_at hl 0 rfl) ?_
  have f97 : w91 b = .inr (1, [.int ho, .int so, .int mi, .int ca, .int ja, .ref (ad (b + 1)), .ref (ad (b + 2)), .ref (ad (b + 3)), .ref (ad (b + 4)), .ref (ad (b + 5)), .ref (ad (b + 6)), .ref (ad (b + 7)), .ref (ad (b + 9)), .ref (ad (b + 11))]) := by rw [e92, va_up_ne _ _ (by omega)]; exact f79
  refine r_get kc2 X h b 8 (by have := isB.lt hbB; omega) rfl f97 (by decide) kv_23 rfl dX2_become_91 ?_
  refine lv_iconst (v := 0) hx hb dX2_become_94 (by decide) ?_
  refine lv_iconst (v := 4) hx hb dX2_become_95 (by decide) ?_
  obtain ⟨g99, f98, p100⟩ := (show sA cI 4 (anyA) (w91 (o2 + 4)) from ok94.b4 ho2)
  have f101 : w91 (o2 + 4) = .inl (cI, 4, .inl g99) := f98
  obtain ⟨g103, f102, p104⟩ := (show sA cI 4 (anyA) (w91 (b + 4)) from ok94.b4 hbB)
  have f105 : w91 (b + 4) = .inl (cI, 4, .inl g103) := f102
  obtain ⟨g106, e107⟩ : ∃ z : Nat → Int32, va_cpy g99 g103 0 0 4 = z := ⟨_, rfl⟩
  have p108 : anyA g106 := trivial
  refine r_copy (f1 := g106) X hD h hl.1 kv_152 kv_88 kv_89 kv_90 (o2 + 4) (b + 4) 0 (by have := isB.lt ho2; omega) (by have := isB.lt hbB; omega) rfl rfl f101 f105 rfl (by decide) (by decide) (by decide) (by decide) (by decide) e107 ⟨Nat.le_of_ble_eq_true rfl, by decide⟩ dX2_become_96 (fun H locs w109 e110 h => ?_)
  have f111 : w109 (b + 4) = .inl (cI, 4, .inl g106) := (congrFun e110 _).trans (va_up_self _ _ _)
  have ok112 : OK cI cB cZ cO ad w109 := OK.up ok94 e110 (Eq.mpr (okc_b4 hbB) (sA_mk p108))
  have kx113 : FR b w w109 := FR.up kx95 e110 (by omega)
  refine lv_aload_n hx hb dX2_become_99 rfl (lv_at hl 1 rfl) ?_
  have f114 : w109 o2 = .inr (1, [.int ho, .int so, .int mi, .int ca, .int ja, .ref (ad (o2 + 1)), .ref (ad (o2 + 2)), .ref (ad (o2 + 3)), .ref (ad (o2 + 4)), .ref (ad (o2 + 5)), .ref (ad (o2 + 6)), .ref (ad (o2 + 7)), .ref (ad (o2 + 9)), .ref (ad (o2 + 11))]) := by rw [e110, va_up_ne _ _ (by omega)]; exact f96
  refine r_get kc2 X h o2 9 (by have := isB.lt ho2; omega) rfl f114 (by decide) kv_24 rfl dX2_become_100 ?_
  refine lv_iconst (v := 0) hx hb dX2_become_103 (by decide) ?_
  refine lv_aload_n hx hb dX2_become_104 rfl (lv_at hl 0 rfl) ?_
  have f115 : w109 b = .inr (1, [.int ho, .int so, .int mi, .int ca, .int ja, .ref (ad (b + 1)), .ref (ad (b + 2)), .ref (ad (b + 3)), .ref (ad (b + 4)), .ref (ad (b + 5)), .ref (ad (b + 6)), .ref (ad (b + 7)), .ref (ad (b + 9)), .ref (ad (b + 11))]) := by rw [e110, va_up_ne _ _ (by omega)]; exact f97
  refine r_get kc2 X h b 9 (by have := isB.lt hbB; omega) rfl f115 (by decide) kv_24 rfl dX2_become_105 ?_
  refine lv_iconst (v := 0) hx hb dX2_become_108 (by decide) ?_
  refine lv_iconst (v := 4) hx hb dX2_become_109 (by decide) ?_
  obtain ⟨g117, f116, p118⟩ := (show sA cI 4 (rgA 0 60) (w109 (o2 + 5)) from ok112.b5 ho2)
  have f119 : w109 (o2 + 5) = .inl (cI, 4, .inl g117) := f116
  obtain ⟨g121, f120, p122⟩ := (show sA cI 4 (rgA 0 60) (w109 (b + 5)) from ok112.b5 hbB)
  have f123 : w109 (b + 5) = .inl (cI, 4, .inl g121) := f120
  obtain ⟨g124, e125⟩ : ∃ z : Nat → Int32, va_cpy g117 g121 0 0 4 = z := ⟨_, rfl⟩
  have p126 : rgA 0 60 g124 := rgA_cpy p118 p122 e125
  refine r_copy (f1 := g124) X hD h hl.1 kv_152 kv_88 kv_89 kv_90 (o2 + 5) (b + 5) 0 (by have := isB.lt ho2; omega) (by have := isB.lt hbB; omega) rfl rfl f119 f123 rfl (by decide) (by decide) (by decide) (by decide) (by decide) e125 ⟨Nat.le_of_ble_eq_true rfl, by decide⟩ dX2_become_110 (fun H locs w127 e128 h => ?_)
  have f129 : w127 (b + 5) = .inl (cI, 4, .inl g124) := (congrFun e128 _).trans (va_up_self _ _ _)
  have ok130 : OK cI cB cZ cO ad w127 := OK.up ok112 e128 (Eq.mpr (okc_b5 hbB) (sA_mk p126))
  have kx131 : FR b w w127 := FR.up kx113 e128 (by omega)
  refine lv_aload_n hx hb dX2_become_113 rfl (lv_at hl 1 rfl) ?_
  have f132 : w127 o2 = .inr (1, [.int ho, .int so, .int mi, .int ca, .int ja, .ref (ad (o2 + 1)), .ref (ad (o2 + 2)), .ref (ad (o2 + 3)), .ref (ad (o2 + 4)), .ref (ad (o2 + 5)), .ref (ad (o2 + 6)), .ref (ad (o2 + 7)), .ref (ad (o2 + 9)), .ref (ad (o2 + 11))]) := by rw [e128, va_up_ne _ _ (by omega)]; exact f114
  refine r_get kc2 X h o2 10 (by have := isB.lt ho2; omega) rfl f132 (by decide) kv_25 rfl dX2_become_114 ?_
  refine lv_iconst (v := 0) hx hb dX2_become_117 (by decide) ?_
  refine lv_aload_n hx hb dX2_become_118 rfl (lv_at hl 0 rfl) ?_
  have f133 : w127 b = .inr (1, [.int ho, .int so, .int mi, .int ca, .int ja, .ref (ad (b + 1)), .ref (ad (b + 2)), .ref (ad (b + 3)), .ref (ad (b + 4)), .ref (ad (b + 5)), .ref (ad (b + 6)), .ref (ad (b + 7)), .ref (ad (b + 9)), .ref (ad (b + 11))]) := by rw [e128, va_up_ne _ _ (by omega)]; exact f115
  refine r_get kc2 X h b 10 (by have := isB.lt hbB; omega) rfl f133 (by decide) kv_25 rfl dX2_become_119 ?_
  refine lv_iconst (v := 0) hx hb dX2_become_122 (by decide) ?_
  refine lv_iconst (v := 4) hx hb dX2_become_123 (by decide) ?_
  obtain ⟨g135, f134, p136⟩ := (show sA cI 4 (anyA) (w127 (o2 + 6)) from ok130.b6 ho2)
  have f137 : w127 (o2 + 6) = .inl (cI, 4, .inl g135) := f134
  obtain ⟨g139, f138, p140⟩ := (show sA cI 4 (anyA) (w127 (b + 6)) from ok130.b6 hbB)
  have f141 : w127 (b + 6) = .inl (cI, 4, .inl g139) := f138
  obtain ⟨g142, e143⟩ : ∃ z : Nat → Int32, va_cpy g135 g139 0 0 4 = z := ⟨_, rfl⟩
  have p144 : anyA g142 := trivial
  refine r_copy (f1 := g142) X hD h hl.1 kv_152 kv_88 kv_89 kv_90 (o2 + 6) (b + 6) 0 (by have := isB.lt ho2; omega) (by have := isB.lt hbB; omega) rfl rfl f137 f141 rfl (by decide) (by decide) (by decide) (by decide) (by decide) e143 ⟨Nat.le_of_ble_eq_true rfl, by decide⟩ dX2_become_124 (fun H locs w145 e146 h => ?_)
  have f147 : w145 (b + 6) = .inl (cI, 4, .inl g142) := (congrFun e146 _).trans (va_up_self _ _ _)
  have ok148 : OK cI cB cZ cO ad w145 := OK.up ok130 e146 (Eq.mpr (okc_b6 hbB) (sA_mk p144))
  have kx149 : FR b w w145 := FR.up kx131 e146 (by omega)
  refine lv_aload_n hx hb dX2_become_127 rfl (lv_at hl 0 rfl) ?_
  have f150 : w145 b = .inr (1, [.int ho, .int so, .int mi, .int ca, .int ja, .ref (ad (b + 1)), .ref (ad (b + 2)), .ref (ad (b + 3)), .ref (ad (b + 4)), .ref (ad (b + 5)), .ref (ad (b + 6)), .ref (ad (b + 7)), .ref (ad (b + 9)), .ref (ad (b + 11))]) := by rw [e146, va_up_ne _ _ (by omega)]; exact f133
  refine r_get kc2 X h b 11 (by have := isB.lt hbB; omega) rfl f150 (by decide) kv_60 rfl dX2_become_128 ?_
  refine lv_aload_n hx hb dX2_become_131 rfl (lv_at hl 1 rfl) ?_
  have f151 : w145 o2 = .inr (1, [.int ho, .int so, .int mi, .int ca, .int ja, .ref (ad (o2 + 1)), .ref (ad (o2 + 2)), .ref (ad (o2 + 3)), .ref (ad (o2 + 4)), .ref (ad (o2 + 5)), .ref (ad (o2 + 6)), .ref (ad (o2 + 7)), .ref (ad (o2 + 9)), .ref (ad (o2 + 11))]) := by rw [e146, va_up_ne _ _ (by omega)]; exact f132
  refine r_get kc2 X h o2 11 (by have := isB.lt ho2; omega) rfl f151 (by decide) kv_60 rfl dX2_become_132 ?_
  obtain ⟨z153, f152, h154, h155⟩ := (show sR ad 4 (b + 8) 6 (w145 (b + 7)) from ok148.b7 hbB)
  have f156 : w145 (b + 7) = .inr (4, [.ref (ad (b + 8)), .int z153]) := f152
  obtain ⟨g158, f157, p159⟩ := (show sA cI 24 (anyA) (w145 (b + 8)) from ok148.b8 hbB)
  have f160 : w145 (b + 8) = .inl (cI, 24, .inl g158) := f157
  have f161 : w12 (o2 + 7) = .inr (4, [.ref (ad (o2 + 8)), .int nz]) := by rw [e13, va_up_ne _ _ (by omega)]; exact n_8
  have f162 : w18 (o2 + 7) = .inr (4, [.ref (ad (o2 + 8)), .int nz]) := by rw [e19, va_up_ne _ _ (by omega)]; exact f161
  have f163 : w24 (o2 + 7) = .inr (4, [.ref (ad (o2 + 8)), .int nz]) := by rw [e25, va_up_ne _ _ (by omega)]; exact f162
  have f164 : w30 (o2 + 7) = .inr (4, [.ref (ad (o2 + 8)), .int nz]) := by rw [e31, va_up_ne _ _ (by omega)]; exact f163
  have f165 : w36 (o2 + 7) = .inr (4, [.ref (ad (o2 + 8)), .int nz]) := by rw [e37, va_up_ne _ _ (by omega)]; exact f164
  have f166 : w53 (o2 + 7) = .inr (4, [.ref (ad (o2 + 8)), .int nz]) := by rw [e54, va_up_ne _ _ (by omega)]; exact f165
  have f167 : w73 (o2 + 7) = .inr (4, [.ref (ad (o2 + 8)), .int nz]) := by rw [e74, va_up_ne _ _ (by omega)]; exact f166
  have f168 : w91 (o2 + 7) = .inr (4, [.ref (ad (o2 + 8)), .int nz]) := by rw [e92, va_up_ne _ _ (by omega)]; exact f167
  have f169 : w109 (o2 + 7) = .inr (4, [.ref (ad (o2 + 8)), .int nz]) := by rw [e110, va_up_ne _ _ (by omega)]; exact f168
  have f170 : w127 (o2 + 7) = .inr (4, [.ref (ad (o2 + 8)), .int nz]) := by rw [e128, va_up_ne _ _ (by omega)]; exact f169
  have f171 : w145 (o2 + 7) = .inr (4, [.ref (ad (o2 + 8)), .int nz]) := by rw [e146, va_up_ne _ _ (by omega)]; exact f170
  have f172 : w12 (o2 + 8) = .inl (cI, 24, .inl nc) := by rw [e13, va_up_ne _ _ (by omega)]; exact n_9
  have f173 : w18 (o2 + 8) = .inl (cI, 24, .inl nc) := by rw [e19, va_up_ne _ _ (by omega)]; exact f172
  have f174 : w24 (o2 + 8) = .inl (cI, 24, .inl nc) := by rw [e25, va_up_ne _ _ (by omega)]; exact f173
  have f175 : w30 (o2 + 8) = .inl (cI, 24, .inl nc) := by rw [e31, va_up_ne _ _ (by omega)]; exact f174
  have f176 : w36 (o2 + 8) = .inl (cI, 24, .inl nc) := by rw [e37, va_up_ne _ _ (by omega)]; exact f175
  have f177 : w53 (o2 + 8) = .inl (cI, 24, .inl nc) := by rw [e54, va_up_ne _ _ (by omega)]; exact f176
  have f178 : w73 (o2 + 8) = .inl (cI, 24, .inl nc) := by rw [e74, va_up_ne _ _ (by omega)]; exact f177
  have f179 : w91 (o2 + 8) = .inl (cI, 24, .inl nc) := by rw [e92, va_up_ne _ _ (by omega)]; exact f178
  have f180 : w109 (o2 + 8) = .inl (cI, 24, .inl nc) := by rw [e110, va_up_ne _ _ (by omega)]; exact f179
  have f181 : w127 (o2 + 8) = .inl (cI, 24, .inl nc) := by rw [e128, va_up_ne _ _ (by omega)]; exact f180
  have f182 : w145 (o2 + 8) = .inl (cI, 24, .inl nc) := by rw [e146, va_up_ne _ _ (by omega)]; exact f181
  refine n_Vv (na := 1) (As := [.ref (ad (o2 + 7))]) (rest := []) X hD hN h rfl (c_F_R_become l G cI cB cZ cO ad w145 (b + 7) (o2 + 7) z153 nz nc g158 (by have := isB.lt hbB; omega) (by have := isB.lt ho2; omega) (by omega) f156 f160 f171 f182) ⟨kv_153, kv_154, kv_155, kv_64, kv_156⟩ rfl ⟨by decide, by decide, by decide⟩ ⟨Nat.le_of_ble_eq_true rfl, Nat.le_of_ble_eq_true rfl⟩ ⟨Nat.zero_le _, Nat.zero_le _⟩ (by have := isB.lt hbB; omega) f156 rfl rfl hl.1 rfl (Nat.le_of_ble_eq_true rfl) dX2_become_135 (fun w184 H locs hp185 h => ?_)
  obtain ⟨f186, ⟨g187, f188, hc191⟩, hf190⟩ := hp185
  have p189 : anyA g187 := trivial
  have ok192 : OK cI cB cZ cO ad w184 := OK.two ok148 hf190 (by rw [f186]; exact Eq.mpr (okc_b7 hbB) (sR_mk (by omega) (by omega))) (by rw [f188]; exact Eq.mpr (okc_b8 hbB) (sA_mk p189))
  have kx193 : FR b w w184 := FR.tr kx149 (FR.two hf190 (by omega))
  refine lv_aload_n hx hb dX2_become_138 rfl (lv_at hl 0 rfl) ?_
  have f194 : w184 b = .inr (1, [.int ho, .int so, .int mi, .int ca, .int ja, .ref (ad (b + 1)), .ref (ad (b + 2)), .ref (ad (b + 3)), .ref (ad (b + 4)), .ref (ad (b + 5)), .ref (ad (b + 6)), .ref (ad (b + 7)), .ref (ad (b + 9)), .ref (ad (b + 11))]) := (hf190 b (by omega) (by omega)).trans f150
  refine r_get kc2 X h b 12 (by have := isB.lt hbB; omega) rfl f194 (by decide) kv_66 rfl dX2_become_139 ?_
  refine lv_aload_n hx hb dX2_become_142 rfl (lv_at hl 1 rfl) ?_
  have f195 : w184 o2 = .inr (1, [.int ho, .int so, .int mi, .int ca, .int ja, .ref (ad (o2 + 1)), .ref (ad (o2 + 2)), .ref (ad (o2 + 3)), .ref (ad (o2 + 4)), .ref (ad (o2 + 5)), .ref (ad (o2 + 6)), .ref (ad (o2 + 7)), .ref (ad (o2 + 9)), .ref (ad (o2 + 11))]) := (hf190 o2 (by omega) (by omega)).trans f151
  refine r_get kc2 X h o2 12 (by have := isB.lt ho2; omega) rfl f195 (by decide) kv_66 rfl dX2_become_143 ?_
  obtain ⟨z197, f196, h198, h199⟩ := (show sR ad 4 (b + 10) 6 (w184 (b + 9)) from ok192.b9 hbB)
  have f200 : w184 (b + 9) = .inr (4, [.ref (ad (b + 10)), .int z197]) := f196
  obtain ⟨g202, f201, p203⟩ := (show sA cI 24 (anyA) (w184 (b + 10)) from ok192.b10 hbB)
  have f204 : w184 (b + 10) = .inl (cI, 24, .inl g202) := f201
  have f205 : w12 (o2 + 9) = .inr (4, [.ref (ad (o2 + 10)), .int mz]) := by rw [e13, va_up_ne _ _ (by omega)]; exact n_10
  have f206 : w18 (o2 + 9) = .inr (4, [.ref (ad (o2 + 10)), .int mz]) := by rw [e19, va_up_ne _ _ (by omega)]; exact f205
  have f207 : w24 (o2 + 9) = .inr (4, [.ref (ad (o2 + 10)), .int mz]) := by rw [e25, va_up_ne _ _ (by omega)]; exact f206
  have f208 : w30 (o2 + 9) = .inr (4, [.ref (ad (o2 + 10)), .int mz]) := by rw [e31, va_up_ne _ _ (by omega)]; exact f207
  have f209 : w36 (o2 + 9) = .inr (4, [.ref (ad (o2 + 10)), .int mz]) := by rw [e37, va_up_ne _ _ (by omega)]; exact f208
  have f210 : w53 (o2 + 9) = .inr (4, [.ref (ad (o2 + 10)), .int mz]) := by rw [e54, va_up_ne _ _ (by omega)]; exact f209
  have f211 : w73 (o2 + 9) = .inr (4, [.ref (ad (o2 + 10)), .int mz]) := by rw [e74, va_up_ne _ _ (by omega)]; exact f210
  have f212 : w91 (o2 + 9) = .inr (4, [.ref (ad (o2 + 10)), .int mz]) := by rw [e92, va_up_ne _ _ (by omega)]; exact f211
  have f213 : w109 (o2 + 9) = .inr (4, [.ref (ad (o2 + 10)), .int mz]) := by rw [e110, va_up_ne _ _ (by omega)]; exact f212
  have f214 : w127 (o2 + 9) = .inr (4, [.ref (ad (o2 + 10)), .int mz]) := by rw [e128, va_up_ne _ _ (by omega)]; exact f213
  have f215 : w145 (o2 + 9) = .inr (4, [.ref (ad (o2 + 10)), .int mz]) := by rw [e146, va_up_ne _ _ (by omega)]; exact f214
  have f216 : w184 (o2 + 9) = .inr (4, [.ref (ad (o2 + 10)), .int mz]) := (hf190 (o2 + 9) (by omega) (by omega)).trans f215
  have f217 : w12 (o2 + 10) = .inl (cI, 24, .inl mc) := by rw [e13, va_up_ne _ _ (by omega)]; exact n_11
  have f218 : w18 (o2 + 10) = .inl (cI, 24, .inl mc) := by rw [e19, va_up_ne _ _ (by omega)]; exact f217
  have f219 : w24 (o2 + 10) = .inl (cI, 24, .inl mc) := by rw [e25, va_up_ne _ _ (by omega)]; exact f218
  have f220 : w30 (o2 + 10) = .inl (cI, 24, .inl mc) := by rw [e31, va_up_ne _ _ (by omega)]; exact f219
  have f221 : w36 (o2 + 10) = .inl (cI, 24, .inl mc) := by rw [e37, va_up_ne _ _ (by omega)]; exact f220
  have f222 : w53 (o2 + 10) = .inl (cI, 24, .inl mc) := by rw [e54, va_up_ne _ _ (by omega)]; exact f221
  have f223 : w73 (o2 + 10) = .inl (cI, 24, .inl mc) := by rw [e74, va_up_ne _ _ (by omega)]; exact f222
  have f224 : w91 (o2 + 10) = .inl (cI, 24, .inl mc) := by rw [e92, va_up_ne _ _ (by omega)]; exact f223
  have f225 : w109 (o2 + 10) = .inl (cI, 24, .inl mc) := by rw [e110, va_up_ne _ _ (by omega)]; exact f224
  have f226 : w127 (o2 + 10) = .inl (cI, 24, .inl mc) := by rw [e128, va_up_ne _ _ (by omega)]; exact f225
  have f227 : w145 (o2 + 10) = .inl (cI, 24, .inl mc) := by rw [e146, va_up_ne _ _ (by omega)]; exact f226
  have f228 : w184 (o2 + 10) = .inl (cI, 24, .inl mc) := (hf190 (o2 + 10) (by omega) (by omega)).trans f227
  refine n_Vv (na := 1) (As := [.ref (ad (o2 + 9))]) (rest := []) X hD hN h rfl (c_F_R_become l G cI cB cZ cO ad w184 (b + 9) (o2 + 9) z197 mz mc g202 (by have := isB.lt hbB; omega) (by have := isB.lt ho2; omega) (by omega) f200 f204 f216 f228) ⟨kv_153, kv_154, kv_155, kv_64, kv_156⟩ rfl ⟨by decide, by decide, by decide⟩ ⟨Nat.le_of_ble_eq_true rfl, Nat.le_of_ble_eq_true rfl⟩ ⟨Nat.zero_le _, Nat.zero_le _⟩ (by have := isB.lt hbB; omega) f200 rfl rfl hl.1 rfl (Nat.le_of_ble_eq_true rfl) dX2_become_146 (fun w230 H locs hp231 h => ?_)
  obtain ⟨f232, ⟨g233, f234, hc237⟩, hf236⟩ := hp231
  have p235 : anyA g233 := trivial
  have ok238 : OK cI cB cZ cO ad w230 := OK.two ok192 hf236 (by rw [f232]; exact Eq.mpr (okc_b9 hbB) (sR_mk (by omega) (by omega))) (by rw [f234]; exact Eq.mpr (okc_b10 hbB) (sA_mk p235))
  have kx239 : FR b w w230 := FR.tr kx193 (FR.two hf236 (by omega))
  refine lv_aload_n hx hb dX2_become_149 rfl (lv_at hl 0 rfl) ?_
  have f240 : w230 b = .inr (1, [.int ho, .int so, .int mi, .int ca, .int ja, .ref (ad (b + 1)), .ref (ad (b + 2)), .ref (ad (b + 3)), .ref (ad (b + 4)), .ref (ad (b + 5)), .ref (ad (b + 6)), .ref (ad (b + 7)), .ref (ad (b + 9)), .ref (ad (b + 11))]) := (hf236 b (by omega) (by omega)).trans f194
  refine r_get kc2 X h b 13 (by have := isB.lt hbB; omega) rfl f240 (by decide) kv_67 rfl dX2_become_150 ?_
  refine lv_aload_n hx hb dX2_become_153 rfl (lv_at hl 1 rfl) ?_
  have f241 : w230 o2 = .inr (1, [.int ho, .int so, .int mi, .int ca, .int ja, .ref (ad (o2 + 1)), .ref (ad (o2 + 2)), .ref (ad (o2 + 3)), .ref (ad (o2 + 4)), .ref (ad (o2 + 5)), .ref (ad (o2 + 6)), .ref (ad (o2 + 7)), .ref (ad (o2 + 9)), .ref (ad (o2 + 11))]) := (hf236 o2 (by omega) (by omega)).trans f195
  refine r_get kc2 X h o2 13 (by have := isB.lt ho2; omega) rfl f241 (by decide) kv_67 rfl dX2_become_154 ?_
  obtain ⟨z243, f242, h244, h245⟩ := (show sR ad 2 (b + 12) 8 (w230 (b + 11)) from ok238.b11 hbB)
  have f246 : w230 (b + 11) = .inr (2, [.ref (ad (b + 12)), .int z243]) := f242
  obtain ⟨g248, f247, p249⟩ := (show sA cI 88 (pastA) (w230 (b + 12)) from ok238.b12 hbB)
  have f250 : w230 (b + 12) = .inl (cI, 88, .inl g248) := f247
  obtain ⟨z252, f251, h253, h254⟩ := (show sR ad 2 (o2 + 12) 8 (w230 (o2 + 11)) from ok238.b11 ho2)
  have f255 : w230 (o2 + 11) = .inr (2, [.ref (ad (o2 + 12)), .int z252]) := f251
  obtain ⟨g257, f256, p258⟩ := (show sA cI 88 (pastA) (w230 (o2 + 12)) from ok238.b12 ho2)
  have f259 : w230 (o2 + 12) = .inl (cI, 88, .inl g257) := f256
  refine n_Vv (na := 1) (As := [.ref (ad (o2 + 11))]) (rest := []) X hD hN h rfl (c_P_become l G cI cB cZ cO ad w230 (b + 11) (o2 + 11) z243 z252 g257 g248 (by have := isB.lt hbB; omega) (by have := isB.lt ho2; omega) (by omega) f246 f250 f255 f259 p258 p249) ⟨kv_157, kv_158, kv_159, kv_71, kv_160⟩ rfl ⟨by decide, by decide, by decide⟩ ⟨Nat.le_of_ble_eq_true rfl, Nat.le_of_ble_eq_true rfl⟩ ⟨Nat.zero_le _, Nat.zero_le _⟩ (by have := isB.lt hbB; omega) f246 rfl rfl hl.1 rfl (Nat.le_of_ble_eq_true rfl) dX2_become_157 (fun w261 H locs hp262 h => ?_)
  obtain ⟨f263, ⟨g264, f265, p266⟩, hf267⟩ := hp262
  have ok268 : OK cI cB cZ cO ad w261 := OK.two ok238 hf267 (by rw [f263]; exact Eq.mpr (okc_b11 hbB) (sR_mk (by omega) (by omega))) (by rw [f265]; exact Eq.mpr (okc_b12 hbB) (sA_mk p266))
  have kx269 : FR b w w261 := FR.tr kx239 (FR.two hf267 (by omega))
  have f270 : w261 b = .inr (1, [.int ho, .int so, .int mi, .int ca, .int ja, .ref (ad (b + 1)), .ref (ad (b + 2)), .ref (ad (b + 3)), .ref (ad (b + 4)), .ref (ad (b + 5)), .ref (ad (b + 6)), .ref (ad (b + 7)), .ref (ad (b + 9)), .ref (ad (b + 11))]) := (hf267 b (by omega) (by omega)).trans f240
  have f271 : w91 (b + 2) = .inl (cI, 7, .inl g70) := by rw [e92, va_up_ne _ _ (by omega)]; exact f75
  have f272 : w109 (b + 2) = .inl (cI, 7, .inl g70) := by rw [e110, va_up_ne _ _ (by omega)]; exact f271
  have f273 : w127 (b + 2) = .inl (cI, 7, .inl g70) := by rw [e128, va_up_ne _ _ (by omega)]; exact f272
  have f274 : w145 (b + 2) = .inl (cI, 7, .inl g70) := by rw [e146, va_up_ne _ _ (by omega)]; exact f273
  have f275 : w184 (b + 2) = .inl (cI, 7, .inl g70) := (hf190 (b + 2) (by omega) (by omega)).trans f274
  have f276 : w230 (b + 2) = .inl (cI, 7, .inl g70) := (hf236 (b + 2) (by omega) (by omega)).trans f275
  have f277 : w261 (b + 2) = .inl (cI, 7, .inl g70) := (hf267 (b + 2) (by omega) (by omega)).trans f276
  have f278 : w230 (b + 7) = .inr (4, [.ref (ad (b + 8)), .int nz]) := (hf236 (b + 7) (by omega) (by omega)).trans f186
  have f279 : w261 (b + 7) = .inr (4, [.ref (ad (b + 8)), .int nz]) := (hf267 (b + 7) (by omega) (by omega)).trans f278
  have f280 : w230 (b + 8) = .inl (cI, 24, .inl g187) := (hf236 (b + 8) (by omega) (by omega)).trans f188
  have f281 : w261 (b + 8) = .inl (cI, 24, .inl g187) := (hf267 (b + 8) (by omega) (by omega)).trans f280
  have f282 : w261 (b + 9) = .inr (4, [.ref (ad (b + 10)), .int mz]) := (hf267 (b + 9) (by omega) (by omega)).trans f232
  have f283 : w261 (b + 10) = .inl (cI, 24, .inl g233) := (hf267 (b + 10) (by omega) (by omega)).trans f234
  exact e_v X h hr hlk dX2_become_160 ⟨ok268, kx269, ⟨_, _, _, ⟨by rw [f270]; rfl, f277, f279, f281, f282, f283⟩, (fun j hj => by rw [← e71, pk_cpy_in (Nat.zero_le _) (by omega)]; congr 1; omega), hc191, hc237⟩⟩

set_option maxHeartbeats 4000000 in
set_option maxRecDepth 100000 in
theorem c_F_image0 (l : Launch) (G : va_G) (cI cB cZ cO : ClassId) (ad : Nat → Nat) (w : Nat → va_E) (ho so mi ca ja nz mz : Int32) (hh nc mc : Nat → Int32) (f : Nat → Int32) (ok : OK cI cB cZ cO ad w)   (n_1 : w 1 = .inr (1, [.int ho, .int so, .int mi, .int ca, .int ja, .ref (ad 2), .ref (ad 3), .ref (ad 4), .ref (ad 5), .ref (ad 6), .ref (ad 7), .ref (ad 8), .ref (ad 10), .ref (ad 12)])) (n_3 : w 3 = .inl (cI, 7, .inl hh)) (n_8 : w 8 = .inr (4, [.ref (ad 9), .int nz])) (n_9 : w 9 = .inl (cI, 24, .inl nc)) (n_10 : w 10 = .inr (4, [.ref (ad 11), .int mz])) (n_11 : w 11 = .inl (cI, 24, .inl mc)) (hrn : rgA 0 9 hh) (hca : 0 ≤ ca.toInt ∧ ca.toInt ≤ 7) (hja : 0 ≤ ja.toInt ∧ ja.toInt ≤ 4) (hnz : 0 ≤ nz.toInt ∧ nz.toInt ≤ 6) (hmz : 0 ≤ mz.toInt ∧ mz.toInt ≤ 6) (pf : w 54 = .inl (cZ, 2, .inl f)) (pr : rgA 0 1 f) : NI l G (tyq cI cB cZ cO) yX8_image cX8_image 2 (some .int) 3 82 74 ad w [.ref (ad 0), .int 0] (fun r w1 => OK cI cB cZ cO ad w1 ∧ KI w w1 ∧ r = 1 ∧ w1 54 = .inl (cZ, 2, .inl (upd f 0 1)) ∧ (∀ q, (q < 28 ∨ 28 + 13 ≤ q) → q ≠ 54 → w1 q = w q) ∧ ∃ hh1 nc1 mc1 : Nat → Int32, IV cI ad 28 w1 ca ja nz mz hh1 nc1 mc1 ∧ (∀ j, j < 7 → hh1 j = hh j) ∧ (∀ j, j < 24 → nc1 j = nc j) ∧ (∀ j, j < 24 → mc1 j = mc j)) := by
  refine nk_i (own := "NoonShade") rfl (by decide) (Nat.le_of_ble_eq_true rfl) ?_
  intro p e s m below meth c ls X hD hN hr hlk h hl
  have hx := X.1.1
  have hb := X.1.2.1
  have hown := X.1.2.2.2.1
  have hts := X.1.2.2.2.2
  have hl : lv_has ls 2 [(0, .ref (ad 0)), (1, .int 0)] := hl
  have hca0 := hca.1
  have hca1 := hca.2
  have hja0 := hja.1
  have hja1 := hja.2
  have hnz0 := hnz.1
  have hnz1 := hnz.2
  have hmz0 := hmz.1
  have hmz1 := hmz.2
  refine lv_iload_n hx hb dX8_image_0 rfl (lv_at hl 1 rfl) ?_
  refine lv_iconst (v := 0) hx hb dX8_image_1 (by decide) ?_
  refine lv_iconst (v := 1) hx hb dX8_image_2 (by decide) ?_
  refine n_Si (na := 3) (As := [.int 0, .int 0, .int 1]) (rest := []) X hD hN h (c_within l G cI cB cZ cO ad w (0 : Int32) (0 : Int32) (1 : Int32) 0 0 1 rfl rfl rfl) ⟨kv_247, kv_248, kv_212, kv_249⟩ ⟨by decide, by decide, by decide⟩ ⟨Nat.le_of_ble_eq_true rfl, Nat.le_of_ble_eq_true rfl⟩ ⟨Nat.zero_le _, Nat.zero_le _⟩ rfl hl.1 rfl (Nat.le_of_ble_eq_true rfl) dX8_image_3 (fun r1 w2 H locs hp3 h => ?_)
  obtain ⟨rfl, hq4⟩ := hp3
  rcases hq4 with ⟨hq5, hq6, rfl⟩ | ⟨hq4, rfl⟩
  · refine lv_if_ne (tgt := 16) hx hb dX8_image_6 (by decide) (fun _ => ?_) (fun hc => absurd hc (by decide))
    refine lv_aload_n hx hb dX8_image_16 rfl (lv_at hl 0 rfl) ?_
    obtain ⟨x8, x9, q10, q11, q12, f7⟩ := (show sN ad (w 0) from ok 0 (by decide))
    have f13 : w 0 = .inr (6, [.ref (ad 1), .ref (ad 14), .ref (ad 27), .ref (ad 54), .ref (ad 55), .ref (ad 58), .ref (ad 62), .long x8, .long x9, .int q10, .int q11, .int q12]) := f7
    refine r_get kc8 X h 0 2 (by decide) rfl f13 (by decide) kv_464 rfl dX8_image_17 ?_
    refine lv_iload_n hx hb dX8_image_20 rfl (lv_at hl 1 rfl) ?_
    have f14 : w 27 = .inl (cO, 2, .inr (.inr (.inr (.inr (fun k => if k = 0 then some (ad 28) else if k = 1 then some (ad 41) else none))))) := ok 27 (by decide)
    have f15 : w 27 = .inl (cO, 2, .inr (.inr (.inr (.inr (fun k => if k = 0 then some (ad 28) else if k = 1 then some (ad 41) else none))))) := f14
    refine r_aald X h 27 3 (by decide) rfl f15 rfl (by unfold vp_in; decide) rfl dX8_image_21 ?_
    refine lv_aload_n hx hb dX8_image_22 rfl (lv_at hl 0 rfl) ?_
    refine r_get kc8 X h 0 0 (by decide) rfl f13 (by decide) kv_172 rfl dX8_image_23 ?_
    obtain ⟨q20, q21, q22, q23, q24, f19, h25, h26, h27, h28⟩ := (show sI ad 28 (w 28) from ok 28 (by decide))
    have f29 : w 28 = .inr (1, [.int q20, .int q21, .int q22, .int q23, .int q24, .ref (ad 29), .ref (ad 30), .ref (ad 31), .ref (ad 32), .ref (ad 33), .ref (ad 34), .ref (ad 35), .ref (ad 37), .ref (ad 39)]) := f19
    refine n_Vv (na := 1) (As := [.ref (ad 1)]) (rest := []) X hD hN h rfl (c_F_become l G cI cB cZ cO ad w 28 1 (Or.inr (Or.inr (Or.inl rfl))) (Or.inl rfl) (by omega) ho so mi ca ja nz mz hh nc mc ok n_1 n_3 n_8 n_9 n_10 n_11 hrn ⟨by omega, by omega⟩ ⟨by omega, by omega⟩ ⟨by omega, by omega⟩ ⟨by omega, by omega⟩) ⟨kv_307, kv_308, kv_309, kv_37, kv_310⟩ rfl ⟨by decide, by decide, by decide⟩ ⟨Nat.le_of_ble_eq_true rfl, Nat.le_of_ble_eq_true rfl⟩ ⟨Nat.zero_le _, Nat.zero_le _⟩ (by decide) f29 rfl rfl hl.1 rfl (Nat.le_of_ble_eq_true rfl) dX8_image_26 (fun w17 H locs hp18 h => ?_)
    obtain ⟨ok30, kk31, hr32⟩ := hp18
    have kx33 : KI w w17 := (KT.i (FR.t (Or.inr (Or.inr (Or.inl rfl))) kk31))
    refine lv_aload_n hx hb dX8_image_29 rfl (lv_at hl 0 rfl) ?_
    have f34 : w17 0 = .inr (6, [.ref (ad 1), .ref (ad 14), .ref (ad 27), .ref (ad 54), .ref (ad 55), .ref (ad 58), .ref (ad 62), .long x8, .long x9, .int q10, .int q11, .int q12]) := (kk31 0 (by decide)).trans f13
    refine r_get kc8 X h 0 3 (by decide) rfl f34 (by decide) kv_465 rfl dX8_image_30 ?_
    refine lv_iload_n hx hb dX8_image_33 rfl (lv_at hl 1 rfl) ?_
    refine lv_iconst (v := 1) hx hb dX8_image_34 (by decide) ?_
    have f35 : w17 54 = .inl (cZ, 2, .inl f) := (kk31 54 (by decide)).trans pf
    obtain ⟨g36, e37⟩ : ∃ z : Nat → Int32, upd f 0 (vp_nar .boolean (1 : Int32)) = z := ⟨_, rfl⟩
    have p38 : rgA 0 1 g36 := rgA_upd pr e37 (by decide) (by decide)
    refine o_zast (f1 := g36) X hD h 54 2 (by decide) rfl f35 rfl (by unfold vp_in; decide) e37 dX8_image_35 (fun H locs w39 e40 h => ?_)
    have f41 : w39 54 = .inl (cZ, 2, .inl g36) := (congrFun e40 _).trans (va_up_self _ _ _)
    have ok42 : OK cI cB cZ cO ad w39 := OK.up ok30 e40 (sA_mk p38)
    have kx43 : KI w w39 := KI.up kx33 e40 f35 (Or.inl rfl)
    refine lv_iconst (v := 1) hx hb dX8_image_36 (by decide) ?_
    have him44 : ∃ hh1 nc1 mc1 : Nat → Int32, IV cI ad 28 w39 ca ja nz mz hh1 nc1 mc1 ∧ (∀ j, j < 7 → hh1 j = hh j) ∧ (∀ j, j < 24 → nc1 j = nc j) ∧ (∀ j, j < 24 → mc1 j = mc j) := by
      obtain ⟨g1, g2, g3, iv9, e1, e2, e3⟩ := hr32
      exact ⟨g1, g2, g3, iv9.same (fun q9 a9 b9 => by rw [e40, va_up_ne _ _ (by omega)]), e1, e2, e3⟩
    exact e_i X h hr hlk dX8_image_37 ⟨ok42, kx43, ⟨rfl, by rw [f41, ← e37]; first | rfl | (congr 3), fun q9 a9 b9 => by rw [e40, va_up_ne _ _ b9]; exact kk31 q9 (by omega), him44⟩⟩
  · exfalso; omega

set_option maxHeartbeats 4000000 in
set_option maxRecDepth 100000 in
theorem c_F_from0 (l : Launch) (G : va_G) (cI cB cZ cO : ClassId) (ad : Nat → Nat) (w : Nat → va_E) (ho so mi ca ja nz mz : Int32) (hh nc mc : Nat → Int32) (f : Nat → Int32) (ok : OK cI cB cZ cO ad w)   (n_1 : w 28 = .inr (1, [.int ho, .int so, .int mi, .int ca, .int ja, .ref (ad 29), .ref (ad 30), .ref (ad 31), .ref (ad 32), .ref (ad 33), .ref (ad 34), .ref (ad 35), .ref (ad 37), .ref (ad 39)])) (n_3 : w 30 = .inl (cI, 7, .inl hh)) (n_8 : w 35 = .inr (4, [.ref (ad 36), .int nz])) (n_9 : w 36 = .inl (cI, 24, .inl nc)) (n_10 : w 37 = .inr (4, [.ref (ad 38), .int mz])) (n_11 : w 38 = .inl (cI, 24, .inl mc)) (hrn : rgA 0 9 hh) (hca : 0 ≤ ca.toInt ∧ ca.toInt ≤ 7) (hja : 0 ≤ ja.toInt ∧ ja.toInt ≤ 4) (hnz : 0 ≤ nz.toInt ∧ nz.toInt ≤ 6) (hmz : 0 ≤ mz.toInt ∧ mz.toInt ≤ 6) (pf : w 54 = .inl (cZ, 2, .inl f)) (pr : rgA 0 1 f) : NI l G (tyq cI cB cZ cO) yX8_from cX8_from 2 (some .int) 3 82 74 ad w [.ref (ad 0), .int 0] (fun r w1 => OK cI cB cZ cO ad w1 ∧ KT w w1 ∧ (((f 0).toInt = 0 ∧ KX w w1 ∧ r = -3) ∨ (¬ (f 0).toInt = 0 ∧ FR 1 w w1 ∧ r = 1 ∧ ∃ hh1 nc1 mc1 : Nat → Int32, IV cI ad 1 w1 ca ja nz mz hh1 nc1 mc1 ∧ (∀ j, j < 7 → hh1 j = hh j) ∧ (∀ j, j < 24 → nc1 j = nc j) ∧ (∀ j, j < 24 → mc1 j = mc j)))) := by
  refine nk_i (own := "NoonShade") rfl (by decide) (Nat.le_of_ble_eq_true rfl) ?_
  intro p e s m below meth c ls X hD hN hr hlk h hl
  have hx := X.1.1
  have hb := X.1.2.1
  have hown := X.1.2.2.2.1
  have hts := X.1.2.2.2.2
  have hl : lv_has ls 2 [(0, .ref (ad 0)), (1, .int 0)] := hl
  have hca0 := hca.1
  have hca1 := hca.2
  have hja0 := hja.1
  have hja1 := hja.2
  have hnz0 := hnz.1
  have hnz1 := hnz.2
  have hmz0 := hmz.1
  have hmz1 := hmz.2
  refine lv_iload_n hx hb dX8_from_0 rfl (lv_at hl 1 rfl) ?_
  refine lv_iconst (v := 0) hx hb dX8_from_1 (by decide) ?_
  refine lv_iconst (v := 1) hx hb dX8_from_2 (by decide) ?_
  refine n_Si (na := 3) (As := [.int 0, .int 0, .int 1]) (rest := []) X hD hN h (c_within l G cI cB cZ cO ad w (0 : Int32) (0 : Int32) (1 : Int32) 0 0 1 rfl rfl rfl) ⟨kv_247, kv_248, kv_212, kv_249⟩ ⟨by decide, by decide, by decide⟩ ⟨Nat.le_of_ble_eq_true rfl, Nat.le_of_ble_eq_true rfl⟩ ⟨Nat.zero_le _, Nat.zero_le _⟩ rfl hl.1 rfl (Nat.le_of_ble_eq_true rfl) dX8_from_3 (fun r1 w2 H locs hp3 h => ?_)
  obtain ⟨rfl, hq4⟩ := hp3
  rcases hq4 with ⟨hq5, hq6, rfl⟩ | ⟨hq4, rfl⟩
  · refine lv_if_ne (tgt := 16) hx hb dX8_from_6 (by decide) (fun _ => ?_) (fun hc => absurd hc (by decide))
    refine lv_aload_n hx hb dX8_from_16 rfl (lv_at hl 0 rfl) ?_
    obtain ⟨x8, x9, q10, q11, q12, f7⟩ := (show sN ad (w 0) from ok 0 (by decide))
    have f13 : w 0 = .inr (6, [.ref (ad 1), .ref (ad 14), .ref (ad 27), .ref (ad 54), .ref (ad 55), .ref (ad 58), .ref (ad 62), .long x8, .long x9, .int q10, .int q11, .int q12]) := f7
    refine r_get kc8 X h 0 3 (by decide) rfl f13 (by decide) kv_465 rfl dX8_from_17 ?_
    refine lv_iload_n hx hb dX8_from_20 rfl (lv_at hl 1 rfl) ?_
    obtain ⟨v14, e15⟩ : ∃ z : Int32, f 0 = z := ⟨_, rfl⟩
    have h16 := rgA_rd pr e15
    refine o_zald (v := v14) X h 54 2 (by decide) rfl pf rfl (by unfold vp_in; decide) e15 dX8_from_21 ?_
    refine lv_if_ne (tgt := 32) hx hb dX8_from_22 (by decide) (fun hc17 => ?_) (fun hc17 => ?_)
    · have hc17 : ¬ (v14).toInt = 0 := i_ne hc17 rfl rfl
      refine lv_aload_n hx hb dX8_from_32 rfl (lv_at hl 0 rfl) ?_
      refine r_get kc8 X h 0 0 (by decide) rfl f13 (by decide) kv_172 rfl dX8_from_33 ?_
      refine lv_aload_n hx hb dX8_from_36 rfl (lv_at hl 0 rfl) ?_
      refine r_get kc8 X h 0 2 (by decide) rfl f13 (by decide) kv_464 rfl dX8_from_37 ?_
      refine lv_iload_n hx hb dX8_from_40 rfl (lv_at hl 1 rfl) ?_
      have f18 : w 27 = .inl (cO, 2, .inr (.inr (.inr (.inr (fun k => if k = 0 then some (ad 28) else if k = 1 then some (ad 41) else none))))) := ok 27 (by decide)
      have f19 : w 27 = .inl (cO, 2, .inr (.inr (.inr (.inr (fun k => if k = 0 then some (ad 28) else if k = 1 then some (ad 41) else none))))) := f18
      refine r_aald X h 27 3 (by decide) rfl f19 rfl (by unfold vp_in; decide) rfl dX8_from_41 ?_
      obtain ⟨q24, q25, q26, q27, q28, f23, h29, h30, h31, h32⟩ := (show sI ad 1 (w 1) from ok 1 (by decide))
      have f33 : w 1 = .inr (1, [.int q24, .int q25, .int q26, .int q27, .int q28, .ref (ad 2), .ref (ad 3), .ref (ad 4), .ref (ad 5), .ref (ad 6), .ref (ad 7), .ref (ad 8), .ref (ad 10), .ref (ad 12)]) := f23
      refine n_Vv (na := 1) (As := [.ref (ad 28)]) (rest := []) X hD hN h rfl (c_F_become l G cI cB cZ cO ad w 1 28 (Or.inl rfl) (Or.inr (Or.inr (Or.inl rfl))) (by omega) ho so mi ca ja nz mz hh nc mc ok n_1 n_3 n_8 n_9 n_10 n_11 hrn ⟨by omega, by omega⟩ ⟨by omega, by omega⟩ ⟨by omega, by omega⟩ ⟨by omega, by omega⟩) ⟨kv_307, kv_308, kv_309, kv_37, kv_310⟩ rfl ⟨by decide, by decide, by decide⟩ ⟨Nat.le_of_ble_eq_true rfl, Nat.le_of_ble_eq_true rfl⟩ ⟨Nat.zero_le _, Nat.zero_le _⟩ (by decide) f33 rfl rfl hl.1 rfl (Nat.le_of_ble_eq_true rfl) dX8_from_42 (fun w21 H locs hp22 h => ?_)
      obtain ⟨ok34, kk35, hr36⟩ := hp22
      have kx37 : KT w w21 := (FR.t (Or.inl rfl) kk35)
      refine lv_iconst (v := 1) hx hb dX8_from_45 (by decide) ?_
      exact e_i X h hr hlk dX8_from_46 ⟨ok34, kx37, Or.inr ⟨by rw [e15]; omega, (FR.tr FR.rf kk35), rfl, hr36⟩⟩
    · have hc17 : (v14).toInt = 0 := i_eq hc17 rfl rfl
      refine lv_aload_n hx hb dX8_from_25 rfl (lv_at hl 0 rfl) ?_
      refine lv_bipush (v := (-3)) hx hb dX8_from_26 (by decide) ?_
      refine n_Vi (na := 1) (As := [.int (-3)]) (rest := []) X hD hN h rfl (c_refused l G cI cB cZ cO ad w  ok ((-3) : Int32)  ) ⟨kv_227, kv_228, kv_229, kv_212, kv_230⟩ rfl ⟨by decide, by decide, by decide⟩ ⟨Nat.le_of_ble_eq_true rfl, Nat.le_of_ble_eq_true rfl⟩ ⟨Nat.zero_le _, Nat.zero_le _⟩ (by decide) f13 rfl rfl hl.1 rfl (Nat.le_of_ble_eq_true rfl) dX8_from_28 (fun r38 w39 H locs hp40 h => ?_)
      have kX41 : KX w w39 := hp40.2.1
      obtain ⟨ok44, kk45, hr43⟩ := hp40
      have kx46 : KT w w39 := kk45.t
      subst hr43
      exact e_i X h hr hlk dX8_from_31 ⟨ok44, kx46, Or.inl ⟨by rw [e15]; omega, kX41, rfl⟩⟩
  · exfalso; omega

set_option maxHeartbeats 4000000 in
set_option maxRecDepth 100000 in
theorem c_F_image1 (l : Launch) (G : va_G) (cI cB cZ cO : ClassId) (ad : Nat → Nat) (w : Nat → va_E) (ho so mi ca ja nz mz : Int32) (hh nc mc : Nat → Int32) (f : Nat → Int32) (ok : OK cI cB cZ cO ad w)   (n_1 : w 1 = .inr (1, [.int ho, .int so, .int mi, .int ca, .int ja, .ref (ad 2), .ref (ad 3), .ref (ad 4), .ref (ad 5), .ref (ad 6), .ref (ad 7), .ref (ad 8), .ref (ad 10), .ref (ad 12)])) (n_3 : w 3 = .inl (cI, 7, .inl hh)) (n_8 : w 8 = .inr (4, [.ref (ad 9), .int nz])) (n_9 : w 9 = .inl (cI, 24, .inl nc)) (n_10 : w 10 = .inr (4, [.ref (ad 11), .int mz])) (n_11 : w 11 = .inl (cI, 24, .inl mc)) (hrn : rgA 0 9 hh) (hca : 0 ≤ ca.toInt ∧ ca.toInt ≤ 7) (hja : 0 ≤ ja.toInt ∧ ja.toInt ≤ 4) (hnz : 0 ≤ nz.toInt ∧ nz.toInt ≤ 6) (hmz : 0 ≤ mz.toInt ∧ mz.toInt ≤ 6) (pf : w 54 = .inl (cZ, 2, .inl f)) (pr : rgA 0 1 f) : NI l G (tyq cI cB cZ cO) yX8_image cX8_image 2 (some .int) 3 82 74 ad w [.ref (ad 0), .int 1] (fun r w1 => OK cI cB cZ cO ad w1 ∧ KI w w1 ∧ r = 1 ∧ w1 54 = .inl (cZ, 2, .inl (upd f 1 1)) ∧ (∀ q, (q < 41 ∨ 41 + 13 ≤ q) → q ≠ 54 → w1 q = w q) ∧ ∃ hh1 nc1 mc1 : Nat → Int32, IV cI ad 41 w1 ca ja nz mz hh1 nc1 mc1 ∧ (∀ j, j < 7 → hh1 j = hh j) ∧ (∀ j, j < 24 → nc1 j = nc j) ∧ (∀ j, j < 24 → mc1 j = mc j)) := by
  refine nk_i (own := "NoonShade") rfl (by decide) (Nat.le_of_ble_eq_true rfl) ?_
  intro p e s m below meth c ls X hD hN hr hlk h hl
  have hx := X.1.1
  have hb := X.1.2.1
  have hown := X.1.2.2.2.1
  have hts := X.1.2.2.2.2
  have hl : lv_has ls 2 [(0, .ref (ad 0)), (1, .int 1)] := hl
  have hca0 := hca.1
  have hca1 := hca.2
  have hja0 := hja.1
  have hja1 := hja.2
  have hnz0 := hnz.1
  have hnz1 := hnz.2
  have hmz0 := hmz.1
  have hmz1 := hmz.2
  refine lv_iload_n hx hb dX8_image_0 rfl (lv_at hl 1 rfl) ?_
  refine lv_iconst (v := 0) hx hb dX8_image_1 (by decide) ?_
  refine lv_iconst (v := 1) hx hb dX8_image_2 (by decide) ?_
  refine n_Si (na := 3) (As := [.int 1, .int 0, .int 1]) (rest := []) X hD hN h (c_within l G cI cB cZ cO ad w (1 : Int32) (0 : Int32) (1 : Int32) 1 0 1 rfl rfl rfl) ⟨kv_247, kv_248, kv_212, kv_249⟩ ⟨by decide, by decide, by decide⟩ ⟨Nat.le_of_ble_eq_true rfl, Nat.le_of_ble_eq_true rfl⟩ ⟨Nat.zero_le _, Nat.zero_le _⟩ rfl hl.1 rfl (Nat.le_of_ble_eq_true rfl) dX8_image_3 (fun r1 w2 H locs hp3 h => ?_)
  obtain ⟨rfl, hq4⟩ := hp3
  rcases hq4 with ⟨hq5, hq6, rfl⟩ | ⟨hq4, rfl⟩
  · refine lv_if_ne (tgt := 16) hx hb dX8_image_6 (by decide) (fun _ => ?_) (fun hc => absurd hc (by decide))
    refine lv_aload_n hx hb dX8_image_16 rfl (lv_at hl 0 rfl) ?_
    obtain ⟨x8, x9, q10, q11, q12, f7⟩ := (show sN ad (w 0) from ok 0 (by decide))
    have f13 : w 0 = .inr (6, [.ref (ad 1), .ref (ad 14), .ref (ad 27), .ref (ad 54), .ref (ad 55), .ref (ad 58), .ref (ad 62), .long x8, .long x9, .int q10, .int q11, .int q12]) := f7
    refine r_get kc8 X h 0 2 (by decide) rfl f13 (by decide) kv_464 rfl dX8_image_17 ?_
    refine lv_iload_n hx hb dX8_image_20 rfl (lv_at hl 1 rfl) ?_
    have f14 : w 27 = .inl (cO, 2, .inr (.inr (.inr (.inr (fun k => if k = 0 then some (ad 28) else if k = 1 then some (ad 41) else none))))) := ok 27 (by decide)
    have f15 : w 27 = .inl (cO, 2, .inr (.inr (.inr (.inr (fun k => if k = 0 then some (ad 28) else if k = 1 then some (ad 41) else none))))) := f14
    refine r_aald X h 27 3 (by decide) rfl f15 rfl (by unfold vp_in; decide) rfl dX8_image_21 ?_
    refine lv_aload_n hx hb dX8_image_22 rfl (lv_at hl 0 rfl) ?_
    refine r_get kc8 X h 0 0 (by decide) rfl f13 (by decide) kv_172 rfl dX8_image_23 ?_
    obtain ⟨q20, q21, q22, q23, q24, f19, h25, h26, h27, h28⟩ := (show sI ad 41 (w 41) from ok 41 (by decide))
    have f29 : w 41 = .inr (1, [.int q20, .int q21, .int q22, .int q23, .int q24, .ref (ad 42), .ref (ad 43), .ref (ad 44), .ref (ad 45), .ref (ad 46), .ref (ad 47), .ref (ad 48), .ref (ad 50), .ref (ad 52)]) := f19
    refine n_Vv (na := 1) (As := [.ref (ad 1)]) (rest := []) X hD hN h rfl (c_F_become l G cI cB cZ cO ad w 41 1 (Or.inr (Or.inr (Or.inr rfl))) (Or.inl rfl) (by omega) ho so mi ca ja nz mz hh nc mc ok n_1 n_3 n_8 n_9 n_10 n_11 hrn ⟨by omega, by omega⟩ ⟨by omega, by omega⟩ ⟨by omega, by omega⟩ ⟨by omega, by omega⟩) ⟨kv_307, kv_308, kv_309, kv_37, kv_310⟩ rfl ⟨by decide, by decide, by decide⟩ ⟨Nat.le_of_ble_eq_true rfl, Nat.le_of_ble_eq_true rfl⟩ ⟨Nat.zero_le _, Nat.zero_le _⟩ (by decide) f29 rfl rfl hl.1 rfl (Nat.le_of_ble_eq_true rfl) dX8_image_26 (fun w17 H locs hp18 h => ?_)
    obtain ⟨ok30, kk31, hr32⟩ := hp18
    have kx33 : KI w w17 := (KT.i (FR.t (Or.inr (Or.inr (Or.inr rfl))) kk31))
    refine lv_aload_n hx hb dX8_image_29 rfl (lv_at hl 0 rfl) ?_
    have f34 : w17 0 = .inr (6, [.ref (ad 1), .ref (ad 14), .ref (ad 27), .ref (ad 54), .ref (ad 55), .ref (ad 58), .ref (ad 62), .long x8, .long x9, .int q10, .int q11, .int q12]) := (kk31 0 (by decide)).trans f13
    refine r_get kc8 X h 0 3 (by decide) rfl f34 (by decide) kv_465 rfl dX8_image_30 ?_
    refine lv_iload_n hx hb dX8_image_33 rfl (lv_at hl 1 rfl) ?_
    refine lv_iconst (v := 1) hx hb dX8_image_34 (by decide) ?_
    have f35 : w17 54 = .inl (cZ, 2, .inl f) := (kk31 54 (by decide)).trans pf
    obtain ⟨g36, e37⟩ : ∃ z : Nat → Int32, upd f 1 (vp_nar .boolean (1 : Int32)) = z := ⟨_, rfl⟩
    have p38 : rgA 0 1 g36 := rgA_upd pr e37 (by decide) (by decide)
    refine o_zast (f1 := g36) X hD h 54 2 (by decide) rfl f35 rfl (by unfold vp_in; decide) e37 dX8_image_35 (fun H locs w39 e40 h => ?_)
    have f41 : w39 54 = .inl (cZ, 2, .inl g36) := (congrFun e40 _).trans (va_up_self _ _ _)
    have ok42 : OK cI cB cZ cO ad w39 := OK.up ok30 e40 (sA_mk p38)
    have kx43 : KI w w39 := KI.up kx33 e40 f35 (Or.inl rfl)
    refine lv_iconst (v := 1) hx hb dX8_image_36 (by decide) ?_
    have him44 : ∃ hh1 nc1 mc1 : Nat → Int32, IV cI ad 41 w39 ca ja nz mz hh1 nc1 mc1 ∧ (∀ j, j < 7 → hh1 j = hh j) ∧ (∀ j, j < 24 → nc1 j = nc j) ∧ (∀ j, j < 24 → mc1 j = mc j) := by
      obtain ⟨g1, g2, g3, iv9, e1, e2, e3⟩ := hr32
      exact ⟨g1, g2, g3, iv9.same (fun q9 a9 b9 => by rw [e40, va_up_ne _ _ (by omega)]), e1, e2, e3⟩
    exact e_i X h hr hlk dX8_image_37 ⟨ok42, kx43, ⟨rfl, by rw [f41, ← e37]; first | rfl | (congr 3), fun q9 a9 b9 => by rw [e40, va_up_ne _ _ b9]; exact kk31 q9 (by omega), him44⟩⟩
  · exfalso; omega

set_option maxHeartbeats 4000000 in
set_option maxRecDepth 100000 in
theorem c_F_from1 (l : Launch) (G : va_G) (cI cB cZ cO : ClassId) (ad : Nat → Nat) (w : Nat → va_E) (ho so mi ca ja nz mz : Int32) (hh nc mc : Nat → Int32) (f : Nat → Int32) (ok : OK cI cB cZ cO ad w)   (n_1 : w 41 = .inr (1, [.int ho, .int so, .int mi, .int ca, .int ja, .ref (ad 42), .ref (ad 43), .ref (ad 44), .ref (ad 45), .ref (ad 46), .ref (ad 47), .ref (ad 48), .ref (ad 50), .ref (ad 52)])) (n_3 : w 43 = .inl (cI, 7, .inl hh)) (n_8 : w 48 = .inr (4, [.ref (ad 49), .int nz])) (n_9 : w 49 = .inl (cI, 24, .inl nc)) (n_10 : w 50 = .inr (4, [.ref (ad 51), .int mz])) (n_11 : w 51 = .inl (cI, 24, .inl mc)) (hrn : rgA 0 9 hh) (hca : 0 ≤ ca.toInt ∧ ca.toInt ≤ 7) (hja : 0 ≤ ja.toInt ∧ ja.toInt ≤ 4) (hnz : 0 ≤ nz.toInt ∧ nz.toInt ≤ 6) (hmz : 0 ≤ mz.toInt ∧ mz.toInt ≤ 6) (pf : w 54 = .inl (cZ, 2, .inl f)) (pr : rgA 0 1 f) : NI l G (tyq cI cB cZ cO) yX8_from cX8_from 2 (some .int) 3 82 74 ad w [.ref (ad 0), .int 1] (fun r w1 => OK cI cB cZ cO ad w1 ∧ KT w w1 ∧ (((f 1).toInt = 0 ∧ KX w w1 ∧ r = -3) ∨ (¬ (f 1).toInt = 0 ∧ FR 1 w w1 ∧ r = 1 ∧ ∃ hh1 nc1 mc1 : Nat → Int32, IV cI ad 1 w1 ca ja nz mz hh1 nc1 mc1 ∧ (∀ j, j < 7 → hh1 j = hh j) ∧ (∀ j, j < 24 → nc1 j = nc j) ∧ (∀ j, j < 24 → mc1 j = mc j)))) := by
  refine nk_i (own := "NoonShade") rfl (by decide) (Nat.le_of_ble_eq_true rfl) ?_
  intro p e s m below meth c ls X hD hN hr hlk h hl
  have hx := X.1.1
  have hb := X.1.2.1
  have hown := X.1.2.2.2.1
  have hts := X.1.2.2.2.2
  have hl : lv_has ls 2 [(0, .ref (ad 0)), (1, .int 1)] := hl
  have hca0 := hca.1
  have hca1 := hca.2
  have hja0 := hja.1
  have hja1 := hja.2
  have hnz0 := hnz.1
  have hnz1 := hnz.2
  have hmz0 := hmz.1
  have hmz1 := hmz.2
  refine lv_iload_n hx hb dX8_from_0 rfl (lv_at hl 1 rfl) ?_
  refine lv_iconst (v := 0) hx hb dX8_from_1 (by decide) ?_
  refine lv_iconst (v := 1) hx hb dX8_from_2 (by decide) ?_
  refine n_Si (na := 3) (As := [.int 1, .int 0, .int 1]) (rest := []) X hD hN h (c_within l G cI cB cZ cO ad w (1 : Int32) (0 : Int32) (1 : Int32) 1 0 1 rfl rfl rfl) ⟨kv_247, kv_248, kv_212, kv_249⟩ ⟨by decide, by decide, by decide⟩ ⟨Nat.le_of_ble_eq_true rfl, Nat.le_of_ble_eq_true rfl⟩ ⟨Nat.zero_le _, Nat.zero_le _⟩ rfl hl.1 rfl (Nat.le_of_ble_eq_true rfl) dX8_from_3 (fun r1 w2 H locs hp3 h => ?_)
  obtain ⟨rfl, hq4⟩ := hp3
  rcases hq4 with ⟨hq5, hq6, rfl⟩ | ⟨hq4, rfl⟩
  · refine lv_if_ne (tgt := 16) hx hb dX8_from_6 (by decide) (fun _ => ?_) (fun hc => absurd hc (by decide))
    refine lv_aload_n hx hb dX8_from_16 rfl (lv_at hl 0 rfl) ?_
    obtain ⟨x8, x9, q10, q11, q12, f7⟩ := (show sN ad (w 0) from ok 0 (by decide))
    have f13 : w 0 = .inr (6, [.ref (ad 1), .ref (ad 14), .ref (ad 27), .ref (ad 54), .ref (ad 55), .ref (ad 58), .ref (ad 62), .long x8, .long x9, .int q10, .int q11, .int q12]) := f7
    refine r_get kc8 X h 0 3 (by decide) rfl f13 (by decide) kv_465 rfl dX8_from_17 ?_
    refine lv_iload_n hx hb dX8_from_20 rfl (lv_at hl 1 rfl) ?_
    obtain ⟨v14, e15⟩ : ∃ z : Int32, f 1 = z := ⟨_, rfl⟩
    have h16 := rgA_rd pr e15
    refine o_zald (v := v14) X h 54 2 (by decide) rfl pf rfl (by unfold vp_in; decide) e15 dX8_from_21 ?_
    refine lv_if_ne (tgt := 32) hx hb dX8_from_22 (by decide) (fun hc17 => ?_) (fun hc17 => ?_)
    · have hc17 : ¬ (v14).toInt = 0 := i_ne hc17 rfl rfl
      refine lv_aload_n hx hb dX8_from_32 rfl (lv_at hl 0 rfl) ?_
      refine r_get kc8 X h 0 0 (by decide) rfl f13 (by decide) kv_172 rfl dX8_from_33 ?_
      refine lv_aload_n hx hb dX8_from_36 rfl (lv_at hl 0 rfl) ?_
      refine r_get kc8 X h 0 2 (by decide) rfl f13 (by decide) kv_464 rfl dX8_from_37 ?_
      refine lv_iload_n hx hb dX8_from_40 rfl (lv_at hl 1 rfl) ?_
      have f18 : w 27 = .inl (cO, 2, .inr (.inr (.inr (.inr (fun k => if k = 0 then some (ad 28) else if k = 1 then some (ad 41) else none))))) := ok 27 (by decide)
      have f19 : w 27 = .inl (cO, 2, .inr (.inr (.inr (.inr (fun k => if k = 0 then some (ad 28) else if k = 1 then some (ad 41) else none))))) := f18
      refine r_aald X h 27 3 (by decide) rfl f19 rfl (by unfold vp_in; decide) rfl dX8_from_41 ?_
      obtain ⟨q24, q25, q26, q27, q28, f23, h29, h30, h31, h32⟩ := (show sI ad 1 (w 1) from ok 1 (by decide))
      have f33 : w 1 = .inr (1, [.int q24, .int q25, .int q26, .int q27, .int q28, .ref (ad 2), .ref (ad 3), .ref (ad 4), .ref (ad 5), .ref (ad 6), .ref (ad 7), .ref (ad 8), .ref (ad 10), .ref (ad 12)]) := f23
      refine n_Vv (na := 1) (As := [.ref (ad 41)]) (rest := []) X hD hN h rfl (c_F_become l G cI cB cZ cO ad w 1 41 (Or.inl rfl) (Or.inr (Or.inr (Or.inr rfl))) (by omega) ho so mi ca ja nz mz hh nc mc ok n_1 n_3 n_8 n_9 n_10 n_11 hrn ⟨by omega, by omega⟩ ⟨by omega, by omega⟩ ⟨by omega, by omega⟩ ⟨by omega, by omega⟩) ⟨kv_307, kv_308, kv_309, kv_37, kv_310⟩ rfl ⟨by decide, by decide, by decide⟩ ⟨Nat.le_of_ble_eq_true rfl, Nat.le_of_ble_eq_true rfl⟩ ⟨Nat.zero_le _, Nat.zero_le _⟩ (by decide) f33 rfl rfl hl.1 rfl (Nat.le_of_ble_eq_true rfl) dX8_from_42 (fun w21 H locs hp22 h => ?_)
      obtain ⟨ok34, kk35, hr36⟩ := hp22
      have kx37 : KT w w21 := (FR.t (Or.inl rfl) kk35)
      refine lv_iconst (v := 1) hx hb dX8_from_45 (by decide) ?_
      exact e_i X h hr hlk dX8_from_46 ⟨ok34, kx37, Or.inr ⟨by rw [e15]; omega, (FR.tr FR.rf kk35), rfl, hr36⟩⟩
    · have hc17 : (v14).toInt = 0 := i_eq hc17 rfl rfl
      refine lv_aload_n hx hb dX8_from_25 rfl (lv_at hl 0 rfl) ?_
      refine lv_bipush (v := (-3)) hx hb dX8_from_26 (by decide) ?_
      refine n_Vi (na := 1) (As := [.int (-3)]) (rest := []) X hD hN h rfl (c_refused l G cI cB cZ cO ad w  ok ((-3) : Int32)  ) ⟨kv_227, kv_228, kv_229, kv_212, kv_230⟩ rfl ⟨by decide, by decide, by decide⟩ ⟨Nat.le_of_ble_eq_true rfl, Nat.le_of_ble_eq_true rfl⟩ ⟨Nat.zero_le _, Nat.zero_le _⟩ (by decide) f13 rfl rfl hl.1 rfl (Nat.le_of_ble_eq_true rfl) dX8_from_28 (fun r38 w39 H locs hp40 h => ?_)
      have kX41 : KX w w39 := hp40.2.1
      obtain ⟨ok44, kk45, hr43⟩ := hp40
      have kx46 : KT w w39 := kk45.t
      subst hr43
      exact e_i X h hr hlk dX8_from_31 ⟨ok44, kx46, Or.inl ⟨by rw [e15]; omega, kX41, rfl⟩⟩
  · exfalso; omega

set_option maxHeartbeats 4000000 in
set_option maxRecDepth 100000 in
theorem c_F_imageN (l : Launch) (G : va_G) (cI cB cZ cO : ClassId) (ad : Nat → Nat) (w : Nat → va_E)  (ok : OK cI cB cZ cO ad w) (i : Int32)  (hno : ¬ (0 ≤ i.toInt ∧ i.toInt ≤ 1)) : NI l G (tyq cI cB cZ cO) yX8_image cX8_image 2 (some .int) 3 82 74 ad w [.ref (ad 0), .int i] (fun r w1 => OK cI cB cZ cO ad w1 ∧ KI w w1 ∧ KX w w1 ∧ r = -2) := by
  refine nk_i (own := "NoonShade") rfl (by decide) (Nat.le_of_ble_eq_true rfl) ?_
  intro p e s m below meth c ls X hD hN hr hlk h hl
  have hx := X.1.1
  have hb := X.1.2.1
  have hown := X.1.2.2.2.1
  have hts := X.1.2.2.2.2
  have hl : lv_has ls 2 [(0, .ref (ad 0)), (1, .int i)] := hl
  refine lv_iload_n hx hb dX8_image_0 rfl (lv_at hl 1 rfl) ?_
  refine lv_iconst (v := 0) hx hb dX8_image_1 (by decide) ?_
  refine lv_iconst (v := 1) hx hb dX8_image_2 (by decide) ?_
  refine n_Si (na := 3) (As := [.int i, .int 0, .int 1]) (rest := []) X hD hN h (c_within l G cI cB cZ cO ad w i (0 : Int32) (1 : Int32) ((i).toInt) 0 1 rfl rfl rfl) ⟨kv_247, kv_248, kv_212, kv_249⟩ ⟨by decide, by decide, by decide⟩ ⟨Nat.le_of_ble_eq_true rfl, Nat.le_of_ble_eq_true rfl⟩ ⟨Nat.zero_le _, Nat.zero_le _⟩ rfl hl.1 rfl (Nat.le_of_ble_eq_true rfl) dX8_image_3 (fun r1 w2 H locs hp3 h => ?_)
  obtain ⟨rfl, hq4⟩ := hp3
  rcases hq4 with ⟨hq5, hq6, rfl⟩ | ⟨hq4, rfl⟩
  · refine lv_if_ne (tgt := 16) hx hb dX8_image_6 (by decide) (fun _ => ?_) (fun hc => absurd hc (by decide))
    refine lv_aload_n hx hb dX8_image_16 rfl (lv_at hl 0 rfl) ?_
    obtain ⟨x8, x9, q10, q11, q12, f7⟩ := (show sN ad (w 0) from ok 0 (by decide))
    have f13 : w 0 = .inr (6, [.ref (ad 1), .ref (ad 14), .ref (ad 27), .ref (ad 54), .ref (ad 55), .ref (ad 58), .ref (ad 62), .long x8, .long x9, .int q10, .int q11, .int q12]) := f7
    refine r_get kc8 X h 0 2 (by decide) rfl f13 (by decide) kv_464 rfl dX8_image_17 ?_
    refine lv_iload_n hx hb dX8_image_20 rfl (lv_at hl 1 rfl) ?_
    exfalso; omega
  · refine lv_if_ne (tgt := 16) hx hb dX8_image_6 (by decide) (fun hc => absurd (by decide) hc) (fun _ => ?_)
    refine lv_aload_n hx hb dX8_image_9 rfl (lv_at hl 0 rfl) ?_
    refine lv_bipush (v := (-2)) hx hb dX8_image_10 (by decide) ?_
    obtain ⟨x18, x19, q20, q21, q22, f17⟩ := (show sN ad (w 0) from ok 0 (by decide))
    have f23 : w 0 = .inr (6, [.ref (ad 1), .ref (ad 14), .ref (ad 27), .ref (ad 54), .ref (ad 55), .ref (ad 58), .ref (ad 62), .long x18, .long x19, .int q20, .int q21, .int q22]) := f17
    refine n_Vi (na := 1) (As := [.int (-2)]) (rest := []) X hD hN h rfl (c_refused l G cI cB cZ cO ad w  ok ((-2) : Int32)  ) ⟨kv_227, kv_228, kv_229, kv_212, kv_230⟩ rfl ⟨by decide, by decide, by decide⟩ ⟨Nat.le_of_ble_eq_true rfl, Nat.le_of_ble_eq_true rfl⟩ ⟨Nat.zero_le _, Nat.zero_le _⟩ (by decide) f23 rfl rfl hl.1 rfl (Nat.le_of_ble_eq_true rfl) dX8_image_12 (fun r14 w15 H locs hp16 h => ?_)
    have kX24 : KX w w15 := hp16.2.1
    have kt25 : KT w w15 := hp16.2.1.t
    obtain ⟨ok27, kk28, hr26⟩ := hp16
    have kx29 : KI w w15 := (KT.i kk28.t)
    subst hr26
    exact e_i X h hr hlk dX8_image_15 ⟨ok27, kx29, ⟨kX24, rfl⟩⟩

set_option maxHeartbeats 4000000 in
set_option maxRecDepth 100000 in
theorem c_F_fromN (l : Launch) (G : va_G) (cI cB cZ cO : ClassId) (ad : Nat → Nat) (w : Nat → va_E)  (ok : OK cI cB cZ cO ad w) (i : Int32)  (hno : ¬ (0 ≤ i.toInt ∧ i.toInt ≤ 1)) : NI l G (tyq cI cB cZ cO) yX8_from cX8_from 2 (some .int) 3 82 74 ad w [.ref (ad 0), .int i] (fun r w1 => OK cI cB cZ cO ad w1 ∧ KT w w1 ∧ KX w w1 ∧ r = -2) := by
  refine nk_i (own := "NoonShade") rfl (by decide) (Nat.le_of_ble_eq_true rfl) ?_
  intro p e s m below meth c ls X hD hN hr hlk h hl
  have hx := X.1.1
  have hb := X.1.2.1
  have hown := X.1.2.2.2.1
  have hts := X.1.2.2.2.2
  have hl : lv_has ls 2 [(0, .ref (ad 0)), (1, .int i)] := hl
  refine lv_iload_n hx hb dX8_from_0 rfl (lv_at hl 1 rfl) ?_
  refine lv_iconst (v := 0) hx hb dX8_from_1 (by decide) ?_
  refine lv_iconst (v := 1) hx hb dX8_from_2 (by decide) ?_
  refine n_Si (na := 3) (As := [.int i, .int 0, .int 1]) (rest := []) X hD hN h (c_within l G cI cB cZ cO ad w i (0 : Int32) (1 : Int32) ((i).toInt) 0 1 rfl rfl rfl) ⟨kv_247, kv_248, kv_212, kv_249⟩ ⟨by decide, by decide, by decide⟩ ⟨Nat.le_of_ble_eq_true rfl, Nat.le_of_ble_eq_true rfl⟩ ⟨Nat.zero_le _, Nat.zero_le _⟩ rfl hl.1 rfl (Nat.le_of_ble_eq_true rfl) dX8_from_3 (fun r1 w2 H locs hp3 h => ?_)
  obtain ⟨rfl, hq4⟩ := hp3
  rcases hq4 with ⟨hq5, hq6, rfl⟩ | ⟨hq4, rfl⟩
  · refine lv_if_ne (tgt := 16) hx hb dX8_from_6 (by decide) (fun _ => ?_) (fun hc => absurd hc (by decide))
    refine lv_aload_n hx hb dX8_from_16 rfl (lv_at hl 0 rfl) ?_
    obtain ⟨x8, x9, q10, q11, q12, f7⟩ := (show sN ad (w 0) from ok 0 (by decide))
    have f13 : w 0 = .inr (6, [.ref (ad 1), .ref (ad 14), .ref (ad 27), .ref (ad 54), .ref (ad 55), .ref (ad 58), .ref (ad 62), .long x8, .long x9, .int q10, .int q11, .int q12]) := f7
    refine r_get kc8 X h 0 3 (by decide) rfl f13 (by decide) kv_465 rfl dX8_from_17 ?_
    refine lv_iload_n hx hb dX8_from_20 rfl (lv_at hl 1 rfl) ?_
    exfalso; omega
  · refine lv_if_ne (tgt := 16) hx hb dX8_from_6 (by decide) (fun hc => absurd (by decide) hc) (fun _ => ?_)
    refine lv_aload_n hx hb dX8_from_9 rfl (lv_at hl 0 rfl) ?_
    refine lv_bipush (v := (-2)) hx hb dX8_from_10 (by decide) ?_
    obtain ⟨x18, x19, q20, q21, q22, f17⟩ := (show sN ad (w 0) from ok 0 (by decide))
    have f23 : w 0 = .inr (6, [.ref (ad 1), .ref (ad 14), .ref (ad 27), .ref (ad 54), .ref (ad 55), .ref (ad 58), .ref (ad 62), .long x18, .long x19, .int q20, .int q21, .int q22]) := f17
    refine n_Vi (na := 1) (As := [.int (-2)]) (rest := []) X hD hN h rfl (c_refused l G cI cB cZ cO ad w  ok ((-2) : Int32)  ) ⟨kv_227, kv_228, kv_229, kv_212, kv_230⟩ rfl ⟨by decide, by decide, by decide⟩ ⟨Nat.le_of_ble_eq_true rfl, Nat.le_of_ble_eq_true rfl⟩ ⟨Nat.zero_le _, Nat.zero_le _⟩ (by decide) f23 rfl rfl hl.1 rfl (Nat.le_of_ble_eq_true rfl) dX8_from_12 (fun r14 w15 H locs hp16 h => ?_)
    have kX24 : KX w w15 := hp16.2.1
    obtain ⟨ok27, kk28, hr26⟩ := hp16
    have kx29 : KT w w15 := kk28.t
    subst hr26
    exact e_i X h hr hlk dX8_from_15 ⟨ok27, kx29, ⟨kX24, rfl⟩⟩

set_option maxHeartbeats 4000000 in
set_option maxRecDepth 100000 in
theorem c_F_read (l : Launch) (G : va_G) (cI cB cZ cO : ClassId) (ad : Nat → Nat) (w : Nat → va_E) (z a b c0 d : Int32) (bs : Nat → Int32) (ok : OK cI cB cZ cO ad w)   (pf : w 55 = .inr (5, [.ref (ad 56), .ref (ad 57), .int z, .int a, .int b, .int c0, .int d])) (hz1 : z.toInt ≤ 150) (p56 : w 56 = .inl (cB, 150, .inl bs)) (hd0 : 0 ≤ d.toInt) (hd1 : d.toInt ≤ 99) (hz0 : 0 ≤ z.toInt) : NI l G (tyq cI cB cZ cO) yX8_read cX8_read 2 (some .int) 7 150 74 ad w [.ref (ad 0)] (fun r w1 => OK cI cB cZ cO ad w1 ∧ KT w w1 ∧ r.toInt = (runF bs z.toNatClampNeg 151 0 (begF 0) 0).1 ∧ ((¬ 0 < r.toInt ∧ KX w w1) ∨ (0 < r.toInt ∧ (∃ wm : Nat → va_E, KX w wm ∧ FR 1 wm w1) ∧ ∃ (ca9 ja9 : Int32) (hh9 nc9 mc9 : Nat → Int32), IV cI ad 1 w1 ca9 ja9 0 0 hh9 nc9 mc9 ∧ (runF bs z.toNatClampNeg 151 0 (begF 0) 0).2 0 = ca9 ∧ (runF bs z.toNatClampNeg 151 0 (begF 0) 0).2 1 = ja9 ∧ ∀ i : Nat, (i : Int) < ca9.toInt → hh9 i = (runF bs z.toNatClampNeg 151 0 (begF 0) 0).2 (23 + i)))) := by
  refine nk_i (own := "NoonShade") rfl (by decide) (Nat.le_of_ble_eq_true rfl) ?_
  intro p e s m below meth c ls X hD hN hr hlk h hl
  have hx := X.1.1
  have hb := X.1.2.1
  have hown := X.1.2.2.2.1
  have hts := X.1.2.2.2.2
  have hl : lv_has ls 2 [(0, .ref (ad 0))] := hl
  refine lv_aload_n hx hb dX8_read_0 rfl (lv_at hl 0 rfl) ?_
  obtain ⟨x2, x3, q4, q5, q6, f1⟩ := (show sN ad (w 0) from ok 0 (by decide))
  have f7 : w 0 = .inr (6, [.ref (ad 1), .ref (ad 14), .ref (ad 27), .ref (ad 54), .ref (ad 55), .ref (ad 58), .ref (ad 62), .long x2, .long x3, .int q4, .int q5, .int q6]) := f1
  refine r_get kc8 X h 0 4 (by decide) rfl f7 (by decide) kv_191 rfl dX8_read_1 ?_
  refine lv_aload_n hx hb dX8_read_4 rfl (lv_at hl 0 rfl) ?_
  refine r_get kc8 X h 0 1 (by decide) rfl f7 (by decide) kv_306 rfl dX8_read_5 ?_
  refine n_Vi (na := 1) (As := [.ref (ad 14)]) (rest := []) X hD hN h rfl (c_F_tell l G cI cB cZ cO ad w z a b c0 d bs ok pf (by omega) p56 (by first | omega | decide | (simp only [k00]; omega)) (by first | omega | decide | (simp only [k00]; omega)) (by first | omega | decide | (simp only [k00]; omega))) ⟨kv_460, kv_461, kv_462, kv_388, kv_463⟩ rfl ⟨by decide, by decide, by decide⟩ ⟨Nat.le_of_ble_eq_true rfl, Nat.le_of_ble_eq_true rfl⟩ ⟨Nat.zero_le _, Nat.zero_le _⟩ (by decide) pf rfl rfl hl.1 rfl (Nat.le_of_ble_eq_true rfl) dX8_read_8 (fun r8 w9 H locs hp10 h => ?_)
  obtain ⟨ok11, kk12, hr13, hRG14⟩ := hp10
  have kx15 : KT w w9 := kk12.t
  refine lv_istore_n (lv' := [(1, .int r8), (0, .ref (ad 0))]) hx hb dX8_read_11 rfl hl (by decide) rfl (fun ls hl => ?_)
  refine lv_iload_n hx hb dX8_read_12 rfl (lv_at hl 0 rfl) ?_
  refine lv_if_le (tgt := 27) hx hb dX8_read_13 (by decide) (fun hc16 => ?_) (fun hc16 => ?_)
  · have hc16 : (r8).toInt ≤ 0 := i_le hc16 rfl rfl
    refine lv_iload_n hx hb dX8_read_27 rfl (lv_at hl 0 rfl) ?_
    exact e_i X h hr hlk dX8_read_28 ⟨ok11, kx15, ⟨hr13, Or.inl ⟨by omega, kk12⟩⟩⟩
  · have hc16 : ¬ (r8).toInt ≤ 0 := i_nle hc16 rfl rfl
    refine lv_aload_n hx hb dX8_read_16 rfl (lv_at hl 1 rfl) ?_
    obtain ⟨x18, x19, q20, q21, q22, f17⟩ := (show sN ad (w9 0) from ok11 0 (by decide))
    have f23 : w9 0 = .inr (6, [.ref (ad 1), .ref (ad 14), .ref (ad 27), .ref (ad 54), .ref (ad 55), .ref (ad 58), .ref (ad 62), .long x18, .long x19, .int q20, .int q21, .int q22]) := f17
    refine r_get kc8 X h 0 0 (by decide) rfl f23 (by decide) kv_172 rfl dX8_read_17 ?_
    refine lv_aload_n hx hb dX8_read_20 rfl (lv_at hl 1 rfl) ?_
    refine r_get kc8 X h 0 1 (by decide) rfl f23 (by decide) kv_306 rfl dX8_read_21 ?_
    have hRG24 := hRG14 (by omega)
    obtain ⟨so25, ho26, mi27, ca28, ja29, ck30, hh31, jk32, co33, p34, p35, p36, p37, p38, p39, p40, hG41⟩ := id hRG24
    have p34 : w9 14 = .inr (1, [.int ho26, .int so25, .int mi27, .int ca28, .int ja29, .ref (ad 15), .ref (ad 16), .ref (ad 17), .ref (ad 18), .ref (ad 19), .ref (ad 20), .ref (ad 21), .ref (ad 23), .ref (ad 25)]) := p34
    obtain ⟨hG42, hG43, hG44, hG45, hG46, hG47, hG48, hG49, hG50, hG51, hG52⟩ := id hG41
    have p53 : rgA 0 9 hh31 := sA_pred (show sA cI 7 (rgA 0 9) (w9 16) from ok11 16 (by decide)) p36
    have p54 : rgA 0 60 co33 := sA_pred (show sA cI 4 (rgA 0 60) (w9 19) from ok11 19 (by decide)) p38
    obtain ⟨g56, f55, p57⟩ := (show sA cI 24 (anyA) (w9 22) from ok11 22 (by decide))
    have f58 : w9 22 = .inl (cI, 24, .inl g56) := f55
    obtain ⟨g60, f59, p61⟩ := (show sA cI 24 (anyA) (w9 24) from ok11 24 (by decide))
    have f62 : w9 24 = .inl (cI, 24, .inl g60) := f59
    obtain ⟨q67, q68, q69, q70, q71, f66, h72, h73, h74, h75⟩ := (show sI ad 1 (w9 1) from ok11 1 (by decide))
    have f76 : w9 1 = .inr (1, [.int q67, .int q68, .int q69, .int q70, .int q71, .ref (ad 2), .ref (ad 3), .ref (ad 4), .ref (ad 5), .ref (ad 6), .ref (ad 7), .ref (ad 8), .ref (ad 10), .ref (ad 12)]) := f66
    refine n_Vv (na := 1) (As := [.ref (ad 14)]) (rest := []) X hD hN h rfl (c_F_become l G cI cB cZ cO ad w9 1 14 (Or.inl rfl) (Or.inr (Or.inl rfl)) (by omega) ho26 so25 mi27 ca28 ja29 (0 : Int32) (0 : Int32) hh31 g56 g60 ok11 p34 p36 p39 f58 p40 f62 p53 ⟨by omega, by omega⟩ ⟨by omega, by omega⟩ ⟨by decide, by decide⟩ ⟨by decide, by decide⟩) ⟨kv_307, kv_308, kv_309, kv_37, kv_310⟩ rfl ⟨by decide, by decide, by decide⟩ ⟨Nat.le_of_ble_eq_true rfl, Nat.le_of_ble_eq_true rfl⟩ ⟨Nat.zero_le _, Nat.zero_le _⟩ (by decide) f76 rfl rfl hl.1 rfl (Nat.le_of_ble_eq_true rfl) dX8_read_24 (fun w64 H locs hp65 h => ?_)
    obtain ⟨ok77, kk78, hr79⟩ := hp65
    have kx80 : KT w w64 := KT.tr kx15 (FR.t (Or.inl rfl) kk78)
    refine lv_iload_n hx hb dX8_read_27 rfl (lv_at hl 0 rfl) ?_
    have hrd81 : ∃ (ca9 ja9 : Int32) (hh9 nc9 mc9 : Nat → Int32), IV cI ad 1 w64 ca9 ja9 0 0 hh9 nc9 mc9 ∧ (runF bs z.toNatClampNeg 151 0 (begF 0) 0).2 0 = ca9 ∧ (runF bs z.toNatClampNeg 151 0 (begF 0) 0).2 1 = ja9 ∧ ∀ i : Nat, (i : Int) < ca9.toInt → hh9 i = (runF bs z.toNatClampNeg 151 0 (begF 0) 0).2 (23 + i) := by
      obtain ⟨g1, g2, g3, iv9, e1, e2, e3⟩ := hr79
      exact ⟨_, _, g1, g2, g3, iv9, hG44, hG45, fun i hi => by rw [e1 i (by omega)]; exact (hG46 i hi).2⟩
    exact e_i X h hr hlk dX8_read_28 ⟨ok77, kx80, ⟨hr13, Or.inr ⟨by omega, ⟨w9, kk12, kk78⟩, hrd81⟩⟩⟩
