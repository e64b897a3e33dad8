set_option maxHeartbeats 4000000 in
set_option maxRecDepth 100000 in
theorem c_R_become (l : Launch) (G : va_G) (cI cB cZ cO : ClassId) (ad : Nat → Nat) (w : Nat → va_E) (q oo : Nat) (z y : Int32) (f g : Nat → Int32) (hq0 : q + 1 < 74) (ho0 : oo + 1 < 74) (hap : oo + 1 < q ∨ q + 1 < oo)    (pq : w q = .inr (4, [.ref (ad (q + 1)), .int z])) (pq1 : w (q + 1) = .inl (cI, 24, .inl g)) (po : w oo = .inr (4, [.ref (ad (oo + 1)), .int y])) (po1 : w (oo + 1) = .inl (cI, 24, .inl f)) : NV l G (tyq cI cB cZ cO) yX6_become cX6_become 2 1 40 74 ad w [.ref (ad q), .ref (ad oo)] (fun w1 => w1 q = .inr (4, [.ref (ad (q + 1)), .int y]) ∧ (∃ f1 : Nat → Int32, w1 (q + 1) = .inl (cI, 24, .inl f1)) ∧ ∀ k, k ≠ q → k ≠ q + 1 → w1 k = w k) := by
  refine nk_v (own := "NoonShade$Rows") rfl (by decide) (Nat.le_of_ble_eq_true rfl) ?_
  intro p e s m below meth c ls X hD hN hr hlk h hl
  have hx := X.1.1
  have hb := X.1.2.1
  have hown := X.1.2.2.2.1
  have hts := X.1.2.2.2.2
  have hl : lv_has ls 2 [(0, .ref (ad q)), (1, .ref (ad oo))] := hl
  refine lv_aload_n hx hb dX6_become_0 rfl (lv_at hl 1 rfl) ?_
  refine r_get kc6 X h oo 0 (by omega) rfl po (by decide) kv_77 rfl dX6_become_1 ?_
  refine lv_iconst (v := 0) hx hb dX6_become_4 (by decide) ?_
  refine lv_aload_n hx hb dX6_become_5 rfl (lv_at hl 0 rfl) ?_
  refine r_get kc6 X h q 0 (by omega) rfl pq (by decide) kv_77 rfl dX6_become_6 ?_
  refine lv_iconst (v := 0) hx hb dX6_become_9 (by decide) ?_
  refine lv_bipush (v := 24) hx hb dX6_become_10 (by decide) ?_
  obtain ⟨g1, e2⟩ : ∃ z : Nat → Int32, va_cpy f g 0 0 24 = z := ⟨_, rfl⟩
  have p3 : anyA g1 := trivial
  refine r_copy (f1 := g1) X hD h hl.1 kv_151 kv_88 kv_89 kv_90 (oo + 1) (q + 1) 0 (by omega) (by omega) rfl rfl po1 pq1 rfl (by decide) (by decide) (by decide) (by decide) (by decide) e2 ⟨Nat.le_of_ble_eq_true rfl, by decide⟩ dX6_become_12 (fun H locs w4 e5 h => ?_)
  have f6 : w4 (q + 1) = .inl (cI, 24, .inl g1) := (congrFun e5 _).trans (va_up_self _ _ _)
  refine lv_aload_n hx hb dX6_become_15 rfl (lv_at hl 0 rfl) ?_
  refine lv_aload_n hx hb dX6_become_16 rfl (lv_at hl 1 rfl) ?_
  have f7 : w4 oo = .inr (4, [.ref (ad (oo + 1)), .int y]) := by rw [e5, va_up_ne _ _ (by omega)]; exact po
  refine r_get kc6 X h oo 1 (by omega) rfl f7 (by decide) kv_58 rfl dX6_become_17 ?_
  have f8 : w4 q = .inr (4, [.ref (ad (q + 1)), .int z]) := by rw [e5, va_up_ne _ _ (by omega)]; exact pq
  refine r_put kc6 X hD h q 1 (by omega) rfl f8 (by decide) kv_58 rfl rfl rfl (Nat.le_of_ble_eq_true rfl) dX6_become_20 (fun H locs w9 e10 h => ?_)
  have f11 : w9 q = .inr (4, [.ref (ad (q + 1)), .int y]) := (congrFun e10 _).trans (va_up_self _ _ _)
  have f12 : w9 (q + 1) = .inl (cI, 24, .inl g1) := by rw [e10, va_up_ne _ _ (by omega)]; exact f6
  exact e_v X h hr hlk dX6_become_23 ⟨f11, ⟨g1, f12⟩, fun k h1 h2 => ((congrFun e10 k).trans (va_up_ne _ _ (by omega))).trans ((congrFun e5 k).trans (va_up_ne _ _ (by omega)))⟩

set_option maxHeartbeats 4000000 in
set_option maxRecDepth 100000 in
theorem c_P_become (l : Launch) (G : va_G) (cI cB cZ cO : ClassId) (ad : Nat → Nat) (w : Nat → va_E) (q oo : Nat) (z y : Int32) (f g : Nat → Int32) (hq0 : q + 1 < 74) (ho0 : oo + 1 < 74) (hap : oo + 1 < q ∨ q + 1 < oo)    (pq : w q = .inr (2, [.ref (ad (q + 1)), .int z])) (pq1 : w (q + 1) = .inl (cI, 88, .inl g)) (po : w oo = .inr (2, [.ref (ad (oo + 1)), .int y])) (po1 : w (oo + 1) = .inl (cI, 88, .inl f)) (hpf : pastA f) (hpg : pastA g) : NV l G (tyq cI cB cZ cO) yX4_become cX4_become 2 1 40 74 ad w [.ref (ad q), .ref (ad oo)] (fun w1 => w1 q = .inr (2, [.ref (ad (q + 1)), .int y]) ∧ (∃ f1 : Nat → Int32, w1 (q + 1) = .inl (cI, 88, .inl f1) ∧ pastA f1) ∧ ∀ k, k ≠ q → k ≠ q + 1 → w1 k = w k) := by
  refine nk_v (own := "NoonShade$Past") rfl (by decide) (Nat.le_of_ble_eq_true rfl) ?_
  intro p e s m below meth c ls X hD hN hr hlk h hl
  have hx := X.1.1
  have hb := X.1.2.1
  have hown := X.1.2.2.2.1
  have hts := X.1.2.2.2.2
  have hl : lv_has ls 2 [(0, .ref (ad q)), (1, .ref (ad oo))] := hl
  refine lv_aload_n hx hb dX4_become_0 rfl (lv_at hl 1 rfl) ?_
  refine r_get kc4 X h oo 0 (by omega) rfl po (by decide) kv_86 rfl dX4_become_1 ?_
  refine lv_iconst (v := 0) hx hb dX4_become_4 (by decide) ?_
  refine lv_aload_n hx hb dX4_become_5 rfl (lv_at hl 0 rfl) ?_
  refine r_get kc4 X h q 0 (by omega) rfl pq (by decide) kv_86 rfl dX4_become_6 ?_
  refine lv_iconst (v := 0) hx hb dX4_become_9 (by decide) ?_
  refine lv_bipush (v := 88) hx hb dX4_become_10 (by decide) ?_
  obtain ⟨g1, e2⟩ : ∃ z : Nat → Int32, va_cpy f g 0 0 88 = z := ⟨_, rfl⟩
  have p3 : pastA g1 := pastA_cpy hpf hpg e2
  refine r_copy (f1 := g1) X hD h hl.1 kv_87 kv_88 kv_89 kv_90 (oo + 1) (q + 1) 0 (by omega) (by omega) rfl rfl po1 pq1 rfl (by decide) (by decide) (by decide) (by decide) (by decide) e2 ⟨Nat.le_of_ble_eq_true rfl, by decide⟩ dX4_become_12 (fun H locs w4 e5 h => ?_)
  have f6 : w4 (q + 1) = .inl (cI, 88, .inl g1) := (congrFun e5 _).trans (va_up_self _ _ _)
  refine lv_aload_n hx hb dX4_become_15 rfl (lv_at hl 0 rfl) ?_
  refine lv_aload_n hx hb dX4_become_16 rfl (lv_at hl 1 rfl) ?_
  have f7 : w4 oo = .inr (2, [.ref (ad (oo + 1)), .int y]) := by rw [e5, va_up_ne _ _ (by omega)]; exact po
  refine r_get kc4 X h oo 1 (by omega) rfl f7 (by decide) kv_59 rfl dX4_become_17 ?_
  have f8 : w4 q = .inr (2, [.ref (ad (q + 1)), .int z]) := by rw [e5, va_up_ne _ _ (by omega)]; exact pq
  refine r_put kc4 X hD h q 1 (by omega) rfl f8 (by decide) kv_59 rfl rfl rfl (Nat.le_of_ble_eq_true rfl) dX4_become_20 (fun H locs w9 e10 h => ?_)
  have f11 : w9 q = .inr (2, [.ref (ad (q + 1)), .int y]) := (congrFun e10 _).trans (va_up_self _ _ _)
  have f12 : w9 (q + 1) = .inl (cI, 88, .inl g1) := by rw [e10, va_up_ne _ _ (by omega)]; exact f6
  exact e_v X h hr hlk dX4_become_23 ⟨f11, ⟨g1, f12, p3⟩, fun k h1 h2 => ((congrFun e10 k).trans (va_up_ne _ _ (by omega))).trans ((congrFun e5 k).trans (va_up_ne _ _ (by omega)))⟩

set_option maxHeartbeats 4000000 in
set_option maxRecDepth 100000 in
theorem c_become (l : Launch) (G : va_G) (cI cB cZ cO : ClassId) (ad : Nat → Nat) (w : Nat → va_E) (b o2 : Nat) (hbB : isB b) (ho2 : isB o2) (hap : b + 12 < o2 ∨ o2 + 12 < b) (ok : OK cI cB cZ cO ad w)    : NV l G (tyq cI cB cZ cO) yX2_become cX2_become 2 2 61 74 ad w [.ref (ad b), .ref (ad o2)] (fun w1 => OK cI cB cZ cO ad w1 ∧ FR b w w1 ∧ True) := by
  refine nk_v (own := "NoonShade$Isle") rfl (by decide) (Nat.le_of_ble_eq_true rfl) ?_
  intro p e s m below meth c ls X hD hN hr hlk h hl
  have hx := X.1.1
  have hb := X.1.2.1
  have hown := X.1.2.2.2.1
  have hts := X.1.2.2.2.2
  have hl : lv_has ls 2 [(0, .ref (ad b)), (1, .ref (ad o2))] := hl
  refine lv_aload_n hx hb dX2_become_0 rfl (lv_at hl 0 rfl) ?_
  refine lv_aload_n hx hb dX2_become_1 rfl (lv_at hl 1 rfl) ?_
  obtain ⟨q2, q3, q4, q5, q6, f1, h7, h8, h9, h10⟩ := (show sI ad o2 (w o2) from ok.b0 ho2)
  have f11 : w o2 = .inr (1, [.int q2, .int q3, .int q4, .int q5, .int q6, .ref (ad (o2 + 1)), .ref (ad (o2 + 2)), .ref (ad (o2 + 3)), .ref (ad (o2 + 4)), .ref (ad (o2 + 5)), .ref (ad (o2 + 6)), .ref (ad (o2 + 7)), .ref (ad (o2 + 9)), .ref (ad (o2 + 11))]) := f1
  refine r_get kc2 X h o2 0 (by have := isB.lt ho2; omega) rfl f11 (by decide) kv_26 rfl dX2_become_2 ?_
  obtain ⟨q13, q14, q15, q16, q17, f12, h18, h19, h20, h21⟩ := (show sI ad b (w b) from ok.b0 hbB)
  have f22 : w b = .inr (1, [.int q13, .int q14, .int q15, .int q16, .int q17, .ref (ad (b + 1)), .ref (ad (b + 2)), .ref (ad (b + 3)), .ref (ad (b + 4)), .ref (ad (b + 5)), .ref (ad (b + 6)), .ref (ad (b + 7)), .ref (ad (b + 9)), .ref (ad (b + 11))]) := f12
  refine r_put kc2 X hD h b 0 (by have := isB.lt hbB; omega) rfl f22 (by decide) kv_26 rfl rfl rfl (Nat.le_of_ble_eq_true rfl) dX2_become_5 (fun H locs w23 e24 h => ?_)
  have f25 : w23 b = .inr (1, [.int q2, .int q14, .int q15, .int q16, .int q17, .ref (ad (b + 1)), .ref (ad (b + 2)), .ref (ad (b + 3)), .ref (ad (b + 4)), .ref (ad (b + 5)), .ref (ad (b + 6)), .ref (ad (b + 7)), .ref (ad (b + 9)), .ref (ad (b + 11))]) := (congrFun e24 _).trans (va_up_self _ _ _)
  have ok26 : OK cI cB cZ cO ad w23 := OK.up ok e24 (Eq.mpr (okc_b0 hbB) (sI_mk (by omega) (by omega) (by omega) (by omega)))
  have kx27 : FR b w w23 := FR.up FR.rf e24 (by omega)
  refine lv_aload_n hx hb dX2_become_8 rfl (lv_at hl 0 rfl) ?_
  refine lv_aload_n hx hb dX2_become_9 rfl (lv_at hl 1 rfl) ?_
  have f28 : w23 o2 = .inr (1, [.int q2, .int q3, .int q4, .int q5, .int q6, .ref (ad (o2 + 1)), .ref (ad (o2 + 2)), .ref (ad (o2 + 3)), .ref (ad (o2 + 4)), .ref (ad (o2 + 5)), .ref (ad (o2 + 6)), .ref (ad (o2 + 7)), .ref (ad (o2 + 9)), .ref (ad (o2 + 11))]) := by rw [e24, va_up_ne _ _ (by omega)]; exact f11
  refine r_get kc2 X h o2 1 (by have := isB.lt ho2; omega) rfl f28 (by decide) kv_52 rfl dX2_become_10 ?_
  refine r_put kc2 X hD h b 1 (by have := isB.lt hbB; omega) rfl f25 (by decide) kv_52 rfl rfl rfl (Nat.le_of_ble_eq_true rfl) dX2_become_13 (fun H locs w29 e30 h => ?_)
  have f31 : w29 b = .inr (1, [.int q2, .int q3, .int q15, .int q16, .int q17, .ref (ad (b + 1)), .ref (ad (b + 2)), .ref (ad (b + 3)), .ref (ad (b + 4)), .ref (ad (b + 5)), .ref (ad (b + 6)), .ref (ad (b + 7)), .ref (ad (b + 9)), .ref (ad (b + 11))]) := (congrFun e30 _).trans (va_up_self _ _ _)
  have ok32 : OK cI cB cZ cO ad w29 := OK.up ok26 e30 (Eq.mpr (okc_b0 hbB) (sI_mk (by omega) (by omega) (by omega) (by omega)))
  have kx33 : FR b w w29 := FR.up kx27 e30 (by omega)
  refine lv_aload_n hx hb dX2_become_16 rfl (lv_at hl 0 rfl) ?_
  refine lv_aload_n hx hb dX2_become_17 rfl (lv_at hl 1 rfl) ?_
  have f34 : w29 o2 = .inr (1, [.int q2, .int q3, .int q4, .int q5, .int q6, .ref (ad (o2 + 1)), .ref (ad (o2 + 2)), .ref (ad (o2 + 3)), .ref (ad (o2 + 4)), .ref (ad (o2 + 5)), .ref (ad (o2 + 6)), .ref (ad (o2 + 7)), .ref (ad (o2 + 9)), .ref (ad (o2 + 11))]) := by rw [e30, va_up_ne _ _ (by omega)]; exact f28
  refine r_get kc2 X h o2 2 (by have := isB.lt ho2; omega) rfl f34 (by decide) kv_19 rfl dX2_become_18 ?_
  refine r_put kc2 X hD h b 2 (by have := isB.lt hbB; omega) rfl f31 (by decide) kv_19 rfl rfl rfl (Nat.le_of_ble_eq_true rfl) dX2_become_21 (fun H locs w35 e36 h => ?_)
  have f37 : w35 b = .inr (1, [.int q2, .int q3, .int q4, .int q16, .int q17, .ref (ad (b + 1)), .ref (ad (b + 2)), .ref (ad (b + 3)), .ref (ad (b + 4)), .ref (ad (b + 5)), .ref (ad (b + 6)), .ref (ad (b + 7)), .ref (ad (b + 9)), .ref (ad (b + 11))]) := (congrFun e36 _).trans (va_up_self _ _ _)
  have ok38 : OK cI cB cZ cO ad w35 := OK.up ok32 e36 (Eq.mpr (okc_b0 hbB) (sI_mk (by omega) (by omega) (by omega) (by omega)))
  have kx39 : FR b w w35 := FR.up kx33 e36 (by omega)
  refine lv_aload_n hx hb dX2_become_24 rfl (lv_at hl 0 rfl) ?_
  refine lv_aload_n hx hb dX2_become_25 rfl (lv_at hl 1 rfl) ?_
  have f40 : w35 o2 = .inr (1, [.int q2, .int q3, .int q4, .int q5, .int q6, .ref (ad (o2 + 1)), .ref (ad (o2 + 2)), .ref (ad (o2 + 3)), .ref (ad (o2 + 4)), .ref (ad (o2 + 5)), .ref (ad (o2 + 6)), .ref (ad (o2 + 7)), .ref (ad (o2 + 9)), .ref (ad (o2 + 11))]) := by rw [e36, va_up_ne _ _ (by omega)]; exact f34
  refine r_get kc2 X h o2 3 (by have := isB.lt ho2; omega) rfl f40 (by decide) kv_17 rfl dX2_become_26 ?_
  refine r_put kc2 X hD h b 3 (by have := isB.lt hbB; omega) rfl f37 (by decide) kv_17 rfl rfl rfl (Nat.le_of_ble_eq_true rfl) dX2_become_29 (fun H locs w41 e42 h => ?_)
  have f43 : w41 b = .inr (1, [.int q2, .int q3, .int q4, .int q5, .int q17, .ref (ad (b + 1)), .ref (ad (b + 2)), .ref (ad (b + 3)), .ref (ad (b + 4)), .ref (ad (b + 5)), .ref (ad (b + 6)), .ref (ad (b + 7)), .ref (ad (b + 9)), .ref (ad (b + 11))]) := (congrFun e42 _).trans (va_up_self _ _ _)
  have ok44 : OK cI cB cZ cO ad w41 := OK.up ok38 e42 (Eq.mpr (okc_b0 hbB) (sI_mk (by omega) (by omega) (by omega) (by omega)))
  have kx45 : FR b w w41 := FR.up kx39 e42 (by omega)
  refine lv_aload_n hx hb dX2_become_32 rfl (lv_at hl 0 rfl) ?_
  refine lv_aload_n hx hb dX2_become_33 rfl (lv_at hl 1 rfl) ?_
  have f46 : w41 o2 = .inr (1, [.int q2, .int q3, .int q4, .int q5, .int q6, .ref (ad (o2 + 1)), .ref (ad (o2 + 2)), .ref (ad (o2 + 3)), .ref (ad (o2 + 4)), .ref (ad (o2 + 5)), .ref (ad (o2 + 6)), .ref (ad (o2 + 7)), .ref (ad (o2 + 9)), .ref (ad (o2 + 11))]) := by rw [e42, va_up_ne _ _ (by omega)]; exact f40
  refine r_get kc2 X h o2 4 (by have := isB.lt ho2; omega) rfl f46 (by decide) kv_18 rfl dX2_become_34 ?_
  refine r_put kc2 X hD h b 4 (by have := isB.lt hbB; omega) rfl f43 (by decide) kv_18 rfl rfl rfl (Nat.le_of_ble_eq_true rfl) dX2_become_37 (fun H locs w47 e48 h => ?_)
  have f49 : w47 b = .inr (1, [.int q2, .int q3, .int q4, .int q5, .int q6, .ref (ad (b + 1)), .ref (ad (b + 2)), .ref (ad (b + 3)), .ref (ad (b + 4)), .ref (ad (b + 5)), .ref (ad (b + 6)), .ref (ad (b + 7)), .ref (ad (b + 9)), .ref (ad (b + 11))]) := (congrFun e48 _).trans (va_up_self _ _ _)
  have ok50 : OK cI cB cZ cO ad w47 := OK.up ok44 e48 (Eq.mpr (okc_b0 hbB) (sI_mk (by omega) (by omega) (by omega) (by omega)))
  have kx51 : FR b w w47 := FR.up kx45 e48 (by omega)
  refine lv_aload_n hx hb dX2_become_40 rfl (lv_at hl 1 rfl) ?_
  have f52 : w47 o2 = .inr (1, [.int q2, .int q3, .int q4, .int q5, .int q6, .ref (ad (o2 + 1)), .ref (ad (o2 + 2)), .ref (ad (o2 + 3)), .ref (ad (o2 + 4)), .ref (ad (o2 + 5)), .ref (ad (o2 + 6)), .ref (ad (o2 + 7)), .ref (ad (o2 + 9)), .ref (ad (o2 + 11))]) := by rw [e48, va_up_ne _ _ (by omega)]; exact f46
  refine r_get kc2 X h o2 5 (by have := isB.lt ho2; omega) rfl f52 (by decide) kv_20 rfl dX2_become_41 ?_
  refine lv_iconst (v := 0) hx hb dX2_become_44 (by decide) ?_
  refine lv_aload_n hx hb dX2_become_45 rfl (lv_at hl 0 rfl) ?_
  refine r_get kc2 X h b 5 (by have := isB.lt hbB; omega) rfl f49 (by decide) kv_20 rfl dX2_become_46 ?_
  refine lv_iconst (v := 0) hx hb dX2_become_49 (by decide) ?_
  refine lv_bipush (v := 7) hx hb dX2_become_50 (by decide) ?_
  obtain ⟨g54, f53, p55⟩ := (show sA cI 7 (anyA) (w47 (o2 + 1)) from ok50.b1 ho2)
  have f56 : w47 (o2 + 1) = .inl (cI, 7, .inl g54) := f53
  obtain ⟨g58, f57, p59⟩ := (show sA cI 7 (anyA) (w47 (b + 1)) from ok50.b1 hbB)
  have f60 : w47 (b + 1) = .inl (cI, 7, .inl g58) := f57
  obtain ⟨g61, e62⟩ : ∃ z : Nat → Int32, va_cpy g54 g58 0 0 7 = z := ⟨_, rfl⟩
  have p63 : anyA g61 := trivial
  refine r_copy (f1 := g61) X hD h hl.1 kv_152 kv_88 kv_89 kv_90 (o2 + 1) (b + 1) 0 (by have := isB.lt ho2; omega) (by have := isB.lt hbB; omega) rfl rfl f56 f60 rfl (by decide) (by decide) (by decide) (by decide) (by decide) e62 ⟨Nat.le_of_ble_eq_true rfl, by decide⟩ dX2_become_52 (fun H locs w64 e65 h => ?_)
  have f66 : w64 (b + 1) = .inl (cI, 7, .inl g61) := (congrFun e65 _).trans (va_up_self _ _ _)
  have ok67 : OK cI cB cZ cO ad w64 := OK.up ok50 e65 (Eq.mpr (okc_b1 hbB) (sA_mk p63))
  have kx68 : FR b w w64 := FR.up kx51 e65 (by omega)
  refine lv_aload_n hx hb dX2_become_55 rfl (lv_at hl 1 rfl) ?_
  have f69 : w64 o2 = .inr (1, [.int q2, .int q3, .int q4, .int q5, .int q6, .ref (ad (o2 + 1)), .ref (ad (o2 + 2)), .ref (ad (o2 + 3)), .ref (ad (o2 + 4)), .ref (ad (o2 + 5)), .ref (ad (o2 + 6)), .ref (ad (o2 + 7)), .ref (ad (o2 + 9)), .ref (ad (o2 + 11))]) := by rw [e65, va_up_ne _ _ (by omega)]; exact f52
  refine r_get kc2 X h o2 6 (by have := isB.lt ho2; omega) rfl f69 (by decide) kv_21 rfl dX2_become_56 ?_
  refine lv_iconst (v := 0) hx hb dX2_become_59 (by decide) ?_
  refine lv_aload_n hx hb dX2_become_60 rfl (lv_at hl 0 rfl) ?_
  have f70 : w64 b = .inr (1, [.int q2, .int q3, .int q4, .int q5, .int q6, .ref (ad (b + 1)), .ref (ad (b + 2)), .ref (ad (b + 3)), .ref (ad (b + 4)), .ref (ad (b + 5)), .ref (ad (b + 6)), .ref (ad (b + 7)), .ref (ad (b + 9)), .ref (ad (b + 11))]) := by rw [e65, va_up_ne _ _ (by omega)]; exact f49
  refine r_get kc2 X h b 6 (by have := isB.lt hbB; omega) rfl f70 (by decide) kv_21 rfl dX2_become_61 ?_
  refine lv_iconst (v := 0) hx hb dX2_become_64 (by decide) ?_
  refine lv_bipush (v := 7) hx hb dX2_become_65 (by decide) ?_
  obtain ⟨g72, f71, p73⟩ := (show sA cI 7 (rgA 0 9) (w64 (o2 + 2)) from ok67.b2 ho2)
  have f74 : w64 (o2 + 2) = .inl (cI, 7, .inl g72) := f71
  obtain ⟨g76, f75, p77⟩ := (show sA cI 7 (rgA 0 9) (w64 (b + 2)) from ok67.b2 hbB)
  have f78 : w64 (b + 2) = .inl (cI, 7, .inl g76) := f75
  obtain ⟨g79, e80⟩ : ∃ z : Nat → Int32, va_cpy g72 g76 0 0 7 = z := ⟨_, rfl⟩
  have p81 : rgA 0 9 g79 := rgA_cpy p73 p77 e80
  refine r_copy (f1 := g79) X hD h hl.1 kv_152 kv_88 kv_89 kv_90 (o2 + 2) (b + 2) 0 (by have := isB.lt ho2; omega) (by have := isB.lt hbB; omega) rfl rfl f74 f78 rfl (by decide) (by decide) (by decide) (by decide) (by decide) e80 ⟨Nat.le_of_ble_eq_true rfl, by decide⟩ dX2_become_67 (fun H locs w82 e83 h => ?_)
  have f84 : w82 (b + 2) = .inl (cI, 7, .inl g79) := (congrFun e83 _).trans (va_up_self _ _ _)
  have ok85 : OK cI cB cZ cO ad w82 := OK.up ok67 e83 (Eq.mpr (okc_b2 hbB) (sA_mk p81))
  have kx86 : FR b w w82 := FR.up kx68 e83 (by omega)
  refine lv_aload_n hx hb dX2_become_70 rfl (lv_at hl 1 rfl) ?_
  have f87 : w82 o2 = .inr (1, [.int q2, .int q3, .int q4, .int q5, .int q6, .ref (ad (o2 + 1)), .ref (ad (o2 + 2)), .ref (ad (o2 + 3)), .ref (ad (o2 + 4)), .ref (ad (o2 + 5)), .ref (ad (o2 + 6)), .ref (ad (o2 + 7)), .ref (ad (o2 + 9)), .ref (ad (o2 + 11))]) := by rw [e83, va_up_ne _ _ (by omega)]; exact f69
  refine r_get kc2 X h o2 7 (by have := isB.lt ho2; omega) rfl f87 (by decide) kv_22 rfl dX2_become_71 ?_
  refine lv_iconst (v := 0) hx hb dX2_become_74 (by decide) ?_
  refine lv_aload_n hx hb dX2_become_75 rfl (lv_at hl 0 rfl) ?_
  have f88 : w82 b = .inr (1, [.int q2, .int q3, .int q4, .int q5, .int q6, .ref (ad (b + 1)), .ref (ad (b + 2)), .ref (ad (b + 3)), .ref (ad (b + 4)), .ref (ad (b + 5)), .ref (ad (b + 6)), .ref (ad (b + 7)), .ref (ad (b + 9)), .ref (ad (b + 11))]) := by rw [e83, va_up_ne _ _ (by omega)]; exact f70
  refine r_get kc2 X h b 7 (by have := isB.lt hbB; omega) rfl f88 (by decide) kv_22 rfl dX2_become_76 ?_
  refine lv_iconst (v := 0) hx hb dX2_become_79 (by decide) ?_
  refine lv_bipush (v := 7) hx hb dX2_become_80 (by decide) ?_
  obtain ⟨g90, f89, p91⟩ := (show sA cI 7 (anyA) (w82 (o2 + 3)) from ok85.b3 ho2)
  have f92 : w82 (o2 + 3) = .inl (cI, 7, .inl g90) := f89
  obtain ⟨g94, f93, p95⟩ := (show sA cI 7 (anyA) (w82 (b + 3)) from ok85.b3 hbB)
  have f96 : w82 (b + 3) = .inl (cI, 7, .inl g94) := f93
  obtain ⟨g97, e98⟩ : ∃ z : Nat → Int32, va_cpy g90 g94 0 0 7 = z := ⟨_, rfl⟩
  have p99 : anyA g97 := trivial
  refine r_copy (f1 := g97) X hD h hl.1 kv_152 kv_88 kv_89 kv_90 (o2 + 3) (b + 3) 0 (by have := isB.lt ho2; omega) (by have := isB.lt hbB; omega) rfl rfl f92 f96 rfl (by decide) (by decide) (by decide) (by decide) (by decide) e98 ⟨Nat.le_of_ble_eq_true rfl, by decide⟩ dX2_become_82 (fun H locs w100 e101 h => ?_)
  have f102 : w100 (b + 3) = .inl (cI, 7, .inl g97) := (congrFun e101 _).trans (va_up_self _ _ _)
  have ok103 : OK cI cB cZ cO ad w100 := OK.up ok85 e101 (Eq.mpr (okc_b3 hbB) (sA_mk p99))
  have kx104 : FR b w w100 := FR.up kx86 e101 (by omega)
  refine lv_aload_n hx hb dX2_become_85 rfl (lv_at hl 1 rfl) ?_
  have f105 : w100 o2 = .inr (1, [.int q2, .int q3, .int q4, .int q5, .int q6, .ref (ad (o2 + 1)), .ref (ad (o2 + 2)), .ref (ad (o2 + 3)), .ref (ad (o2 + 4)), .ref (ad (o2 + 5)), .ref (ad (o2 + 6)), .ref (ad (o2 + 7)), .ref (ad (o2 + 9)), .ref (ad (o2 + 11))]) := by rw [e101, va_up_ne _ _ (by omega)]; exact f87
  refine r_get kc2 X h o2 8 (by have := isB.lt ho2; omega) rfl f105 (by decide) kv_23 rfl dX2_become_86 ?_
  refine lv_iconst (v := 0) hx hb dX2_become_89 (by decide) ?_
  refine lv_aload_n hx hb dX2_become_90 rfl (lv_at hl 0 rfl) ?_
  have f106 : w100 b = .inr (1, [.int q2, .int q3, .int q4, .int q5, .int q6, .ref (ad (b + 1)), .ref (ad (b + 2)), .ref (ad (b + 3)), .ref (ad (b + 4)), .ref (ad (b + 5)), .ref (ad (b + 6)), .ref (ad (b + 7)), .ref (ad (b + 9)), .ref (ad (b + 11))]) := by rw [e101, va_up_ne _ _ (by omega)]; exact f88
  refine r_get kc2 X h b 8 (by have := isB.lt hbB; omega) rfl f106 (by decide) kv_23 rfl dX2_become_91 ?_
  refine lv_iconst (v := 0) hx hb dX2_become_94 (by decide) ?_
  refine lv_iconst (v := 4) hx hb dX2_become_95 (by decide) ?_
  obtain ⟨g108, f107, p109⟩ := (show sA cI 4 (anyA) (w100 (o2 + 4)) from ok103.b4 ho2)
  have f110 : w100 (o2 + 4) = .inl (cI, 4, .inl g108) := f107
  obtain ⟨g112, f111, p113⟩ := (show sA cI 4 (anyA) (w100 (b + 4)) from ok103.b4 hbB)
  have f114 : w100 (b + 4) = .inl (cI, 4, .inl g112) := f111
  obtain ⟨g115, e116⟩ : ∃ z : Nat → Int32, va_cpy g108 g112 0 0 4 = z := ⟨_, rfl⟩
  have p117 : anyA g115 := trivial
  refine r_copy (f1 := g115) X hD h hl.1 kv_152 kv_88 kv_89 kv_90 (o2 + 4) (b + 4) 0 (by have := isB.lt ho2; omega) (by have := isB.lt hbB; omega) rfl rfl f110 f114 rfl (by decide) (by decide) (by decide) (by decide) (by decide) e116 ⟨Nat.le_of_ble_eq_true rfl, by decide⟩ dX2_become_96 (fun H locs w118 e119 h => ?_)
  have f120 : w118 (b + 4) = .inl (cI, 4, .inl g115) := (congrFun e119 _).trans (va_up_self _ _ _)
  have ok121 : OK cI cB cZ cO ad w118 := OK.up ok103 e119 (Eq.mpr (okc_b4 hbB) (sA_mk p117))
  have kx122 : FR b w w118 := FR.up kx104 e119 (by omega)
  refine lv_aload_n hx hb dX2_become_99 rfl (lv_at hl 1 rfl) ?_
  have f123 : w118 o2 = .inr (1, [.int q2, .int q3, .int q4, .int q5, .int q6, .ref (ad (o2 + 1)), .ref (ad (o2 + 2)), .ref (ad (o2 + 3)), .ref (ad (o2 + 4)), .ref (ad (o2 + 5)), .ref (ad (o2 + 6)), .ref (ad (o2 + 7)), .ref (ad (o2 + 9)), .ref (ad (o2 + 11))]) := by rw [e119, va_up_ne _ _ (by omega)]; exact f105
  refine r_get kc2 X h o2 9 (by have := isB.lt ho2; omega) rfl f123 (by decide) kv_24 rfl dX2_become_100 ?_
  refine lv_iconst (v := 0) hx hb dX2_become_103 (by decide) ?_
  refine lv_aload_n hx hb dX2_become_104 rfl (lv_at hl 0 rfl) ?_
  have f124 : w118 b = .inr (1, [.int q2, .int q3, .int q4, .int q5, .int q6, .ref (ad (b + 1)), .ref (ad (b + 2)), .ref (ad (b + 3)), .ref (ad (b + 4)), .ref (ad (b + 5)), .ref (ad (b + 6)), .ref (ad (b + 7)), .ref (ad (b + 9)), .ref (ad (b + 11))]) := by rw [e119, va_up_ne _ _ (by omega)]; exact f106
  refine r_get kc2 X h b 9 (by have := isB.lt hbB; omega) rfl f124 (by decide) kv_24 rfl dX2_become_105 ?_
  refine lv_iconst (v := 0) hx hb dX2_become_108 (by decide) ?_
  refine lv_iconst (v := 4) hx hb dX2_become_109 (by decide) ?_
  obtain ⟨g126, f125, p127⟩ := (show sA cI 4 (rgA 0 60) (w118 (o2 + 5)) from ok121.b5 ho2)
  have f128 : w118 (o2 + 5) = .inl (cI, 4, .inl g126) := f125
  obtain ⟨g130, f129, p131⟩ := (show sA cI 4 (rgA 0 60) (w118 (b + 5)) from ok121.b5 hbB)
  have f132 : w118 (b + 5) = .inl (cI, 4, .inl g130) := f129
  obtain ⟨g133, e134⟩ : ∃ z : Nat → Int32, va_cpy g126 g130 0 0 4 = z := ⟨_, rfl⟩
  have p135 : rgA 0 60 g133 := rgA_cpy p127 p131 e134
  refine r_copy (f1 := g133) X hD h hl.1 kv_152 kv_88 kv_89 kv_90 (o2 + 5) (b + 5) 0 (by have := isB.lt ho2; omega) (by have := isB.lt hbB; omega) rfl rfl f128 f132 rfl (by decide) (by decide) (by decide) (by decide) (by decide) e134 ⟨Nat.le_of_ble_eq_true rfl, by decide⟩ dX2_become_110 (fun H locs w136 e137 h => ?_)
  have f138 : w136 (b + 5) = .inl (cI, 4, .inl g133) := (congrFun e137 _).trans (va_up_self _ _ _)
  have ok139 : OK cI cB cZ cO ad w136 := OK.up ok121 e137 (Eq.mpr (okc_b5 hbB) (sA_mk p135))
  have kx140 : FR b w w136 := FR.up kx122 e137 (by omega)
  refine lv_aload_n hx hb dX2_become_113 rfl (lv_at hl 1 rfl) ?_
  have f141 : w136 o2 = .inr (1, [.int q2, .int q3, .int q4, .int q5, .int q6, .ref (ad (o2 + 1)), .ref (ad (o2 + 2)), .ref (ad (o2 + 3)), .ref (ad (o2 + 4)), .ref (ad (o2 + 5)), .ref (ad (o2 + 6)), .ref (ad (o2 + 7)), .ref (ad (o2 + 9)), .ref (ad (o2 + 11))]) := by rw [e137, va_up_ne _ _ (by omega)]; exact f123
  refine r_get kc2 X h o2 10 (by have := isB.lt ho2; omega) rfl f141 (by decide) kv_25 rfl dX2_become_114 ?_
  refine lv_iconst (v := 0) hx hb dX2_become_117 (by decide) ?_
  refine lv_aload_n hx hb dX2_become_118 rfl (lv_at hl 0 rfl) ?_
  have f142 : w136 b = .inr (1, [.int q2, .int q3, .int q4, .int q5, .int q6, .ref (ad (b + 1)), .ref (ad (b + 2)), .ref (ad (b + 3)), .ref (ad (b + 4)), .ref (ad (b + 5)), .ref (ad (b + 6)), .ref (ad (b + 7)), .ref (ad (b + 9)), .ref (ad (b + 11))]) := by rw [e137, va_up_ne _ _ (by omega)]; exact f124
  refine r_get kc2 X h b 10 (by have := isB.lt hbB; omega) rfl f142 (by decide) kv_25 rfl dX2_become_119 ?_
  refine lv_iconst (v := 0) hx hb dX2_become_122 (by decide) ?_
  refine lv_iconst (v := 4) hx hb dX2_become_123 (by decide) ?_
  obtain ⟨g144, f143, p145⟩ := (show sA cI 4 (anyA) (w136 (o2 + 6)) from ok139.b6 ho2)
  have f146 : w136 (o2 + 6) = .inl (cI, 4, .inl g144) := f143
  obtain ⟨g148, f147, p149⟩ := (show sA cI 4 (anyA) (w136 (b + 6)) from ok139.b6 hbB)
  have f150 : w136 (b + 6) = .inl (cI, 4, .inl g148) := f147
  obtain ⟨g151, e152⟩ : ∃ z : Nat → Int32, va_cpy g144 g148 0 0 4 = z := ⟨_, rfl⟩
  have p153 : anyA g151 := trivial
  refine r_copy (f1 := g151) X hD h hl.1 kv_152 kv_88 kv_89 kv_90 (o2 + 6) (b + 6) 0 (by have := isB.lt ho2; omega) (by have := isB.lt hbB; omega) rfl rfl f146 f150 rfl (by decide) (by decide) (by decide) (by decide) (by decide) e152 ⟨Nat.le_of_ble_eq_true rfl, by decide⟩ dX2_become_124 (fun H locs w154 e155 h => ?_)
  have f156 : w154 (b + 6) = .inl (cI, 4, .inl g151) := (congrFun e155 _).trans (va_up_self _ _ _)
  have ok157 : OK cI cB cZ cO ad w154 := OK.up ok139 e155 (Eq.mpr (okc_b6 hbB) (sA_mk p153))
  have kx158 : FR b w w154 := FR.up kx140 e155 (by omega)
  refine lv_aload_n hx hb dX2_become_127 rfl (lv_at hl 0 rfl) ?_
  have f159 : w154 b = .inr (1, [.int q2, .int q3, .int q4, .int q5, .int q6, .ref (ad (b + 1)), .ref (ad (b + 2)), .ref (ad (b + 3)), .ref (ad (b + 4)), .ref (ad (b + 5)), .ref (ad (b + 6)), .ref (ad (b + 7)), .ref (ad (b + 9)), .ref (ad (b + 11))]) := by rw [e155, va_up_ne _ _ (by omega)]; exact f142
  refine r_get kc2 X h b 11 (by have := isB.lt hbB; omega) rfl f159 (by decide) kv_60 rfl dX2_become_128 ?_
  refine lv_aload_n hx hb dX2_become_131 rfl (lv_at hl 1 rfl) ?_
  have f160 : w154 o2 = .inr (1, [.int q2, .int q3, .int q4, .int q5, .int q6, .ref (ad (o2 + 1)), .ref (ad (o2 + 2)), .ref (ad (o2 + 3)), .ref (ad (o2 + 4)), .ref (ad (o2 + 5)), .ref (ad (o2 + 6)), .ref (ad (o2 + 7)), .ref (ad (o2 + 9)), .ref (ad (o2 + 11))]) := by rw [e155, va_up_ne _ _ (by omega)]; exact f141
  refine r_get kc2 X h o2 11 (by have := isB.lt ho2; omega) rfl f160 (by decide) kv_60 rfl dX2_become_132 ?_
  obtain ⟨z162, f161, h163, h164⟩ := (show sR ad 4 (b + 8) 6 (w154 (b + 7)) from ok157.b7 hbB)
  have f165 : w154 (b + 7) = .inr (4, [.ref (ad (b + 8)), .int z162]) := f161
  obtain ⟨g167, f166, p168⟩ := (show sA cI 24 (anyA) (w154 (b + 8)) from ok157.b8 hbB)
  have f169 : w154 (b + 8) = .inl (cI, 24, .inl g167) := f166
  obtain ⟨z171, f170, h172, h173⟩ := (show sR ad 4 (o2 + 8) 6 (w154 (o2 + 7)) from ok157.b7 ho2)
  have f174 : w154 (o2 + 7) = .inr (4, [.ref (ad (o2 + 8)), .int z171]) := f170
  obtain ⟨g176, f175, p177⟩ := (show sA cI 24 (anyA) (w154 (o2 + 8)) from ok157.b8 ho2)
  have f178 : w154 (o2 + 8) = .inl (cI, 24, .inl g176) := f175
  refine n_Vv (na := 1) (As := [.ref (ad (o2 + 7))]) (rest := []) X hD hN h rfl (c_R_become l G cI cB cZ cO ad w154 (b + 7) (o2 + 7) z162 z171 g176 g167 (by have := isB.lt hbB; omega) (by have := isB.lt ho2; omega) (by omega) f165 f169 f174 f178) ⟨kv_153, kv_154, kv_155, kv_64, kv_156⟩ rfl ⟨by decide, by decide, by decide⟩ ⟨Nat.le_of_ble_eq_true rfl, Nat.le_of_ble_eq_true rfl⟩ ⟨Nat.zero_le _, Nat.zero_le _⟩ (by have := isB.lt hbB; omega) f165 rfl rfl hl.1 rfl (Nat.le_of_ble_eq_true rfl) dX2_become_135 (fun w180 H locs hp181 h => ?_)
  obtain ⟨f182, ⟨g183, f184⟩, hf186⟩ := hp181
  have p185 : anyA g183 := trivial
  have ok187 : OK cI cB cZ cO ad w180 := OK.two ok157 hf186 (by rw [f182]; exact Eq.mpr (okc_b7 hbB) (sR_mk (by omega) (by omega))) (by rw [f184]; exact Eq.mpr (okc_b8 hbB) (sA_mk p185))
  have kx188 : FR b w w180 := FR.tr kx158 (FR.two hf186 (by omega))
  refine lv_aload_n hx hb dX2_become_138 rfl (lv_at hl 0 rfl) ?_
  have f189 : w180 b = .inr (1, [.int q2, .int q3, .int q4, .int q5, .int q6, .ref (ad (b + 1)), .ref (ad (b + 2)), .ref (ad (b + 3)), .ref (ad (b + 4)), .ref (ad (b + 5)), .ref (ad (b + 6)), .ref (ad (b + 7)), .ref (ad (b + 9)), .ref (ad (b + 11))]) := (hf186 b (by omega) (by omega)).trans f159
  refine r_get kc2 X h b 12 (by have := isB.lt hbB; omega) rfl f189 (by decide) kv_66 rfl dX2_become_139 ?_
  refine lv_aload_n hx hb dX2_become_142 rfl (lv_at hl 1 rfl) ?_
  have f190 : w180 o2 = .inr (1, [.int q2, .int q3, .int q4, .int q5, .int q6, .ref (ad (o2 + 1)), .ref (ad (o2 + 2)), .ref (ad (o2 + 3)), .ref (ad (o2 + 4)), .ref (ad (o2 + 5)), .ref (ad (o2 + 6)), .ref (ad (o2 + 7)), .ref (ad (o2 + 9)), .ref (ad (o2 + 11))]) := (hf186 o2 (by omega) (by omega)).trans f160
  refine r_get kc2 X h o2 12 (by have := isB.lt ho2; omega) rfl f190 (by decide) kv_66 rfl dX2_become_143 ?_
  obtain ⟨z192, f191, h193, h194⟩ := (show sR ad 4 (b + 10) 6 (w180 (b + 9)) from ok187.b9 hbB)
  have f195 : w180 (b + 9) = .inr (4, [.ref (ad (b + 10)), .int z192]) := f191
  obtain ⟨g197, f196, p198⟩ := (show sA cI 24 (anyA) (w180 (b + 10)) from ok187.b10 hbB)
  have f199 : w180 (b + 10) = .inl (cI, 24, .inl g197) := f196
  obtain ⟨z201, f200, h202, h203⟩ := (show sR ad 4 (o2 + 10) 6 (w180 (o2 + 9)) from ok187.b9 ho2)
  have f204 : w180 (o2 + 9) = .inr (4, [.ref (ad (o2 + 10)), .int z201]) := f200
  obtain ⟨g206, f205, p207⟩ := (show sA cI 24 (anyA) (w180 (o2 + 10)) from ok187.b10 ho2)
  have f208 : w180 (o2 + 10) = .inl (cI, 24, .inl g206) := f205
  refine n_Vv (na := 1) (As := [.ref (ad (o2 + 9))]) (rest := []) X hD hN h rfl (c_R_become l G cI cB cZ cO ad w180 (b + 9) (o2 + 9) z192 z201 g206 g197 (by have := isB.lt hbB; omega) (by have := isB.lt ho2; omega) (by omega) f195 f199 f204 f208) ⟨kv_153, kv_154, kv_155, kv_64, kv_156⟩ rfl ⟨by decide, by decide, by decide⟩ ⟨Nat.le_of_ble_eq_true rfl, Nat.le_of_ble_eq_true rfl⟩ ⟨Nat.zero_le _, Nat.zero_le _⟩ (by have := isB.lt hbB; omega) f195 rfl rfl hl.1 rfl (Nat.le_of_ble_eq_true rfl) dX2_become_146 (fun w210 H locs hp211 h => ?_)
  obtain ⟨f212, ⟨g213, f214⟩, hf216⟩ := hp211
  have p215 : anyA g213 := trivial
  have ok217 : OK cI cB cZ cO ad w210 := OK.two ok187 hf216 (by rw [f212]; exact Eq.mpr (okc_b9 hbB) (sR_mk (by omega) (by omega))) (by rw [f214]; exact Eq.mpr (okc_b10 hbB) (sA_mk p215))
  have kx218 : FR b w w210 := FR.tr kx188 (FR.two hf216 (by omega))
  refine lv_aload_n hx hb dX2_become_149 rfl (lv_at hl 0 rfl) ?_
  have f219 : w210 b = .inr (1, [.int q2, .int q3, .int q4, .int q5, .int q6, .ref (ad (b + 1)), .ref (ad (b + 2)), .ref (ad (b + 3)), .ref (ad (b + 4)), .ref (ad (b + 5)), .ref (ad (b + 6)), .ref (ad (b + 7)), .ref (ad (b + 9)), .ref (ad (b + 11))]) := (hf216 b (by omega) (by omega)).trans f189
  refine r_get kc2 X h b 13 (by have := isB.lt hbB; omega) rfl f219 (by decide) kv_67 rfl dX2_become_150 ?_
  refine lv_aload_n hx hb dX2_become_153 rfl (lv_at hl 1 rfl) ?_
  have f220 : w210 o2 = .inr (1, [.int q2, .int q3, .int q4, .int q5, .int q6, .ref (ad (o2 + 1)), .ref (ad (o2 + 2)), .ref (ad (o2 + 3)), .ref (ad (o2 + 4)), .ref (ad (o2 + 5)), .ref (ad (o2 + 6)), .ref (ad (o2 + 7)), .ref (ad (o2 + 9)), .ref (ad (o2 + 11))]) := (hf216 o2 (by omega) (by omega)).trans f190
  refine r_get kc2 X h o2 13 (by have := isB.lt ho2; omega) rfl f220 (by decide) kv_67 rfl dX2_become_154 ?_
  obtain ⟨z222, f221, h223, h224⟩ := (show sR ad 2 (b + 12) 8 (w210 (b + 11)) from ok217.b11 hbB)
  have f225 : w210 (b + 11) = .inr (2, [.ref (ad (b + 12)), .int z222]) := f221
  obtain ⟨g227, f226, p228⟩ := (show sA cI 88 (pastA) (w210 (b + 12)) from ok217.b12 hbB)
  have f229 : w210 (b + 12) = .inl (cI, 88, .inl g227) := f226
  obtain ⟨z231, f230, h232, h233⟩ := (show sR ad 2 (o2 + 12) 8 (w210 (o2 + 11)) from ok217.b11 ho2)
  have f234 : w210 (o2 + 11) = .inr (2, [.ref (ad (o2 + 12)), .int z231]) := f230
  obtain ⟨g236, f235, p237⟩ := (show sA cI 88 (pastA) (w210 (o2 + 12)) from ok217.b12 ho2)
  have f238 : w210 (o2 + 12) = .inl (cI, 88, .inl g236) := f235
  refine n_Vv (na := 1) (As := [.ref (ad (o2 + 11))]) (rest := []) X hD hN h rfl (c_P_become l G cI cB cZ cO ad w210 (b + 11) (o2 + 11) z222 z231 g236 g227 (by have := isB.lt hbB; omega) (by have := isB.lt ho2; omega) (by omega) f225 f229 f234 f238 p237 p228) ⟨kv_157, kv_158, kv_159, kv_71, kv_160⟩ rfl ⟨by decide, by decide, by decide⟩ ⟨Nat.le_of_ble_eq_true rfl, Nat.le_of_ble_eq_true rfl⟩ ⟨Nat.zero_le _, Nat.zero_le _⟩ (by have := isB.lt hbB; omega) f225 rfl rfl hl.1 rfl (Nat.le_of_ble_eq_true rfl) dX2_become_157 (fun w240 H locs hp241 h => ?_)
  obtain ⟨f242, ⟨g243, f244, p245⟩, hf246⟩ := hp241
  have ok247 : OK cI cB cZ cO ad w240 := OK.two ok217 hf246 (by rw [f242]; exact Eq.mpr (okc_b11 hbB) (sR_mk (by omega) (by omega))) (by rw [f244]; exact Eq.mpr (okc_b12 hbB) (sA_mk p245))
  have kx248 : FR b w w240 := FR.tr kx218 (FR.two hf246 (by omega))
  exact e_v X h hr hlk dX2_become_160 ⟨ok247, kx248, trivial⟩
