set_option maxHeartbeats 4000000 in
set_option maxRecDepth 100000 in
theorem c_passHour (l : Launch) (G : va_G) (cI cB cZ cO : ClassId) (ad : Nat → Nat) (w : Nat → va_E) (b : Nat) (q0 q1 q2 q3 : Int32) (hb0 : b < 74) (pf : w b = .inr (1, [.int q0, .int q1, .int q2, .int q3, .int 0, .ref (ad (b + 1)), .ref (ad (b + 2)), .ref (ad (b + 3)), .ref (ad (b + 4)), .ref (ad (b + 5)), .ref (ad (b + 6)), .ref (ad (b + 7)), .ref (ad (b + 9)), .ref (ad (b + 11))])) : MV l G (tyq cI cB cZ cO) yX2_passHour cX2_passHour 2 0 0 74 ad w [.ref (ad b)] (fun w1 => w1 b = .inr (1, [.int (q0 + 1), .int q1, .int 0, .int q3, .int 0, .ref (ad (b + 1)), .ref (ad (b + 2)), .ref (ad (b + 3)), .ref (ad (b + 4)), .ref (ad (b + 5)), .ref (ad (b + 6)), .ref (ad (b + 7)), .ref (ad (b + 9)), .ref (ad (b + 11))]) ∧ ∀ k, k ≠ b → w1 k = w k) := by
  refine mk_v (own := "NoonShade$Isle") rfl (by decide) (Nat.le_of_ble_eq_true rfl) ?_
  intro p e s m below meth c ls X hD hN hr hlk h hl
  have hx := X.1.1
  have hb := X.1.2.1
  have hown := X.1.2.2.2.1
  have hts := X.1.2.2.2.2
  have hl : lv_has ls 2 [(0, .ref (ad b))] := hl
  refine lv_iconst (v := 0) hx hb dX2_passHour_0 (by decide) ?_
  refine lv_istore_n (lv' := [(1, .int 0), (0, .ref (ad b))]) hx hb dX2_passHour_1 rfl hl (by decide) rfl (fun ls hl => ?_)
  refine lv_iload_n hx hb dX2_passHour_2 rfl (lv_at hl 0 rfl) ?_
  refine lv_aload_n hx hb dX2_passHour_3 rfl (lv_at hl 1 rfl) ?_
  refine r_get kc2 X h b 4 (by omega) rfl pf (by decide) kw_1 rfl dX2_passHour_4 ?_
  refine lv_icmp_ge (tgt := 47) hx hb dX2_passHour_7 (by decide) (fun _ => ?_) (fun hc => absurd (by decide) hc)
  refine lv_aload_n hx hb dX2_passHour_47 rfl (lv_at hl 1 rfl) ?_
  refine lv_dup hx hb dX2_passHour_48 rfl ?_
  refine r_get kc2 X h b 0 (by omega) rfl pf (by decide) kw_22 rfl dX2_passHour_49 ?_
  refine lv_iconst (v := 1) hx hb dX2_passHour_52 (by decide) ?_
  refine o_iadd (z := q0 + 1) hx hb dX2_passHour_53 rfl ?_
  refine r_put kc2 X hD h b 0 (by omega) rfl pf (by decide) kw_22 rfl rfl rfl (Nat.le_of_ble_eq_true rfl) dX2_passHour_54 (fun H locs w1 e2 h => ?_)
  have f3 : w1 b = .inr (1, [.int (q0 + 1), .int q1, .int q2, .int q3, .int 0, .ref (ad (b + 1)), .ref (ad (b + 2)), .ref (ad (b + 3)), .ref (ad (b + 4)), .ref (ad (b + 5)), .ref (ad (b + 6)), .ref (ad (b + 7)), .ref (ad (b + 9)), .ref (ad (b + 11))]) := (congrFun e2 _).trans (va_up_self _ _ _)
  refine lv_aload_n hx hb dX2_passHour_57 rfl (lv_at hl 1 rfl) ?_
  refine lv_iconst (v := 0) hx hb dX2_passHour_58 (by decide) ?_
  refine r_put kc2 X hD h b 2 (by omega) rfl f3 (by decide) kw_24 rfl rfl rfl (Nat.le_of_ble_eq_true rfl) dX2_passHour_59 (fun H locs w4 e5 h => ?_)
  have f6 : w4 b = .inr (1, [.int (q0 + 1), .int q1, .int 0, .int q3, .int 0, .ref (ad (b + 1)), .ref (ad (b + 2)), .ref (ad (b + 3)), .ref (ad (b + 4)), .ref (ad (b + 5)), .ref (ad (b + 6)), .ref (ad (b + 7)), .ref (ad (b + 9)), .ref (ad (b + 11))]) := (congrFun e5 _).trans (va_up_self _ _ _)
  exact e_v X h hr hlk dX2_passHour_62 ⟨f6, fun k h1 => ((congrFun e5 k).trans (va_up_ne _ _ (by omega))).trans ((congrFun e2 k).trans (va_up_ne _ _ (by omega)))⟩

set_option maxHeartbeats 4000000 in
set_option maxRecDepth 100000 in
theorem c_passHours (l : Launch) (G : va_G) (cI cB cZ cO : ClassId) (ad : Nat → Nat) (w : Nat → va_E) (n : Int32) (hn0 : 0 ≤ n.toInt) (hn1 : n.toInt ≤ 60) (pf1 : w 1 = .inr (1, [.int 0, .int 0, .int 0, .int 0, .int 0, .ref (ad 2), .ref (ad 3), .ref (ad 4), .ref (ad 5), .ref (ad 6), .ref (ad 7), .ref (ad 8), .ref (ad 10), .ref (ad 12)])) : MV l G (tyq cI cB cZ cO) yX2_passHours cX2_passHours 3 1 21 74 ad w [.ref (ad 1), .int n] (fun w1 => w1 1 = .inr (1, [.int n, .int 0, .int 0, .int 0, .int 0, .ref (ad 2), .ref (ad 3), .ref (ad 4), .ref (ad 5), .ref (ad 6), .ref (ad 7), .ref (ad 8), .ref (ad 10), .ref (ad 12)]) ∧ ∀ k, k ≠ 1 → w1 k = w k) := by
  refine mk_v (own := "NoonShade$Isle") rfl (by decide) (Nat.le_of_ble_eq_true rfl) ?_
  intro p e s m below meth c ls X hD hN hr hlk h hl
  have hx := X.1.1
  have hb := X.1.2.1
  have hown := X.1.2.2.2.1
  have hts := X.1.2.2.2.2
  have hl : lv_has ls 3 [(0, .ref (ad 1)), (1, .int n)] := hl
  refine lv_iconst (v := 0) hx hb dX2_passHours_0 (by decide) ?_
  refine lv_istore_n (lv' := [(2, .int 0), (0, .ref (ad 1)), (1, .int n)]) hx hb dX2_passHours_1 rfl hl (by decide) rfl (fun ls hl => ?_)
  have hloop1 : ∀ (d : Nat) (k : Int32) (wL : Nat → va_E) (H : Heap) (locs : List Loc) (ls : Array Slot), 0 ≤ k.toInt → k.toInt ≤ n.toInt → wL 1 = .inr (1, [.int k, .int 0, .int 0, .int 0, .int 0, .ref (ad 2), .ref (ad 3), .ref (ad 4), .ref (ad 5), .ref (ad 6), .ref (ad 7), .ref (ad 8), .ref (ad 10), .ref (ad 12)]) → (∀ k, k ≠ 1 → wL k = w k) → n.toInt - k.toInt < (d : Int) → St G 74 ad (wA 74 ad s.heap.size) s.heap wL H locs → lv_has ls 3 [(0, .ref (ad 1)), (1, .int n), (2, .int k)] → W p l e { frames := 1, cells := 0, slots := 0, locals := 21 } s m [.ref (ad 1), .int n].toArray below meth c H locs 0 0 (MQ below (va_Qv (fun w1 => w1 1 = .inr (1, [.int n, .int 0, .int 0, .int 0, .int 0, .ref (ad 2), .ref (ad 3), .ref (ad 4), .ref (ad 5), .ref (ad 6), .ref (ad 7), .ref (ad 8), .ref (ad 10), .ref (ad 12)]) ∧ ∀ k, k ≠ 1 → w1 k = w k) (Aft G 74 ad) (wA 74 ad s.heap.size)) [.ref (ad 1), .int n].toArray s 0 0 (wA 74 ad s.heap.size)) (F0 m 2 ls []) := by
    intro d
    induction d with
    | zero => intro k wL H locs ls hk0 hk1 g1 hfr hm h hl; exfalso; omega
    | succ d ih =>
      intro k wL H locs ls hk0 hk1 g1 hfr hm h hl
      refine lv_iload_n hx hb dX2_passHours_2 rfl (lv_at hl 2 rfl) ?_
      refine lv_iload_n hx hb dX2_passHours_3 rfl (lv_at hl 1 rfl) ?_
      refine lv_icmp_ge (tgt := 27) hx hb dX2_passHours_4 (by decide) (fun hc2 => ?_) (fun hc2 => ?_)
      · have hc2 : (n).toInt ≤ (k).toInt := i_le hc2 rfl rfl
        have hkn : k = n := (fa_eq _ _).mpr (by omega)
        exact e_v X h hr hlk dX2_passHours_27 ⟨by rw [← hkn]; exact g1, fun k h1 => hfr k (by omega)⟩
      · have hc2 : ¬ (n).toInt ≤ (k).toInt := i_nle hc2 rfl rfl
        refine lv_aload_n hx hb dX2_passHours_7 rfl (lv_at hl 0 rfl) ?_
        refine r_get kc2 X h 1 0 (by decide) rfl g1 (by decide) kw_22 rfl dX2_passHours_8 ?_
        refine lv_sipush (v := 9999) hx hb dX2_passHours_11 (by decide) ?_
        refine lv_icmp_ge (tgt := 27) hx hb dX2_passHours_14 (by decide) (fun hc3 => ?_) (fun hc3 => ?_)
        · have hc3 : 9999 ≤ (k).toInt := i_le hc3 rfl rfl
          exfalso; omega
        · have hc3 : ¬ 9999 ≤ (k).toInt := i_nle hc3 rfl rfl
          refine lv_aload_n hx hb dX2_passHours_17 rfl (lv_at hl 0 rfl) ?_
          refine q_Vv (na := 0) (As := []) (rest := []) X hD hN h rfl (c_passHour l G cI cB cZ cO ad wL 1 _ _ _ _ (by decide) g1) ⟨kw_137, kw_138, kw_139, kw_9, kw_140⟩ rfl ⟨by decide, by decide, by decide⟩ ⟨Nat.le_of_ble_eq_true rfl, Nat.le_of_ble_eq_true rfl⟩ ⟨Nat.zero_le _, Nat.zero_le _⟩ (by decide) g1 rfl rfl hl.1 rfl (Nat.le_of_ble_eq_true rfl) dX2_passHours_18 (fun w5 H locs hp6 h => ?_)
          obtain ⟨f7, hf8⟩ := hp6
          refine lv_iinc (v := k + 1) (lv' := [(2, .int (k + 1)), (0, .ref (ad 1)), (1, .int n)]) hx hb dX2_passHours_21 hl (k := 2) rfl rfl (by decide) rfl (fun ls hl => ?_)
          refine lv_goto (tgt := 2) hx hb dX2_passHours_24 (by decide) ?_
          have hi : (k + 1).toInt = k.toInt + 1 := inc1 (by omega) (by omega)
          exact ih (k + 1) w5 _ _ _ (by omega) (by omega) f7 (fun k h0 => (hf8 k (by omega)).trans (hfr k (by omega))) (by omega) h (lv_sub hl [1, 2, 0] rfl)
  exact hloop1 61 0 w _ _ _ (by decide) (by have : (0 : Int32).toInt = 0 := rfl; omega) pf1 (fun k _ => rfl) (by have : (0 : Int32).toInt = 0 := rfl; omega) h (lv_sub hl [1, 2, 0] rfl)

set_option maxHeartbeats 4000000 in
set_option maxRecDepth 100000 in
theorem c_remember (l : Launch) (G : va_G) (cI cB cZ cO : ClassId) (ad : Nat → Nat) (w : Nat → va_E)  (pf12 : w 12 = .inr (2, [.ref (ad 13), .int 0])) (pf13 : w 13 = .inl (cI, 88, .inl (fun _ => 0))) (pf1 : w 1 = .inr (1, [.int 0, .int 0, .int 0, .int 0, .int 0, .ref (ad 2), .ref (ad 3), .ref (ad 4), .ref (ad 5), .ref (ad 6), .ref (ad 7), .ref (ad 8), .ref (ad 10), .ref (ad 12)])) (pf6 : w 6 = .inl (cI, 4, .inl (fun _ => 0))) (pf7 : w 7 = .inl (cI, 4, .inl (fun _ => 0))) : MV l G (tyq cI cB cZ cO) yX4_remember cX4_remember 3 1 40 74 ad w [.ref (ad 12), .ref (ad 1)] (fun w1 => ∀ k, k ≠ 12 → k ≠ 13 → w1 k = w k) := by
  refine mk_v (own := "NoonShade$Past") rfl (by decide) (Nat.le_of_ble_eq_true rfl) ?_
  intro p e s m below meth c ls X hD hN hr hlk h hl
  have hx := X.1.1
  have hb := X.1.2.1
  have hown := X.1.2.2.2.1
  have hts := X.1.2.2.2.2
  have hl : lv_has ls 3 [(0, .ref (ad 12)), (1, .ref (ad 1))] := hl
  refine lv_aload_n hx hb dX4_remember_0 rfl (lv_at hl 0 rfl) ?_
  refine r_get kc4 X h 12 1 (by decide) rfl pf12 (by decide) kw_21 rfl dX4_remember_1 ?_
  refine lv_bipush (v := 8) hx hb dX4_remember_4 (by decide) ?_
  refine lv_icmp_lt (tgt := 31) hx hb dX4_remember_6 (by decide) (fun _ => ?_) (fun hc => absurd (by decide) hc)
  refine lv_aload_n hx hb dX4_remember_31 rfl (lv_at hl 0 rfl) ?_
  refine r_get kc4 X h 12 1 (by decide) rfl pf12 (by decide) kw_21 rfl dX4_remember_32 ?_
  refine lv_bipush (v := 11) hx hb dX4_remember_35 (by decide) ?_
  refine o_imul (z := 0) hx hb dX4_remember_37 rfl ?_
  refine lv_istore_n (lv' := [(2, .int 0), (0, .ref (ad 12)), (1, .ref (ad 1))]) hx hb dX4_remember_38 rfl hl (by decide) rfl (fun ls hl => ?_)
  refine lv_aload_n hx hb dX4_remember_39 rfl (lv_at hl 2 rfl) ?_
  refine r_get kc2 X h 1 9 (by decide) rfl pf1 (by decide) kw_141 rfl dX4_remember_40 ?_
  refine lv_iconst (v := 0) hx hb dX4_remember_43 (by decide) ?_
  refine lv_aload_n hx hb dX4_remember_44 rfl (lv_at hl 1 rfl) ?_
  refine r_get kc4 X h 12 0 (by decide) rfl pf12 (by decide) kw_142 rfl dX4_remember_45 ?_
  refine lv_iload_n hx hb dX4_remember_48 rfl (lv_at hl 0 rfl) ?_
  refine lv_iconst (v := 4) hx hb dX4_remember_49 (by decide) ?_
  refine r_copy (f1 := fun _ => 0) X hD h hl.1 kw_143 kw_144 kw_145 kw_146 6 13 0 (by decide) (by decide) rfl rfl pf6 pf13 rfl (by decide) (by decide) (by decide) (by decide) (by decide) (cpy0 _ _ _) ⟨Nat.le_of_ble_eq_true rfl, by decide⟩ dX4_remember_50 (fun H locs w1 e2 h => ?_)
  have f3 : w1 13 = .inl (cI, 88, .inl (fun _ => 0)) := (congrFun e2 _).trans (va_up_self _ _ _)
  refine lv_aload_n hx hb dX4_remember_53 rfl (lv_at hl 2 rfl) ?_
  have f4 : w1 1 = .inr (1, [.int 0, .int 0, .int 0, .int 0, .int 0, .ref (ad 2), .ref (ad 3), .ref (ad 4), .ref (ad 5), .ref (ad 6), .ref (ad 7), .ref (ad 8), .ref (ad 10), .ref (ad 12)]) := by rw [e2, va_up_ne _ _ (by decide)]; exact pf1
  refine r_get kc2 X h 1 10 (by decide) rfl f4 (by decide) kw_147 rfl dX4_remember_54 ?_
  refine lv_iconst (v := 0) hx hb dX4_remember_57 (by decide) ?_
  refine lv_aload_n hx hb dX4_remember_58 rfl (lv_at hl 1 rfl) ?_
  have f5 : w1 12 = .inr (2, [.ref (ad 13), .int 0]) := by rw [e2, va_up_ne _ _ (by decide)]; exact pf12
  refine r_get kc4 X h 12 0 (by decide) rfl f5 (by decide) kw_142 rfl dX4_remember_59 ?_
  refine lv_iload_n hx hb dX4_remember_62 rfl (lv_at hl 0 rfl) ?_
  refine lv_iconst (v := 4) hx hb dX4_remember_63 (by decide) ?_
  refine o_iadd (z := 4) hx hb dX4_remember_64 rfl ?_
  refine lv_iconst (v := 4) hx hb dX4_remember_65 (by decide) ?_
  have f6 : w1 7 = .inl (cI, 4, .inl (fun _ => 0)) := by rw [e2, va_up_ne _ _ (by decide)]; exact pf7
  refine r_copy (f1 := fun _ => 0) X hD h hl.1 kw_143 kw_144 kw_145 kw_146 7 13 0 (by decide) (by decide) rfl rfl f6 f3 rfl (by decide) (by decide) (by decide) (by decide) (by decide) (cpy0 _ _ _) ⟨Nat.le_of_ble_eq_true rfl, by decide⟩ dX4_remember_66 (fun H locs w7 e8 h => ?_)
  have f9 : w7 13 = .inl (cI, 88, .inl (fun _ => 0)) := (congrFun e8 _).trans (va_up_self _ _ _)
  refine lv_aload_n hx hb dX4_remember_69 rfl (lv_at hl 1 rfl) ?_
  have f10 : w7 12 = .inr (2, [.ref (ad 13), .int 0]) := by rw [e8, va_up_ne _ _ (by decide)]; exact f5
  refine r_get kc4 X h 12 0 (by decide) rfl f10 (by decide) kw_142 rfl dX4_remember_70 ?_
  refine lv_iload_n hx hb dX4_remember_73 rfl (lv_at hl 0 rfl) ?_
  refine lv_bipush (v := 8) hx hb dX4_remember_74 (by decide) ?_
  refine o_iadd (z := 8) hx hb dX4_remember_76 rfl ?_
  refine lv_aload_n hx hb dX4_remember_77 rfl (lv_at hl 2 rfl) ?_
  have f11 : w7 1 = .inr (1, [.int 0, .int 0, .int 0, .int 0, .int 0, .ref (ad 2), .ref (ad 3), .ref (ad 4), .ref (ad 5), .ref (ad 6), .ref (ad 7), .ref (ad 8), .ref (ad 10), .ref (ad 12)]) := by rw [e8, va_up_ne _ _ (by decide)]; exact f4
  refine r_get kc2 X h 1 2 (by decide) rfl f11 (by decide) kw_148 rfl dX4_remember_78 ?_
  refine o_iast (f1 := fun _ => 0) X hD h 13 0 (by decide) rfl f9 rfl (by unfold vp_in; decide) (upd0 _) dX4_remember_81 (fun H locs w12 e13 h => ?_)
  have f14 : w12 13 = .inl (cI, 88, .inl (fun _ => 0)) := (congrFun e13 _).trans (va_up_self _ _ _)
  refine lv_aload_n hx hb dX4_remember_82 rfl (lv_at hl 1 rfl) ?_
  have f15 : w12 12 = .inr (2, [.ref (ad 13), .int 0]) := by rw [e13, va_up_ne _ _ (by decide)]; exact f10
  refine r_get kc4 X h 12 0 (by decide) rfl f15 (by decide) kw_142 rfl dX4_remember_83 ?_
  refine lv_iload_n hx hb dX4_remember_86 rfl (lv_at hl 0 rfl) ?_
  refine lv_bipush (v := 8) hx hb dX4_remember_87 (by decide) ?_
  refine o_iadd (z := 8) hx hb dX4_remember_89 rfl ?_
  refine lv_iconst (v := 1) hx hb dX4_remember_90 (by decide) ?_
  refine o_iadd (z := 9) hx hb dX4_remember_91 rfl ?_
  refine lv_aload_n hx hb dX4_remember_92 rfl (lv_at hl 2 rfl) ?_
  have f16 : w12 1 = .inr (1, [.int 0, .int 0, .int 0, .int 0, .int 0, .ref (ad 2), .ref (ad 3), .ref (ad 4), .ref (ad 5), .ref (ad 6), .ref (ad 7), .ref (ad 8), .ref (ad 10), .ref (ad 12)]) := by rw [e13, va_up_ne _ _ (by decide)]; exact f11
  refine r_get kc2 X h 1 1 (by decide) rfl f16 (by decide) kw_149 rfl dX4_remember_93 ?_
  refine o_iast (f1 := fun _ => 0) X hD h 13 0 (by decide) rfl f14 rfl (by unfold vp_in; decide) (upd0 _) dX4_remember_96 (fun H locs w17 e18 h => ?_)
  have f19 : w17 13 = .inl (cI, 88, .inl (fun _ => 0)) := (congrFun e18 _).trans (va_up_self _ _ _)
  refine lv_aload_n hx hb dX4_remember_97 rfl (lv_at hl 1 rfl) ?_
  have f20 : w17 12 = .inr (2, [.ref (ad 13), .int 0]) := by rw [e18, va_up_ne _ _ (by decide)]; exact f15
  refine r_get kc4 X h 12 0 (by decide) rfl f20 (by decide) kw_142 rfl dX4_remember_98 ?_
  refine lv_iload_n hx hb dX4_remember_101 rfl (lv_at hl 0 rfl) ?_
  refine lv_bipush (v := 8) hx hb dX4_remember_102 (by decide) ?_
  refine o_iadd (z := 8) hx hb dX4_remember_104 rfl ?_
  refine lv_iconst (v := 2) hx hb dX4_remember_105 (by decide) ?_
  refine o_iadd (z := 10) hx hb dX4_remember_106 rfl ?_
  refine lv_aload_n hx hb dX4_remember_107 rfl (lv_at hl 2 rfl) ?_
  have f21 : w17 1 = .inr (1, [.int 0, .int 0, .int 0, .int 0, .int 0, .ref (ad 2), .ref (ad 3), .ref (ad 4), .ref (ad 5), .ref (ad 6), .ref (ad 7), .ref (ad 8), .ref (ad 10), .ref (ad 12)]) := by rw [e18, va_up_ne _ _ (by decide)]; exact f16
  refine r_get kc2 X h 1 0 (by decide) rfl f21 (by decide) kw_150 rfl dX4_remember_108 ?_
  refine o_iast (f1 := fun _ => 0) X hD h 13 0 (by decide) rfl f19 rfl (by unfold vp_in; decide) (upd0 _) dX4_remember_111 (fun H locs w22 e23 h => ?_)
  have f24 : w22 13 = .inl (cI, 88, .inl (fun _ => 0)) := (congrFun e23 _).trans (va_up_self _ _ _)
  refine lv_aload_n hx hb dX4_remember_112 rfl (lv_at hl 1 rfl) ?_
  refine lv_dup hx hb dX4_remember_113 rfl ?_
  have f25 : w22 12 = .inr (2, [.ref (ad 13), .int 0]) := by rw [e23, va_up_ne _ _ (by decide)]; exact f20
  refine r_get kc4 X h 12 1 (by decide) rfl f25 (by decide) kw_21 rfl dX4_remember_114 ?_
  refine lv_iconst (v := 1) hx hb dX4_remember_117 (by decide) ?_
  refine o_iadd (z := 1) hx hb dX4_remember_118 rfl ?_
  refine r_put kc4 X hD h 12 1 (by decide) rfl f25 (by decide) kw_21 rfl rfl rfl (Nat.le_of_ble_eq_true rfl) dX4_remember_119 (fun H locs w26 e27 h => ?_)
  have f28 : w26 12 = .inr (2, [.ref (ad 13), .int 1]) := (congrFun e27 _).trans (va_up_self _ _ _)
  exact e_v X h hr hlk dX4_remember_122 fun k h1 h2 => ((congrFun e27 k).trans (va_up_ne _ _ (by omega))).trans (((congrFun e23 k).trans (va_up_ne _ _ (by omega))).trans (((congrFun e18 k).trans (va_up_ne _ _ (by omega))).trans (((congrFun e13 k).trans (va_up_ne _ _ (by omega))).trans (((congrFun e8 k).trans (va_up_ne _ _ (by omega))).trans ((congrFun e2 k).trans (va_up_ne _ _ (by omega)))))))

set_option maxHeartbeats 4000000 in
set_option maxRecDepth 100000 in
theorem c_R_become (l : Launch) (G : va_G) (cI cB cZ cO : ClassId) (ad : Nat → Nat) (w : Nat → va_E) (b o : Nat) (z y : Int32) (f g : Nat → Int32) (hb0 : b + 1 < 74) (ho0 : o + 1 < 74) (hd : o + 1 < b ∨ b + 1 < o) (pb : w b = .inr (4, [.ref (ad (b + 1)), .int z])) (pb1 : w (b + 1) = .inl (cI, 24, .inl g)) (po : w o = .inr (4, [.ref (ad (o + 1)), .int y])) (po1 : w (o + 1) = .inl (cI, 24, .inl f)) : MV l G (tyq cI cB cZ cO) yX6_become cX6_become 2 1 40 74 ad w [.ref (ad b), .ref (ad o)] (fun w1 => ∀ k, k ≠ b → k ≠ b + 1 → w1 k = w k) := by
  refine mk_v (own := "NoonShade$Rows") rfl (by decide) (Nat.le_of_ble_eq_true rfl) ?_
  intro p e s m below meth c ls X hD hN hr hlk h hl
  have hx := X.1.1
  have hb := X.1.2.1
  have hown := X.1.2.2.2.1
  have hts := X.1.2.2.2.2
  have hl : lv_has ls 2 [(0, .ref (ad b)), (1, .ref (ad o))] := hl
  refine lv_aload_n hx hb dX6_become_0 rfl (lv_at hl 1 rfl) ?_
  refine r_get kc6 X h o 0 (by omega) rfl po (by decide) kw_159 rfl dX6_become_1 ?_
  refine lv_iconst (v := 0) hx hb dX6_become_4 (by decide) ?_
  refine lv_aload_n hx hb dX6_become_5 rfl (lv_at hl 0 rfl) ?_
  refine r_get kc6 X h b 0 (by omega) rfl pb (by decide) kw_159 rfl dX6_become_6 ?_
  refine lv_iconst (v := 0) hx hb dX6_become_9 (by decide) ?_
  refine lv_bipush (v := 24) hx hb dX6_become_10 (by decide) ?_
  refine r_copy (f1 := va_cpy f g 0 0 24) X hD h hl.1 kw_160 kw_144 kw_145 kw_146 (o + 1) (b + 1) 0 (by omega) (by omega) rfl rfl po1 pb1 rfl (by decide) (by decide) (by decide) (by decide) (by decide) rfl ⟨Nat.le_of_ble_eq_true rfl, by decide⟩ dX6_become_12 (fun H locs w1 e2 h => ?_)
  have f3 : w1 (b + 1) = .inl (cI, 24, .inl (va_cpy f g 0 0 24)) := (congrFun e2 _).trans (va_up_self _ _ _)
  refine lv_aload_n hx hb dX6_become_15 rfl (lv_at hl 0 rfl) ?_
  refine lv_aload_n hx hb dX6_become_16 rfl (lv_at hl 1 rfl) ?_
  have f4 : w1 o = .inr (4, [.ref (ad (o + 1)), .int y]) := by rw [e2, va_up_ne _ _ (by omega)]; exact po
  refine r_get kc6 X h o 1 (by omega) rfl f4 (by decide) kw_20 rfl dX6_become_17 ?_
  have f5 : w1 b = .inr (4, [.ref (ad (b + 1)), .int z]) := by rw [e2, va_up_ne _ _ (by omega)]; exact pb
  refine r_put kc6 X hD h b 1 (by omega) rfl f5 (by decide) kw_20 rfl rfl rfl (Nat.le_of_ble_eq_true rfl) dX6_become_20 (fun H locs w6 e7 h => ?_)
  have f8 : w6 b = .inr (4, [.ref (ad (b + 1)), .int y]) := (congrFun e7 _).trans (va_up_self _ _ _)
  exact e_v X h hr hlk dX6_become_23 fun k h1 h2 => ((congrFun e7 k).trans (va_up_ne _ _ (by omega))).trans ((congrFun e2 k).trans (va_up_ne _ _ (by omega)))

set_option maxHeartbeats 4000000 in
set_option maxRecDepth 100000 in
theorem c_P_become (l : Launch) (G : va_G) (cI cB cZ cO : ClassId) (ad : Nat → Nat) (w : Nat → va_E) (b o : Nat) (z y : Int32) (f g : Nat → Int32) (hb0 : b + 1 < 74) (ho0 : o + 1 < 74) (hd : o + 1 < b ∨ b + 1 < o) (pb : w b = .inr (2, [.ref (ad (b + 1)), .int z])) (pb1 : w (b + 1) = .inl (cI, 88, .inl g)) (po : w o = .inr (2, [.ref (ad (o + 1)), .int y])) (po1 : w (o + 1) = .inl (cI, 88, .inl f)) : MV l G (tyq cI cB cZ cO) yX4_become cX4_become 2 1 40 74 ad w [.ref (ad b), .ref (ad o)] (fun w1 => ∀ k, k ≠ b → k ≠ b + 1 → w1 k = w k) := by
  refine mk_v (own := "NoonShade$Past") rfl (by decide) (Nat.le_of_ble_eq_true rfl) ?_
  intro p e s m below meth c ls X hD hN hr hlk h hl
  have hx := X.1.1
  have hb := X.1.2.1
  have hown := X.1.2.2.2.1
  have hts := X.1.2.2.2.2
  have hl : lv_has ls 2 [(0, .ref (ad b)), (1, .ref (ad o))] := hl
  refine lv_aload_n hx hb dX4_become_0 rfl (lv_at hl 1 rfl) ?_
  refine r_get kc4 X h o 0 (by omega) rfl po (by decide) kw_142 rfl dX4_become_1 ?_
  refine lv_iconst (v := 0) hx hb dX4_become_4 (by decide) ?_
  refine lv_aload_n hx hb dX4_become_5 rfl (lv_at hl 0 rfl) ?_
  refine r_get kc4 X h b 0 (by omega) rfl pb (by decide) kw_142 rfl dX4_become_6 ?_
  refine lv_iconst (v := 0) hx hb dX4_become_9 (by decide) ?_
  refine lv_bipush (v := 88) hx hb dX4_become_10 (by decide) ?_
  refine r_copy (f1 := va_cpy f g 0 0 88) X hD h hl.1 kw_143 kw_144 kw_145 kw_146 (o + 1) (b + 1) 0 (by omega) (by omega) rfl rfl po1 pb1 rfl (by decide) (by decide) (by decide) (by decide) (by decide) rfl ⟨Nat.le_of_ble_eq_true rfl, by decide⟩ dX4_become_12 (fun H locs w1 e2 h => ?_)
  have f3 : w1 (b + 1) = .inl (cI, 88, .inl (va_cpy f g 0 0 88)) := (congrFun e2 _).trans (va_up_self _ _ _)
  refine lv_aload_n hx hb dX4_become_15 rfl (lv_at hl 0 rfl) ?_
  refine lv_aload_n hx hb dX4_become_16 rfl (lv_at hl 1 rfl) ?_
  have f4 : w1 o = .inr (2, [.ref (ad (o + 1)), .int y]) := by rw [e2, va_up_ne _ _ (by omega)]; exact po
  refine r_get kc4 X h o 1 (by omega) rfl f4 (by decide) kw_21 rfl dX4_become_17 ?_
  have f5 : w1 b = .inr (2, [.ref (ad (b + 1)), .int z]) := by rw [e2, va_up_ne _ _ (by omega)]; exact pb
  refine r_put kc4 X hD h b 1 (by omega) rfl f5 (by decide) kw_21 rfl rfl rfl (Nat.le_of_ble_eq_true rfl) dX4_become_20 (fun H locs w6 e7 h => ?_)
  have f8 : w6 b = .inr (2, [.ref (ad (b + 1)), .int y]) := (congrFun e7 _).trans (va_up_self _ _ _)
  exact e_v X h hr hlk dX4_become_23 fun k h1 h2 => ((congrFun e7 k).trans (va_up_ne _ _ (by omega))).trans ((congrFun e2 k).trans (va_up_ne _ _ (by omega)))

set_option maxHeartbeats 4000000 in
set_option maxRecDepth 100000 in
theorem c_become14 (l : Launch) (G : va_G) (cI cB cZ cO : ClassId) (ad : Nat → Nat) (w : Nat → va_E)  (pf1 : w 1 = .inr (1, [.int 0, .int 0, .int 0, .int 0, .int 0, .ref (ad 2), .ref (ad 3), .ref (ad 4), .ref (ad 5), .ref (ad 6), .ref (ad 7), .ref (ad 8), .ref (ad 10), .ref (ad 12)])) (pf2 : w 2 = .inl (cI, 7, .inl (fun _ => 0))) (pf3 : w 3 = .inl (cI, 7, .inl (fun _ => 0))) (pf4 : w 4 = .inl (cI, 7, .inl (fun _ => 0))) (pf5 : w 5 = .inl (cI, 4, .inl (fun _ => 0))) (pf6 : w 6 = .inl (cI, 4, .inl (fun _ => 0))) (pf7 : w 7 = .inl (cI, 4, .inl (fun _ => 0))) (pf8 : w 8 = .inr (4, [.ref (ad 9), .int 0])) (pf9 : w 9 = .inl (cI, 24, .inl (fun _ => 0))) (pf10 : w 10 = .inr (4, [.ref (ad 11), .int 0])) (pf11 : w 11 = .inl (cI, 24, .inl (fun _ => 0))) (pf12 : w 12 = .inr (2, [.ref (ad 13), .int 0])) (pf13 : w 13 = .inl (cI, 88, .inl (fun _ => 0))) (pf14 : w 14 = .inr (1, [.int 0, .int 0, .int 0, .int 0, .int 0, .ref (ad 15), .ref (ad 16), .ref (ad 17), .ref (ad 18), .ref (ad 19), .ref (ad 20), .ref (ad 21), .ref (ad 23), .ref (ad 25)])) (pf15 : w 15 = .inl (cI, 7, .inl (fun _ => 0))) (pf16 : w 16 = .inl (cI, 7, .inl (fun _ => 0))) (pf17 : w 17 = .inl (cI, 7, .inl (fun _ => 0))) (pf18 : w 18 = .inl (cI, 4, .inl (fun _ => 0))) (pf19 : w 19 = .inl (cI, 4, .inl (fun _ => 0))) (pf20 : w 20 = .inl (cI, 4, .inl (fun _ => 0))) (pf21 : w 21 = .inr (4, [.ref (ad 22), .int 0])) (pf22 : w 22 = .inl (cI, 24, .inl (fun _ => 0))) (pf23 : w 23 = .inr (4, [.ref (ad 24), .int 0])) (pf24 : w 24 = .inl (cI, 24, .inl (fun _ => 0))) (pf25 : w 25 = .inr (2, [.ref (ad 26), .int 0])) (pf26 : w 26 = .inl (cI, 88, .inl (fun _ => 0))) : MV l G (tyq cI cB cZ cO) yX2_become cX2_become 2 2 61 74 ad w [.ref (ad 14), .ref (ad 1)] (fun w1 => w1 14 = .inr (1, [.int 0, .int 0, .int 0, .int 0, .int 0, .ref (ad 15), .ref (ad 16), .ref (ad 17), .ref (ad 18), .ref (ad 19), .ref (ad 20), .ref (ad 21), .ref (ad 23), .ref (ad 25)]) ∧ ∀ k, k < 14 ∨ 27 ≤ k → w1 k = w k) := by
  refine mk_v (own := "NoonShade$Isle") rfl (by decide) (Nat.le_of_ble_eq_true rfl) ?_
  intro p e s m below meth c ls X hD hN hr hlk h hl
  have hx := X.1.1
  have hb := X.1.2.1
  have hown := X.1.2.2.2.1
  have hts := X.1.2.2.2.2
  have hl : lv_has ls 2 [(0, .ref (ad 14)), (1, .ref (ad 1))] := hl
  refine lv_aload_n hx hb dX2_become_0 rfl (lv_at hl 0 rfl) ?_
  refine lv_aload_n hx hb dX2_become_1 rfl (lv_at hl 1 rfl) ?_
  refine r_get kc2 X h 1 0 (by decide) rfl pf1 (by decide) kw_22 rfl dX2_become_2 ?_
  refine r_put kc2 X hD h 14 0 (by decide) rfl pf14 (by decide) kw_22 rfl rfl rfl (Nat.le_of_ble_eq_true rfl) dX2_become_5 (fun H locs w1 e2 h => ?_)
  have f3 : w1 14 = .inr (1, [.int 0, .int 0, .int 0, .int 0, .int 0, .ref (ad 15), .ref (ad 16), .ref (ad 17), .ref (ad 18), .ref (ad 19), .ref (ad 20), .ref (ad 21), .ref (ad 23), .ref (ad 25)]) := (congrFun e2 _).trans (va_up_self _ _ _)
  refine lv_aload_n hx hb dX2_become_8 rfl (lv_at hl 0 rfl) ?_
  refine lv_aload_n hx hb dX2_become_9 rfl (lv_at hl 1 rfl) ?_
  have f4 : w1 1 = .inr (1, [.int 0, .int 0, .int 0, .int 0, .int 0, .ref (ad 2), .ref (ad 3), .ref (ad 4), .ref (ad 5), .ref (ad 6), .ref (ad 7), .ref (ad 8), .ref (ad 10), .ref (ad 12)]) := by rw [e2, va_up_ne _ _ (by decide)]; exact pf1
  refine r_get kc2 X h 1 1 (by decide) rfl f4 (by decide) kw_23 rfl dX2_become_10 ?_
  refine r_put kc2 X hD h 14 1 (by decide) rfl f3 (by decide) kw_23 rfl rfl rfl (Nat.le_of_ble_eq_true rfl) dX2_become_13 (fun H locs w5 e6 h => ?_)
  have f7 : w5 14 = .inr (1, [.int 0, .int 0, .int 0, .int 0, .int 0, .ref (ad 15), .ref (ad 16), .ref (ad 17), .ref (ad 18), .ref (ad 19), .ref (ad 20), .ref (ad 21), .ref (ad 23), .ref (ad 25)]) := (congrFun e6 _).trans (va_up_self _ _ _)
  refine lv_aload_n hx hb dX2_become_16 rfl (lv_at hl 0 rfl) ?_
  refine lv_aload_n hx hb dX2_become_17 rfl (lv_at hl 1 rfl) ?_
  have f8 : w5 1 = .inr (1, [.int 0, .int 0, .int 0, .int 0, .int 0, .ref (ad 2), .ref (ad 3), .ref (ad 4), .ref (ad 5), .ref (ad 6), .ref (ad 7), .ref (ad 8), .ref (ad 10), .ref (ad 12)]) := by rw [e6, va_up_ne _ _ (by decide)]; exact f4
  refine r_get kc2 X h 1 2 (by decide) rfl f8 (by decide) kw_24 rfl dX2_become_18 ?_
  refine r_put kc2 X hD h 14 2 (by decide) rfl f7 (by decide) kw_24 rfl rfl rfl (Nat.le_of_ble_eq_true rfl) dX2_become_21 (fun H locs w9 e10 h => ?_)
  have f11 : w9 14 = .inr (1, [.int 0, .int 0, .int 0, .int 0, .int 0, .ref (ad 15), .ref (ad 16), .ref (ad 17), .ref (ad 18), .ref (ad 19), .ref (ad 20), .ref (ad 21), .ref (ad 23), .ref (ad 25)]) := (congrFun e10 _).trans (va_up_self _ _ _)
  refine lv_aload_n hx hb dX2_become_24 rfl (lv_at hl 0 rfl) ?_
  refine lv_aload_n hx hb dX2_become_25 rfl (lv_at hl 1 rfl) ?_
  have f12 : w9 1 = .inr (1, [.int 0, .int 0, .int 0, .int 0, .int 0, .ref (ad 2), .ref (ad 3), .ref (ad 4), .ref (ad 5), .ref (ad 6), .ref (ad 7), .ref (ad 8), .ref (ad 10), .ref (ad 12)]) := by rw [e10, va_up_ne _ _ (by decide)]; exact f8
  refine r_get kc2 X h 1 3 (by decide) rfl f12 (by decide) kw_0 rfl dX2_become_26 ?_
  refine r_put kc2 X hD h 14 3 (by decide) rfl f11 (by decide) kw_0 rfl rfl rfl (Nat.le_of_ble_eq_true rfl) dX2_become_29 (fun H locs w13 e14 h => ?_)
  have f15 : w13 14 = .inr (1, [.int 0, .int 0, .int 0, .int 0, .int 0, .ref (ad 15), .ref (ad 16), .ref (ad 17), .ref (ad 18), .ref (ad 19), .ref (ad 20), .ref (ad 21), .ref (ad 23), .ref (ad 25)]) := (congrFun e14 _).trans (va_up_self _ _ _)
  refine lv_aload_n hx hb dX2_become_32 rfl (lv_at hl 0 rfl) ?_
  refine lv_aload_n hx hb dX2_become_33 rfl (lv_at hl 1 rfl) ?_
  have f16 : w13 1 = .inr (1, [.int 0, .int 0, .int 0, .int 0, .int 0, .ref (ad 2), .ref (ad 3), .ref (ad 4), .ref (ad 5), .ref (ad 6), .ref (ad 7), .ref (ad 8), .ref (ad 10), .ref (ad 12)]) := by rw [e14, va_up_ne _ _ (by decide)]; exact f12
  refine r_get kc2 X h 1 4 (by decide) rfl f16 (by decide) kw_1 rfl dX2_become_34 ?_
  refine r_put kc2 X hD h 14 4 (by decide) rfl f15 (by decide) kw_1 rfl rfl rfl (Nat.le_of_ble_eq_true rfl) dX2_become_37 (fun H locs w17 e18 h => ?_)
  have f19 : w17 14 = .inr (1, [.int 0, .int 0, .int 0, .int 0, .int 0, .ref (ad 15), .ref (ad 16), .ref (ad 17), .ref (ad 18), .ref (ad 19), .ref (ad 20), .ref (ad 21), .ref (ad 23), .ref (ad 25)]) := (congrFun e18 _).trans (va_up_self _ _ _)
  refine lv_aload_n hx hb dX2_become_40 rfl (lv_at hl 1 rfl) ?_
  have f20 : w17 1 = .inr (1, [.int 0, .int 0, .int 0, .int 0, .int 0, .ref (ad 2), .ref (ad 3), .ref (ad 4), .ref (ad 5), .ref (ad 6), .ref (ad 7), .ref (ad 8), .ref (ad 10), .ref (ad 12)]) := by rw [e18, va_up_ne _ _ (by decide)]; exact f16
  refine r_get kc2 X h 1 5 (by decide) rfl f20 (by decide) kw_46 rfl dX2_become_41 ?_
  refine lv_iconst (v := 0) hx hb dX2_become_44 (by decide) ?_
  refine lv_aload_n hx hb dX2_become_45 rfl (lv_at hl 0 rfl) ?_
  refine r_get kc2 X h 14 5 (by decide) rfl f19 (by decide) kw_46 rfl dX2_become_46 ?_
  refine lv_iconst (v := 0) hx hb dX2_become_49 (by decide) ?_
  refine lv_bipush (v := 7) hx hb dX2_become_50 (by decide) ?_
  have f21 : w1 2 = .inl (cI, 7, .inl (fun _ => 0)) := by rw [e2, va_up_ne _ _ (by decide)]; exact pf2
  have f22 : w5 2 = .inl (cI, 7, .inl (fun _ => 0)) := by rw [e6, va_up_ne _ _ (by decide)]; exact f21
  have f23 : w9 2 = .inl (cI, 7, .inl (fun _ => 0)) := by rw [e10, va_up_ne _ _ (by decide)]; exact f22
  have f24 : w13 2 = .inl (cI, 7, .inl (fun _ => 0)) := by rw [e14, va_up_ne _ _ (by decide)]; exact f23
  have f25 : w17 2 = .inl (cI, 7, .inl (fun _ => 0)) := by rw [e18, va_up_ne _ _ (by decide)]; exact f24
  have f26 : w1 15 = .inl (cI, 7, .inl (fun _ => 0)) := by rw [e2, va_up_ne _ _ (by decide)]; exact pf15
  have f27 : w5 15 = .inl (cI, 7, .inl (fun _ => 0)) := by rw [e6, va_up_ne _ _ (by decide)]; exact f26
  have f28 : w9 15 = .inl (cI, 7, .inl (fun _ => 0)) := by rw [e10, va_up_ne _ _ (by decide)]; exact f27
  have f29 : w13 15 = .inl (cI, 7, .inl (fun _ => 0)) := by rw [e14, va_up_ne _ _ (by decide)]; exact f28
  have f30 : w17 15 = .inl (cI, 7, .inl (fun _ => 0)) := by rw [e18, va_up_ne _ _ (by decide)]; exact f29
  refine r_copy (f1 := fun _ => 0) X hD h hl.1 kw_161 kw_144 kw_145 kw_146 2 15 0 (by decide) (by decide) rfl rfl f25 f30 rfl (by decide) (by decide) (by decide) (by decide) (by decide) (cpy0 _ _ _) ⟨Nat.le_of_ble_eq_true rfl, by decide⟩ dX2_become_52 (fun H locs w31 e32 h => ?_)
  have f33 : w31 15 = .inl (cI, 7, .inl (fun _ => 0)) := (congrFun e32 _).trans (va_up_self _ _ _)
  refine lv_aload_n hx hb dX2_become_55 rfl (lv_at hl 1 rfl) ?_
  have f34 : w31 1 = .inr (1, [.int 0, .int 0, .int 0, .int 0, .int 0, .ref (ad 2), .ref (ad 3), .ref (ad 4), .ref (ad 5), .ref (ad 6), .ref (ad 7), .ref (ad 8), .ref (ad 10), .ref (ad 12)]) := by rw [e32, va_up_ne _ _ (by decide)]; exact f20
  refine r_get kc2 X h 1 6 (by decide) rfl f34 (by decide) kw_47 rfl dX2_become_56 ?_
  refine lv_iconst (v := 0) hx hb dX2_become_59 (by decide) ?_
  refine lv_aload_n hx hb dX2_become_60 rfl (lv_at hl 0 rfl) ?_
  have f35 : w31 14 = .inr (1, [.int 0, .int 0, .int 0, .int 0, .int 0, .ref (ad 15), .ref (ad 16), .ref (ad 17), .ref (ad 18), .ref (ad 19), .ref (ad 20), .ref (ad 21), .ref (ad 23), .ref (ad 25)]) := by rw [e32, va_up_ne _ _ (by decide)]; exact f19
  refine r_get kc2 X h 14 6 (by decide) rfl f35 (by decide) kw_47 rfl dX2_become_61 ?_
  refine lv_iconst (v := 0) hx hb dX2_become_64 (by decide) ?_
  refine lv_bipush (v := 7) hx hb dX2_become_65 (by decide) ?_
  have f36 : w1 3 = .inl (cI, 7, .inl (fun _ => 0)) := by rw [e2, va_up_ne _ _ (by decide)]; exact pf3
  have f37 : w5 3 = .inl (cI, 7, .inl (fun _ => 0)) := by rw [e6, va_up_ne _ _ (by decide)]; exact f36
  have f38 : w9 3 = .inl (cI, 7, .inl (fun _ => 0)) := by rw [e10, va_up_ne _ _ (by decide)]; exact f37
  have f39 : w13 3 = .inl (cI, 7, .inl (fun _ => 0)) := by rw [e14, va_up_ne _ _ (by decide)]; exact f38
  have f40 : w17 3 = .inl (cI, 7, .inl (fun _ => 0)) := by rw [e18, va_up_ne _ _ (by decide)]; exact f39
  have f41 : w31 3 = .inl (cI, 7, .inl (fun _ => 0)) := by rw [e32, va_up_ne _ _ (by decide)]; exact f40
  have f42 : w1 16 = .inl (cI, 7, .inl (fun _ => 0)) := by rw [e2, va_up_ne _ _ (by decide)]; exact pf16
  have f43 : w5 16 = .inl (cI, 7, .inl (fun _ => 0)) := by rw [e6, va_up_ne _ _ (by decide)]; exact f42
  have f44 : w9 16 = .inl (cI, 7, .inl (fun _ => 0)) := by rw [e10, va_up_ne _ _ (by decide)]; exact f43
  have f45 : w13 16 = .inl (cI, 7, .inl (fun _ => 0)) := by rw [e14, va_up_ne _ _ (by decide)]; exact f44
  have f46 : w17 16 = .inl (cI, 7, .inl (fun _ => 0)) := by rw [e18, va_up_ne _ _ (by decide)]; exact f45
  have f47 : w31 16 = .inl (cI, 7, .inl (fun _ => 0)) := by rw [e32, va_up_ne _ _ (by decide)]; exact f46
  refine r_copy (f1 := fun _ => 0) X hD h hl.1 kw_161 kw_144 kw_145 kw_146 3 16 0 (by decide) (by decide) rfl rfl f41 f47 rfl (by decide) (by decide) (by decide) (by decide) (by decide) (cpy0 _ _ _) ⟨Nat.le_of_ble_eq_true rfl, by decide⟩ dX2_become_67 (fun H locs w48 e49 h => ?_)
  have f50 : w48 16 = .inl (cI, 7, .inl (fun _ => 0)) := (congrFun e49 _).trans (va_up_self _ _ _)
  refine lv_aload_n hx hb dX2_become_70 rfl (lv_at hl 1 rfl) ?_
  have f51 : w48 1 = .inr (1, [.int 0, .int 0, .int 0, .int 0, .int 0, .ref (ad 2), .ref (ad 3), .ref (ad 4), .ref (ad 5), .ref (ad 6), .ref (ad 7), .ref (ad 8), .ref (ad 10), .ref (ad 12)]) := by rw [e49, va_up_ne _ _ (by decide)]; exact f34
  refine r_get kc2 X h 1 7 (by decide) rfl f51 (by decide) kw_48 rfl dX2_become_71 ?_
  refine lv_iconst (v := 0) hx hb dX2_become_74 (by decide) ?_
  refine lv_aload_n hx hb dX2_become_75 rfl (lv_at hl 0 rfl) ?_
  have f52 : w48 14 = .inr (1, [.int 0, .int 0, .int 0, .int 0, .int 0, .ref (ad 15), .ref (ad 16), .ref (ad 17), .ref (ad 18), .ref (ad 19), .ref (ad 20), .ref (ad 21), .ref (ad 23), .ref (ad 25)]) := by rw [e49, va_up_ne _ _ (by decide)]; exact f35
  refine r_get kc2 X h 14 7 (by decide) rfl f52 (by decide) kw_48 rfl dX2_become_76 ?_
  refine lv_iconst (v := 0) hx hb dX2_become_79 (by decide) ?_
  refine lv_bipush (v := 7) hx hb dX2_become_80 (by decide) ?_
  have f53 : w1 4 = .inl (cI, 7, .inl (fun _ => 0)) := by rw [e2, va_up_ne _ _ (by decide)]; exact pf4
  have f54 : w5 4 = .inl (cI, 7, .inl (fun _ => 0)) := by rw [e6, va_up_ne _ _ (by decide)]; exact f53
  have f55 : w9 4 = .inl (cI, 7, .inl (fun _ => 0)) := by rw [e10, va_up_ne _ _ (by decide)]; exact f54
  have f56 : w13 4 = .inl (cI, 7, .inl (fun _ => 0)) := by rw [e14, va_up_ne _ _ (by decide)]; exact f55
  have f57 : w17 4 = .inl (cI, 7, .inl (fun _ => 0)) := by rw [e18, va_up_ne _ _ (by decide)]; exact f56
  have f58 : w31 4 = .inl (cI, 7, .inl (fun _ => 0)) := by rw [e32, va_up_ne _ _ (by decide)]; exact f57
  have f59 : w48 4 = .inl (cI, 7, .inl (fun _ => 0)) := by rw [e49, va_up_ne _ _ (by decide)]; exact f58
  have f60 : w1 17 = .inl (cI, 7, .inl (fun _ => 0)) := by rw [e2, va_up_ne _ _ (by decide)]; exact pf17
  have f61 : w5 17 = .inl (cI, 7, .inl (fun _ => 0)) := by rw [e6, va_up_ne _ _ (by decide)]; exact f60
  have f62 : w9 17 = .inl (cI, 7, .inl (fun _ => 0)) := by rw [e10, va_up_ne _ _ (by decide)]; exact f61
  have f63 : w13 17 = .inl (cI, 7, .inl (fun _ => 0)) := by rw [e14, va_up_ne _ _ (by decide)]; exact f62
  have f64 : w17 17 = .inl (cI, 7, .inl (fun _ => 0)) := by rw [e18, va_up_ne _ _ (by decide)]; exact f63
  have f65 : w31 17 = .inl (cI, 7, .inl (fun _ => 0)) := by rw [e32, va_up_ne _ _ (by decide)]; exact f64
  have f66 : w48 17 = .inl (cI, 7, .inl (fun _ => 0)) := by rw [e49, va_up_ne _ _ (by decide)]; exact f65
  refine r_copy (f1 := fun _ => 0) X hD h hl.1 kw_161 kw_144 kw_145 kw_146 4 17 0 (by decide) (by decide) rfl rfl f59 f66 rfl (by decide) (by decide) (by decide) (by decide) (by decide) (cpy0 _ _ _) ⟨Nat.le_of_ble_eq_true rfl, by decide⟩ dX2_become_82 (fun H locs w67 e68 h => ?_)
  have f69 : w67 17 = .inl (cI, 7, .inl (fun _ => 0)) := (congrFun e68 _).trans (va_up_self _ _ _)
  refine lv_aload_n hx hb dX2_become_85 rfl (lv_at hl 1 rfl) ?_
  have f70 : w67 1 = .inr (1, [.int 0, .int 0, .int 0, .int 0, .int 0, .ref (ad 2), .ref (ad 3), .ref (ad 4), .ref (ad 5), .ref (ad 6), .ref (ad 7), .ref (ad 8), .ref (ad 10), .ref (ad 12)]) := by rw [e68, va_up_ne _ _ (by decide)]; exact f51
  refine r_get kc2 X h 1 8 (by decide) rfl f70 (by decide) kw_49 rfl dX2_become_86 ?_
  refine lv_iconst (v := 0) hx hb dX2_become_89 (by decide) ?_
  refine lv_aload_n hx hb dX2_become_90 rfl (lv_at hl 0 rfl) ?_
  have f71 : w67 14 = .inr (1, [.int 0, .int 0, .int 0, .int 0, .int 0, .ref (ad 15), .ref (ad 16), .ref (ad 17), .ref (ad 18), .ref (ad 19), .ref (ad 20), .ref (ad 21), .ref (ad 23), .ref (ad 25)]) := by rw [e68, va_up_ne _ _ (by decide)]; exact f52
  refine r_get kc2 X h 14 8 (by decide) rfl f71 (by decide) kw_49 rfl dX2_become_91 ?_
  refine lv_iconst (v := 0) hx hb dX2_become_94 (by decide) ?_
  refine lv_iconst (v := 4) hx hb dX2_become_95 (by decide) ?_
  have f72 : w1 5 = .inl (cI, 4, .inl (fun _ => 0)) := by rw [e2, va_up_ne _ _ (by decide)]; exact pf5
  have f73 : w5 5 = .inl (cI, 4, .inl (fun _ => 0)) := by rw [e6, va_up_ne _ _ (by decide)]; exact f72
  have f74 : w9 5 = .inl (cI, 4, .inl (fun _ => 0)) := by rw [e10, va_up_ne _ _ (by decide)]; exact f73
  have f75 : w13 5 = .inl (cI, 4, .inl (fun _ => 0)) := by rw [e14, va_up_ne _ _ (by decide)]; exact f74
  have f76 : w17 5 = .inl (cI, 4, .inl (fun _ => 0)) := by rw [e18, va_up_ne _ _ (by decide)]; exact f75
  have f77 : w31 5 = .inl (cI, 4, .inl (fun _ => 0)) := by rw [e32, va_up_ne _ _ (by decide)]; exact f76
  have f78 : w48 5 = .inl (cI, 4, .inl (fun _ => 0)) := by rw [e49, va_up_ne _ _ (by decide)]; exact f77
  have f79 : w67 5 = .inl (cI, 4, .inl (fun _ => 0)) := by rw [e68, va_up_ne _ _ (by decide)]; exact f78
  have f80 : w1 18 = .inl (cI, 4, .inl (fun _ => 0)) := by rw [e2, va_up_ne _ _ (by decide)]; exact pf18
  have f81 : w5 18 = .inl (cI, 4, .inl (fun _ => 0)) := by rw [e6, va_up_ne _ _ (by decide)]; exact f80
  have f82 : w9 18 = .inl (cI, 4, .inl (fun _ => 0)) := by rw [e10, va_up_ne _ _ (by decide)]; exact f81
  have f83 : w13 18 = .inl (cI, 4, .inl (fun _ => 0)) := by rw [e14, va_up_ne _ _ (by decide)]; exact f82
  have f84 : w17 18 = .inl (cI, 4, .inl (fun _ => 0)) := by rw [e18, va_up_ne _ _ (by decide)]; exact f83
  have f85 : w31 18 = .inl (cI, 4, .inl (fun _ => 0)) := by rw [e32, va_up_ne _ _ (by decide)]; exact f84
  have f86 : w48 18 = .inl (cI, 4, .inl (fun _ => 0)) := by rw [e49, va_up_ne _ _ (by decide)]; exact f85
  have f87 : w67 18 = .inl (cI, 4, .inl (fun _ => 0)) := by rw [e68, va_up_ne _ _ (by decide)]; exact f86
  refine r_copy (f1 := fun _ => 0) X hD h hl.1 kw_161 kw_144 kw_145 kw_146 5 18 0 (by decide) (by decide) rfl rfl f79 f87 rfl (by decide) (by decide) (by decide) (by decide) (by decide) (cpy0 _ _ _) ⟨Nat.le_of_ble_eq_true rfl, by decide⟩ dX2_become_96 (fun H locs w88 e89 h => ?_)
  have f90 : w88 18 = .inl (cI, 4, .inl (fun _ => 0)) := (congrFun e89 _).trans (va_up_self _ _ _)
  refine lv_aload_n hx hb dX2_become_99 rfl (lv_at hl 1 rfl) ?_
  have f91 : w88 1 = .inr (1, [.int 0, .int 0, .int 0, .int 0, .int 0, .ref (ad 2), .ref (ad 3), .ref (ad 4), .ref (ad 5), .ref (ad 6), .ref (ad 7), .ref (ad 8), .ref (ad 10), .ref (ad 12)]) := by rw [e89, va_up_ne _ _ (by decide)]; exact f70
  refine r_get kc2 X h 1 9 (by decide) rfl f91 (by decide) kw_50 rfl dX2_become_100 ?_
  refine lv_iconst (v := 0) hx hb dX2_become_103 (by decide) ?_
  refine lv_aload_n hx hb dX2_become_104 rfl (lv_at hl 0 rfl) ?_
  have f92 : w88 14 = .inr (1, [.int 0, .int 0, .int 0, .int 0, .int 0, .ref (ad 15), .ref (ad 16), .ref (ad 17), .ref (ad 18), .ref (ad 19), .ref (ad 20), .ref (ad 21), .ref (ad 23), .ref (ad 25)]) := by rw [e89, va_up_ne _ _ (by decide)]; exact f71
  refine r_get kc2 X h 14 9 (by decide) rfl f92 (by decide) kw_50 rfl dX2_become_105 ?_
  refine lv_iconst (v := 0) hx hb dX2_become_108 (by decide) ?_
  refine lv_iconst (v := 4) hx hb dX2_become_109 (by decide) ?_
  have f93 : w1 6 = .inl (cI, 4, .inl (fun _ => 0)) := by rw [e2, va_up_ne _ _ (by decide)]; exact pf6
  have f94 : w5 6 = .inl (cI, 4, .inl (fun _ => 0)) := by rw [e6, va_up_ne _ _ (by decide)]; exact f93
  have f95 : w9 6 = .inl (cI, 4, .inl (fun _ => 0)) := by rw [e10, va_up_ne _ _ (by decide)]; exact f94
  have f96 : w13 6 = .inl (cI, 4, .inl (fun _ => 0)) := by rw [e14, va_up_ne _ _ (by decide)]; exact f95
  have f97 : w17 6 = .inl (cI, 4, .inl (fun _ => 0)) := by rw [e18, va_up_ne _ _ (by decide)]; exact f96
  have f98 : w31 6 = .inl (cI, 4, .inl (fun _ => 0)) := by rw [e32, va_up_ne _ _ (by decide)]; exact f97
  have f99 : w48 6 = .inl (cI, 4, .inl (fun _ => 0)) := by rw [e49, va_up_ne _ _ (by decide)]; exact f98
  have f100 : w67 6 = .inl (cI, 4, .inl (fun _ => 0)) := by rw [e68, va_up_ne _ _ (by decide)]; exact f99
  have f101 : w88 6 = .inl (cI, 4, .inl (fun _ => 0)) := by rw [e89, va_up_ne _ _ (by decide)]; exact f100
  have f102 : w1 19 = .inl (cI, 4, .inl (fun _ => 0)) := by rw [e2, va_up_ne _ _ (by decide)]; exact pf19
  have f103 : w5 19 = .inl (cI, 4, .inl (fun _ => 0)) := by rw [e6, va_up_ne _ _ (by decide)]; exact f102
  have f104 : w9 19 = .inl (cI, 4, .inl (fun _ => 0)) := by rw [e10, va_up_ne _ _ (by decide)]; exact f103
  have f105 : w13 19 = .inl (cI, 4, .inl (fun _ => 0)) := by rw [e14, va_up_ne _ _ (by decide)]; exact f104
  have f106 : w17 19 = .inl (cI, 4, .inl (fun _ => 0)) := by rw [e18, va_up_ne _ _ (by decide)]; exact f105
  have f107 : w31 19 = .inl (cI, 4, .inl (fun _ => 0)) := by rw [e32, va_up_ne _ _ (by decide)]; exact f106
  have f108 : w48 19 = .inl (cI, 4, .inl (fun _ => 0)) := by rw [e49, va_up_ne _ _ (by decide)]; exact f107
  have f109 : w67 19 = .inl (cI, 4, .inl (fun _ => 0)) := by rw [e68, va_up_ne _ _ (by decide)]; exact f108
  have f110 : w88 19 = .inl (cI, 4, .inl (fun _ => 0)) := by rw [e89, va_up_ne _ _ (by decide)]; exact f109
  refine r_copy (f1 := fun _ => 0) X hD h hl.1 kw_161 kw_144 kw_145 kw_146 6 19 0 (by decide) (by decide) rfl rfl f101 f110 rfl (by decide) (by decide) (by decide) (by decide) (by decide) (cpy0 _ _ _) ⟨Nat.le_of_ble_eq_true rfl, by decide⟩ dX2_become_110 (fun H locs w111 e112 h => ?_)
  have f113 : w111 19 = .inl (cI, 4, .inl (fun _ => 0)) := (congrFun e112 _).trans (va_up_self _ _ _)
  refine lv_aload_n hx hb dX2_become_113 rfl (lv_at hl 1 rfl) ?_
  have f114 : w111 1 = .inr (1, [.int 0, .int 0, .int 0, .int 0, .int 0, .ref (ad 2), .ref (ad 3), .ref (ad 4), .ref (ad 5), .ref (ad 6), .ref (ad 7), .ref (ad 8), .ref (ad 10), .ref (ad 12)]) := by rw [e112, va_up_ne _ _ (by decide)]; exact f91
  refine r_get kc2 X h 1 10 (by decide) rfl f114 (by decide) kw_51 rfl dX2_become_114 ?_
  refine lv_iconst (v := 0) hx hb dX2_become_117 (by decide) ?_
  refine lv_aload_n hx hb dX2_become_118 rfl (lv_at hl 0 rfl) ?_
  have f115 : w111 14 = .inr (1, [.int 0, .int 0, .int 0, .int 0, .int 0, .ref (ad 15), .ref (ad 16), .ref (ad 17), .ref (ad 18), .ref (ad 19), .ref (ad 20), .ref (ad 21), .ref (ad 23), .ref (ad 25)]) := by rw [e112, va_up_ne _ _ (by decide)]; exact f92
  refine r_get kc2 X h 14 10 (by decide) rfl f115 (by decide) kw_51 rfl dX2_become_119 ?_
  refine lv_iconst (v := 0) hx hb dX2_become_122 (by decide) ?_
  refine lv_iconst (v := 4) hx hb dX2_become_123 (by decide) ?_
  have f116 : w1 7 = .inl (cI, 4, .inl (fun _ => 0)) := by rw [e2, va_up_ne _ _ (by decide)]; exact pf7
  have f117 : w5 7 = .inl (cI, 4, .inl (fun _ => 0)) := by rw [e6, va_up_ne _ _ (by decide)]; exact f116
  have f118 : w9 7 = .inl (cI, 4, .inl (fun _ => 0)) := by rw [e10, va_up_ne _ _ (by decide)]; exact f117
  have f119 : w13 7 = .inl (cI, 4, .inl (fun _ => 0)) := by rw [e14, va_up_ne _ _ (by decide)]; exact f118
  have f120 : w17 7 = .inl (cI, 4, .inl (fun _ => 0)) := by rw [e18, va_up_ne _ _ (by decide)]; exact f119
  have f121 : w31 7 = .inl (cI, 4, .inl (fun _ => 0)) := by rw [e32, va_up_ne _ _ (by decide)]; exact f120
  have f122 : w48 7 = .inl (cI, 4, .inl (fun _ => 0)) := by rw [e49, va_up_ne _ _ (by decide)]; exact f121
  have f123 : w67 7 = .inl (cI, 4, .inl (fun _ => 0)) := by rw [e68, va_up_ne _ _ (by decide)]; exact f122
  have f124 : w88 7 = .inl (cI, 4, .inl (fun _ => 0)) := by rw [e89, va_up_ne _ _ (by decide)]; exact f123
  have f125 : w111 7 = .inl (cI, 4, .inl (fun _ => 0)) := by rw [e112, va_up_ne _ _ (by decide)]; exact f124
  have f126 : w1 20 = .inl (cI, 4, .inl (fun _ => 0)) := by rw [e2, va_up_ne _ _ (by decide)]; exact pf20
  have f127 : w5 20 = .inl (cI, 4, .inl (fun _ => 0)) := by rw [e6, va_up_ne _ _ (by decide)]; exact f126
  have f128 : w9 20 = .inl (cI, 4, .inl (fun _ => 0)) := by rw [e10, va_up_ne _ _ (by decide)]; exact f127
  have f129 : w13 20 = .inl (cI, 4, .inl (fun _ => 0)) := by rw [e14, va_up_ne _ _ (by decide)]; exact f128
  have f130 : w17 20 = .inl (cI, 4, .inl (fun _ => 0)) := by rw [e18, va_up_ne _ _ (by decide)]; exact f129
  have f131 : w31 20 = .inl (cI, 4, .inl (fun _ => 0)) := by rw [e32, va_up_ne _ _ (by decide)]; exact f130
  have f132 : w48 20 = .inl (cI, 4, .inl (fun _ => 0)) := by rw [e49, va_up_ne _ _ (by decide)]; exact f131
  have f133 : w67 20 = .inl (cI, 4, .inl (fun _ => 0)) := by rw [e68, va_up_ne _ _ (by decide)]; exact f132
  have f134 : w88 20 = .inl (cI, 4, .inl (fun _ => 0)) := by rw [e89, va_up_ne _ _ (by decide)]; exact f133
  have f135 : w111 20 = .inl (cI, 4, .inl (fun _ => 0)) := by rw [e112, va_up_ne _ _ (by decide)]; exact f134
  refine r_copy (f1 := fun _ => 0) X hD h hl.1 kw_161 kw_144 kw_145 kw_146 7 20 0 (by decide) (by decide) rfl rfl f125 f135 rfl (by decide) (by decide) (by decide) (by decide) (by decide) (cpy0 _ _ _) ⟨Nat.le_of_ble_eq_true rfl, by decide⟩ dX2_become_124 (fun H locs w136 e137 h => ?_)
  have f138 : w136 20 = .inl (cI, 4, .inl (fun _ => 0)) := (congrFun e137 _).trans (va_up_self _ _ _)
  refine lv_aload_n hx hb dX2_become_127 rfl (lv_at hl 0 rfl) ?_
  have f139 : w136 14 = .inr (1, [.int 0, .int 0, .int 0, .int 0, .int 0, .ref (ad 15), .ref (ad 16), .ref (ad 17), .ref (ad 18), .ref (ad 19), .ref (ad 20), .ref (ad 21), .ref (ad 23), .ref (ad 25)]) := by rw [e137, va_up_ne _ _ (by decide)]; exact f115
  refine r_get kc2 X h 14 11 (by decide) rfl f139 (by decide) kw_25 rfl dX2_become_128 ?_
  refine lv_aload_n hx hb dX2_become_131 rfl (lv_at hl 1 rfl) ?_
  have f140 : w136 1 = .inr (1, [.int 0, .int 0, .int 0, .int 0, .int 0, .ref (ad 2), .ref (ad 3), .ref (ad 4), .ref (ad 5), .ref (ad 6), .ref (ad 7), .ref (ad 8), .ref (ad 10), .ref (ad 12)]) := by rw [e137, va_up_ne _ _ (by decide)]; exact f114
  refine r_get kc2 X h 1 11 (by decide) rfl f140 (by decide) kw_25 rfl dX2_become_132 ?_
  have f141 : w1 21 = .inr (4, [.ref (ad 22), .int 0]) := by rw [e2, va_up_ne _ _ (by decide)]; exact pf21
  have f142 : w5 21 = .inr (4, [.ref (ad 22), .int 0]) := by rw [e6, va_up_ne _ _ (by decide)]; exact f141
  have f143 : w9 21 = .inr (4, [.ref (ad 22), .int 0]) := by rw [e10, va_up_ne _ _ (by decide)]; exact f142
  have f144 : w13 21 = .inr (4, [.ref (ad 22), .int 0]) := by rw [e14, va_up_ne _ _ (by decide)]; exact f143
  have f145 : w17 21 = .inr (4, [.ref (ad 22), .int 0]) := by rw [e18, va_up_ne _ _ (by decide)]; exact f144
  have f146 : w31 21 = .inr (4, [.ref (ad 22), .int 0]) := by rw [e32, va_up_ne _ _ (by decide)]; exact f145
  have f147 : w48 21 = .inr (4, [.ref (ad 22), .int 0]) := by rw [e49, va_up_ne _ _ (by decide)]; exact f146
  have f148 : w67 21 = .inr (4, [.ref (ad 22), .int 0]) := by rw [e68, va_up_ne _ _ (by decide)]; exact f147
  have f149 : w88 21 = .inr (4, [.ref (ad 22), .int 0]) := by rw [e89, va_up_ne _ _ (by decide)]; exact f148
  have f150 : w111 21 = .inr (4, [.ref (ad 22), .int 0]) := by rw [e112, va_up_ne _ _ (by decide)]; exact f149
  have f151 : w136 21 = .inr (4, [.ref (ad 22), .int 0]) := by rw [e137, va_up_ne _ _ (by decide)]; exact f150
  have f152 : w1 22 = .inl (cI, 24, .inl (fun _ => 0)) := by rw [e2, va_up_ne _ _ (by decide)]; exact pf22
  have f153 : w5 22 = .inl (cI, 24, .inl (fun _ => 0)) := by rw [e6, va_up_ne _ _ (by decide)]; exact f152
  have f154 : w9 22 = .inl (cI, 24, .inl (fun _ => 0)) := by rw [e10, va_up_ne _ _ (by decide)]; exact f153
  have f155 : w13 22 = .inl (cI, 24, .inl (fun _ => 0)) := by rw [e14, va_up_ne _ _ (by decide)]; exact f154
  have f156 : w17 22 = .inl (cI, 24, .inl (fun _ => 0)) := by rw [e18, va_up_ne _ _ (by decide)]; exact f155
  have f157 : w31 22 = .inl (cI, 24, .inl (fun _ => 0)) := by rw [e32, va_up_ne _ _ (by decide)]; exact f156
  have f158 : w48 22 = .inl (cI, 24, .inl (fun _ => 0)) := by rw [e49, va_up_ne _ _ (by decide)]; exact f157
  have f159 : w67 22 = .inl (cI, 24, .inl (fun _ => 0)) := by rw [e68, va_up_ne _ _ (by decide)]; exact f158
  have f160 : w88 22 = .inl (cI, 24, .inl (fun _ => 0)) := by rw [e89, va_up_ne _ _ (by decide)]; exact f159
  have f161 : w111 22 = .inl (cI, 24, .inl (fun _ => 0)) := by rw [e112, va_up_ne _ _ (by decide)]; exact f160
  have f162 : w136 22 = .inl (cI, 24, .inl (fun _ => 0)) := by rw [e137, va_up_ne _ _ (by decide)]; exact f161
  have f163 : w1 8 = .inr (4, [.ref (ad 9), .int 0]) := by rw [e2, va_up_ne _ _ (by decide)]; exact pf8
  have f164 : w5 8 = .inr (4, [.ref (ad 9), .int 0]) := by rw [e6, va_up_ne _ _ (by decide)]; exact f163
  have f165 : w9 8 = .inr (4, [.ref (ad 9), .int 0]) := by rw [e10, va_up_ne _ _ (by decide)]; exact f164
  have f166 : w13 8 = .inr (4, [.ref (ad 9), .int 0]) := by rw [e14, va_up_ne _ _ (by decide)]; exact f165
  have f167 : w17 8 = .inr (4, [.ref (ad 9), .int 0]) := by rw [e18, va_up_ne _ _ (by decide)]; exact f166
  have f168 : w31 8 = .inr (4, [.ref (ad 9), .int 0]) := by rw [e32, va_up_ne _ _ (by decide)]; exact f167
  have f169 : w48 8 = .inr (4, [.ref (ad 9), .int 0]) := by rw [e49, va_up_ne _ _ (by decide)]; exact f168
  have f170 : w67 8 = .inr (4, [.ref (ad 9), .int 0]) := by rw [e68, va_up_ne _ _ (by decide)]; exact f169
  have f171 : w88 8 = .inr (4, [.ref (ad 9), .int 0]) := by rw [e89, va_up_ne _ _ (by decide)]; exact f170
  have f172 : w111 8 = .inr (4, [.ref (ad 9), .int 0]) := by rw [e112, va_up_ne _ _ (by decide)]; exact f171
  have f173 : w136 8 = .inr (4, [.ref (ad 9), .int 0]) := by rw [e137, va_up_ne _ _ (by decide)]; exact f172
  have f174 : w1 9 = .inl (cI, 24, .inl (fun _ => 0)) := by rw [e2, va_up_ne _ _ (by decide)]; exact pf9
  have f175 : w5 9 = .inl (cI, 24, .inl (fun _ => 0)) := by rw [e6, va_up_ne _ _ (by decide)]; exact f174
  have f176 : w9 9 = .inl (cI, 24, .inl (fun _ => 0)) := by rw [e10, va_up_ne _ _ (by decide)]; exact f175
  have f177 : w13 9 = .inl (cI, 24, .inl (fun _ => 0)) := by rw [e14, va_up_ne _ _ (by decide)]; exact f176
  have f178 : w17 9 = .inl (cI, 24, .inl (fun _ => 0)) := by rw [e18, va_up_ne _ _ (by decide)]; exact f177
  have f179 : w31 9 = .inl (cI, 24, .inl (fun _ => 0)) := by rw [e32, va_up_ne _ _ (by decide)]; exact f178
  have f180 : w48 9 = .inl (cI, 24, .inl (fun _ => 0)) := by rw [e49, va_up_ne _ _ (by decide)]; exact f179
  have f181 : w67 9 = .inl (cI, 24, .inl (fun _ => 0)) := by rw [e68, va_up_ne _ _ (by decide)]; exact f180
  have f182 : w88 9 = .inl (cI, 24, .inl (fun _ => 0)) := by rw [e89, va_up_ne _ _ (by decide)]; exact f181
  have f183 : w111 9 = .inl (cI, 24, .inl (fun _ => 0)) := by rw [e112, va_up_ne _ _ (by decide)]; exact f182
  have f184 : w136 9 = .inl (cI, 24, .inl (fun _ => 0)) := by rw [e137, va_up_ne _ _ (by decide)]; exact f183
  refine q_Vv (na := 1) (As := [.ref (ad 8)]) (rest := []) X hD hN h rfl (c_R_become l G cI cB cZ cO ad w136 21 8 _ _ _ _ (by omega) (by omega) (by omega) f151 f162 f173 f184) ⟨kw_162, kw_163, kw_164, kw_29, kw_165⟩ rfl ⟨by decide, by decide, by decide⟩ ⟨Nat.le_of_ble_eq_true rfl, Nat.le_of_ble_eq_true rfl⟩ ⟨Nat.zero_le _, Nat.zero_le _⟩ (by decide) f151 rfl rfl hl.1 rfl (Nat.le_of_ble_eq_true rfl) dX2_become_135 (fun w186 H locs hp187 h => ?_)
  refine lv_aload_n hx hb dX2_become_138 rfl (lv_at hl 0 rfl) ?_
  have f188 : w186 14 = .inr (1, [.int 0, .int 0, .int 0, .int 0, .int 0, .ref (ad 15), .ref (ad 16), .ref (ad 17), .ref (ad 18), .ref (ad 19), .ref (ad 20), .ref (ad 21), .ref (ad 23), .ref (ad 25)]) := (hp187 14 (by decide) (by decide)).trans f139
  refine r_get kc2 X h 14 12 (by decide) rfl f188 (by decide) kw_31 rfl dX2_become_139 ?_
  refine lv_aload_n hx hb dX2_become_142 rfl (lv_at hl 1 rfl) ?_
  have f189 : w186 1 = .inr (1, [.int 0, .int 0, .int 0, .int 0, .int 0, .ref (ad 2), .ref (ad 3), .ref (ad 4), .ref (ad 5), .ref (ad 6), .ref (ad 7), .ref (ad 8), .ref (ad 10), .ref (ad 12)]) := (hp187 1 (by decide) (by decide)).trans f140
  refine r_get kc2 X h 1 12 (by decide) rfl f189 (by decide) kw_31 rfl dX2_become_143 ?_
  have f190 : w1 23 = .inr (4, [.ref (ad 24), .int 0]) := by rw [e2, va_up_ne _ _ (by decide)]; exact pf23
  have f191 : w5 23 = .inr (4, [.ref (ad 24), .int 0]) := by rw [e6, va_up_ne _ _ (by decide)]; exact f190
  have f192 : w9 23 = .inr (4, [.ref (ad 24), .int 0]) := by rw [e10, va_up_ne _ _ (by decide)]; exact f191
  have f193 : w13 23 = .inr (4, [.ref (ad 24), .int 0]) := by rw [e14, va_up_ne _ _ (by decide)]; exact f192
  have f194 : w17 23 = .inr (4, [.ref (ad 24), .int 0]) := by rw [e18, va_up_ne _ _ (by decide)]; exact f193
  have f195 : w31 23 = .inr (4, [.ref (ad 24), .int 0]) := by rw [e32, va_up_ne _ _ (by decide)]; exact f194
  have f196 : w48 23 = .inr (4, [.ref (ad 24), .int 0]) := by rw [e49, va_up_ne _ _ (by decide)]; exact f195
  have f197 : w67 23 = .inr (4, [.ref (ad 24), .int 0]) := by rw [e68, va_up_ne _ _ (by decide)]; exact f196
  have f198 : w88 23 = .inr (4, [.ref (ad 24), .int 0]) := by rw [e89, va_up_ne _ _ (by decide)]; exact f197
  have f199 : w111 23 = .inr (4, [.ref (ad 24), .int 0]) := by rw [e112, va_up_ne _ _ (by decide)]; exact f198
  have f200 : w136 23 = .inr (4, [.ref (ad 24), .int 0]) := by rw [e137, va_up_ne _ _ (by decide)]; exact f199
  have f201 : w186 23 = .inr (4, [.ref (ad 24), .int 0]) := (hp187 23 (by decide) (by decide)).trans f200
  have f202 : w1 24 = .inl (cI, 24, .inl (fun _ => 0)) := by rw [e2, va_up_ne _ _ (by decide)]; exact pf24
  have f203 : w5 24 = .inl (cI, 24, .inl (fun _ => 0)) := by rw [e6, va_up_ne _ _ (by decide)]; exact f202
  have f204 : w9 24 = .inl (cI, 24, .inl (fun _ => 0)) := by rw [e10, va_up_ne _ _ (by decide)]; exact f203
  have f205 : w13 24 = .inl (cI, 24, .inl (fun _ => 0)) := by rw [e14, va_up_ne _ _ (by decide)]; exact f204
  have f206 : w17 24 = .inl (cI, 24, .inl (fun _ => 0)) := by rw [e18, va_up_ne _ _ (by decide)]; exact f205
  have f207 : w31 24 = .inl (cI, 24, .inl (fun _ => 0)) := by rw [e32, va_up_ne _ _ (by decide)]; exact f206
  have f208 : w48 24 = .inl (cI, 24, .inl (fun _ => 0)) := by rw [e49, va_up_ne _ _ (by decide)]; exact f207
  have f209 : w67 24 = .inl (cI, 24, .inl (fun _ => 0)) := by rw [e68, va_up_ne _ _ (by decide)]; exact f208
  have f210 : w88 24 = .inl (cI, 24, .inl (fun _ => 0)) := by rw [e89, va_up_ne _ _ (by decide)]; exact f209
  have f211 : w111 24 = .inl (cI, 24, .inl (fun _ => 0)) := by rw [e112, va_up_ne _ _ (by decide)]; exact f210
  have f212 : w136 24 = .inl (cI, 24, .inl (fun _ => 0)) := by rw [e137, va_up_ne _ _ (by decide)]; exact f211
  have f213 : w186 24 = .inl (cI, 24, .inl (fun _ => 0)) := (hp187 24 (by decide) (by decide)).trans f212
  have f214 : w1 10 = .inr (4, [.ref (ad 11), .int 0]) := by rw [e2, va_up_ne _ _ (by decide)]; exact pf10
  have f215 : w5 10 = .inr (4, [.ref (ad 11), .int 0]) := by rw [e6, va_up_ne _ _ (by decide)]; exact f214
  have f216 : w9 10 = .inr (4, [.ref (ad 11), .int 0]) := by rw [e10, va_up_ne _ _ (by decide)]; exact f215
  have f217 : w13 10 = .inr (4, [.ref (ad 11), .int 0]) := by rw [e14, va_up_ne _ _ (by decide)]; exact f216
  have f218 : w17 10 = .inr (4, [.ref (ad 11), .int 0]) := by rw [e18, va_up_ne _ _ (by decide)]; exact f217
  have f219 : w31 10 = .inr (4, [.ref (ad 11), .int 0]) := by rw [e32, va_up_ne _ _ (by decide)]; exact f218
  have f220 : w48 10 = .inr (4, [.ref (ad 11), .int 0]) := by rw [e49, va_up_ne _ _ (by decide)]; exact f219
  have f221 : w67 10 = .inr (4, [.ref (ad 11), .int 0]) := by rw [e68, va_up_ne _ _ (by decide)]; exact f220
  have f222 : w88 10 = .inr (4, [.ref (ad 11), .int 0]) := by rw [e89, va_up_ne _ _ (by decide)]; exact f221
  have f223 : w111 10 = .inr (4, [.ref (ad 11), .int 0]) := by rw [e112, va_up_ne _ _ (by decide)]; exact f222
  have f224 : w136 10 = .inr (4, [.ref (ad 11), .int 0]) := by rw [e137, va_up_ne _ _ (by decide)]; exact f223
  have f225 : w186 10 = .inr (4, [.ref (ad 11), .int 0]) := (hp187 10 (by decide) (by decide)).trans f224
  have f226 : w1 11 = .inl (cI, 24, .inl (fun _ => 0)) := by rw [e2, va_up_ne _ _ (by decide)]; exact pf11
  have f227 : w5 11 = .inl (cI, 24, .inl (fun _ => 0)) := by rw [e6, va_up_ne _ _ (by decide)]; exact f226
  have f228 : w9 11 = .inl (cI, 24, .inl (fun _ => 0)) := by rw [e10, va_up_ne _ _ (by decide)]; exact f227
  have f229 : w13 11 = .inl (cI, 24, .inl (fun _ => 0)) := by rw [e14, va_up_ne _ _ (by decide)]; exact f228
  have f230 : w17 11 = .inl (cI, 24, .inl (fun _ => 0)) := by rw [e18, va_up_ne _ _ (by decide)]; exact f229
  have f231 : w31 11 = .inl (cI, 24, .inl (fun _ => 0)) := by rw [e32, va_up_ne _ _ (by decide)]; exact f230
  have f232 : w48 11 = .inl (cI, 24, .inl (fun _ => 0)) := by rw [e49, va_up_ne _ _ (by decide)]; exact f231
  have f233 : w67 11 = .inl (cI, 24, .inl (fun _ => 0)) := by rw [e68, va_up_ne _ _ (by decide)]; exact f232
  have f234 : w88 11 = .inl (cI, 24, .inl (fun _ => 0)) := by rw [e89, va_up_ne _ _ (by decide)]; exact f233
  have f235 : w111 11 = .inl (cI, 24, .inl (fun _ => 0)) := by rw [e112, va_up_ne _ _ (by decide)]; exact f234
  have f236 : w136 11 = .inl (cI, 24, .inl (fun _ => 0)) := by rw [e137, va_up_ne _ _ (by decide)]; exact f235
  have f237 : w186 11 = .inl (cI, 24, .inl (fun _ => 0)) := (hp187 11 (by decide) (by decide)).trans f236
  refine q_Vv (na := 1) (As := [.ref (ad 10)]) (rest := []) X hD hN h rfl (c_R_become l G cI cB cZ cO ad w186 23 10 _ _ _ _ (by omega) (by omega) (by omega) f201 f213 f225 f237) ⟨kw_162, kw_163, kw_164, kw_29, kw_165⟩ rfl ⟨by decide, by decide, by decide⟩ ⟨Nat.le_of_ble_eq_true rfl, Nat.le_of_ble_eq_true rfl⟩ ⟨Nat.zero_le _, Nat.zero_le _⟩ (by decide) f201 rfl rfl hl.1 rfl (Nat.le_of_ble_eq_true rfl) dX2_become_146 (fun w239 H locs hp240 h => ?_)
  refine lv_aload_n hx hb dX2_become_149 rfl (lv_at hl 0 rfl) ?_
  have f241 : w239 14 = .inr (1, [.int 0, .int 0, .int 0, .int 0, .int 0, .ref (ad 15), .ref (ad 16), .ref (ad 17), .ref (ad 18), .ref (ad 19), .ref (ad 20), .ref (ad 21), .ref (ad 23), .ref (ad 25)]) := (hp240 14 (by decide) (by decide)).trans f188
  refine r_get kc2 X h 14 13 (by decide) rfl f241 (by decide) kw_32 rfl dX2_become_150 ?_
  refine lv_aload_n hx hb dX2_become_153 rfl (lv_at hl 1 rfl) ?_
  have f242 : w239 1 = .inr (1, [.int 0, .int 0, .int 0, .int 0, .int 0, .ref (ad 2), .ref (ad 3), .ref (ad 4), .ref (ad 5), .ref (ad 6), .ref (ad 7), .ref (ad 8), .ref (ad 10), .ref (ad 12)]) := (hp240 1 (by decide) (by decide)).trans f189
  refine r_get kc2 X h 1 13 (by decide) rfl f242 (by decide) kw_32 rfl dX2_become_154 ?_
  have f243 : w1 25 = .inr (2, [.ref (ad 26), .int 0]) := by rw [e2, va_up_ne _ _ (by decide)]; exact pf25
  have f244 : w5 25 = .inr (2, [.ref (ad 26), .int 0]) := by rw [e6, va_up_ne _ _ (by decide)]; exact f243
  have f245 : w9 25 = .inr (2, [.ref (ad 26), .int 0]) := by rw [e10, va_up_ne _ _ (by decide)]; exact f244
  have f246 : w13 25 = .inr (2, [.ref (ad 26), .int 0]) := by rw [e14, va_up_ne _ _ (by decide)]; exact f245
  have f247 : w17 25 = .inr (2, [.ref (ad 26), .int 0]) := by rw [e18, va_up_ne _ _ (by decide)]; exact f246
  have f248 : w31 25 = .inr (2, [.ref (ad 26), .int 0]) := by rw [e32, va_up_ne _ _ (by decide)]; exact f247
  have f249 : w48 25 = .inr (2, [.ref (ad 26), .int 0]) := by rw [e49, va_up_ne _ _ (by decide)]; exact f248
  have f250 : w67 25 = .inr (2, [.ref (ad 26), .int 0]) := by rw [e68, va_up_ne _ _ (by decide)]; exact f249
  have f251 : w88 25 = .inr (2, [.ref (ad 26), .int 0]) := by rw [e89, va_up_ne _ _ (by decide)]; exact f250
  have f252 : w111 25 = .inr (2, [.ref (ad 26), .int 0]) := by rw [e112, va_up_ne _ _ (by decide)]; exact f251
  have f253 : w136 25 = .inr (2, [.ref (ad 26), .int 0]) := by rw [e137, va_up_ne _ _ (by decide)]; exact f252
  have f254 : w186 25 = .inr (2, [.ref (ad 26), .int 0]) := (hp187 25 (by decide) (by decide)).trans f253
  have f255 : w239 25 = .inr (2, [.ref (ad 26), .int 0]) := (hp240 25 (by decide) (by decide)).trans f254
  have f256 : w1 26 = .inl (cI, 88, .inl (fun _ => 0)) := by rw [e2, va_up_ne _ _ (by decide)]; exact pf26
  have f257 : w5 26 = .inl (cI, 88, .inl (fun _ => 0)) := by rw [e6, va_up_ne _ _ (by decide)]; exact f256
  have f258 : w9 26 = .inl (cI, 88, .inl (fun _ => 0)) := by rw [e10, va_up_ne _ _ (by decide)]; exact f257
  have f259 : w13 26 = .inl (cI, 88, .inl (fun _ => 0)) := by rw [e14, va_up_ne _ _ (by decide)]; exact f258
  have f260 : w17 26 = .inl (cI, 88, .inl (fun _ => 0)) := by rw [e18, va_up_ne _ _ (by decide)]; exact f259
  have f261 : w31 26 = .inl (cI, 88, .inl (fun _ => 0)) := by rw [e32, va_up_ne _ _ (by decide)]; exact f260
  have f262 : w48 26 = .inl (cI, 88, .inl (fun _ => 0)) := by rw [e49, va_up_ne _ _ (by decide)]; exact f261
  have f263 : w67 26 = .inl (cI, 88, .inl (fun _ => 0)) := by rw [e68, va_up_ne _ _ (by decide)]; exact f262
  have f264 : w88 26 = .inl (cI, 88, .inl (fun _ => 0)) := by rw [e89, va_up_ne _ _ (by decide)]; exact f263
  have f265 : w111 26 = .inl (cI, 88, .inl (fun _ => 0)) := by rw [e112, va_up_ne _ _ (by decide)]; exact f264
  have f266 : w136 26 = .inl (cI, 88, .inl (fun _ => 0)) := by rw [e137, va_up_ne _ _ (by decide)]; exact f265
  have f267 : w186 26 = .inl (cI, 88, .inl (fun _ => 0)) := (hp187 26 (by decide) (by decide)).trans f266
  have f268 : w239 26 = .inl (cI, 88, .inl (fun _ => 0)) := (hp240 26 (by decide) (by decide)).trans f267
  have f269 : w1 12 = .inr (2, [.ref (ad 13), .int 0]) := by rw [e2, va_up_ne _ _ (by decide)]; exact pf12
  have f270 : w5 12 = .inr (2, [.ref (ad 13), .int 0]) := by rw [e6, va_up_ne _ _ (by decide)]; exact f269
  have f271 : w9 12 = .inr (2, [.ref (ad 13), .int 0]) := by rw [e10, va_up_ne _ _ (by decide)]; exact f270
  have f272 : w13 12 = .inr (2, [.ref (ad 13), .int 0]) := by rw [e14, va_up_ne _ _ (by decide)]; exact f271
  have f273 : w17 12 = .inr (2, [.ref (ad 13), .int 0]) := by rw [e18, va_up_ne _ _ (by decide)]; exact f272
  have f274 : w31 12 = .inr (2, [.ref (ad 13), .int 0]) := by rw [e32, va_up_ne _ _ (by decide)]; exact f273
  have f275 : w48 12 = .inr (2, [.ref (ad 13), .int 0]) := by rw [e49, va_up_ne _ _ (by decide)]; exact f274
  have f276 : w67 12 = .inr (2, [.ref (ad 13), .int 0]) := by rw [e68, va_up_ne _ _ (by decide)]; exact f275
  have f277 : w88 12 = .inr (2, [.ref (ad 13), .int 0]) := by rw [e89, va_up_ne _ _ (by decide)]; exact f276
  have f278 : w111 12 = .inr (2, [.ref (ad 13), .int 0]) := by rw [e112, va_up_ne _ _ (by decide)]; exact f277
  have f279 : w136 12 = .inr (2, [.ref (ad 13), .int 0]) := by rw [e137, va_up_ne _ _ (by decide)]; exact f278
  have f280 : w186 12 = .inr (2, [.ref (ad 13), .int 0]) := (hp187 12 (by decide) (by decide)).trans f279
  have f281 : w239 12 = .inr (2, [.ref (ad 13), .int 0]) := (hp240 12 (by decide) (by decide)).trans f280
  have f282 : w1 13 = .inl (cI, 88, .inl (fun _ => 0)) := by rw [e2, va_up_ne _ _ (by decide)]; exact pf13
  have f283 : w5 13 = .inl (cI, 88, .inl (fun _ => 0)) := by rw [e6, va_up_ne _ _ (by decide)]; exact f282
  have f284 : w9 13 = .inl (cI, 88, .inl (fun _ => 0)) := by rw [e10, va_up_ne _ _ (by decide)]; exact f283
  have f285 : w13 13 = .inl (cI, 88, .inl (fun _ => 0)) := by rw [e14, va_up_ne _ _ (by decide)]; exact f284
  have f286 : w17 13 = .inl (cI, 88, .inl (fun _ => 0)) := by rw [e18, va_up_ne _ _ (by decide)]; exact f285
  have f287 : w31 13 = .inl (cI, 88, .inl (fun _ => 0)) := by rw [e32, va_up_ne _ _ (by decide)]; exact f286
  have f288 : w48 13 = .inl (cI, 88, .inl (fun _ => 0)) := by rw [e49, va_up_ne _ _ (by decide)]; exact f287
  have f289 : w67 13 = .inl (cI, 88, .inl (fun _ => 0)) := by rw [e68, va_up_ne _ _ (by decide)]; exact f288
  have f290 : w88 13 = .inl (cI, 88, .inl (fun _ => 0)) := by rw [e89, va_up_ne _ _ (by decide)]; exact f289
  have f291 : w111 13 = .inl (cI, 88, .inl (fun _ => 0)) := by rw [e112, va_up_ne _ _ (by decide)]; exact f290
  have f292 : w136 13 = .inl (cI, 88, .inl (fun _ => 0)) := by rw [e137, va_up_ne _ _ (by decide)]; exact f291
  have f293 : w186 13 = .inl (cI, 88, .inl (fun _ => 0)) := (hp187 13 (by decide) (by decide)).trans f292
  have f294 : w239 13 = .inl (cI, 88, .inl (fun _ => 0)) := (hp240 13 (by decide) (by decide)).trans f293
  refine q_Vv (na := 1) (As := [.ref (ad 12)]) (rest := []) X hD hN h rfl (c_P_become l G cI cB cZ cO ad w239 25 12 _ _ _ _ (by omega) (by omega) (by omega) f255 f268 f281 f294) ⟨kw_166, kw_167, kw_168, kw_36, kw_169⟩ rfl ⟨by decide, by decide, by decide⟩ ⟨Nat.le_of_ble_eq_true rfl, Nat.le_of_ble_eq_true rfl⟩ ⟨Nat.zero_le _, Nat.zero_le _⟩ (by decide) f255 rfl rfl hl.1 rfl (Nat.le_of_ble_eq_true rfl) dX2_become_157 (fun w296 H locs hp297 h => ?_)
  have f298 : w296 14 = .inr (1, [.int 0, .int 0, .int 0, .int 0, .int 0, .ref (ad 15), .ref (ad 16), .ref (ad 17), .ref (ad 18), .ref (ad 19), .ref (ad 20), .ref (ad 21), .ref (ad 23), .ref (ad 25)]) := (hp297 14 (by decide) (by decide)).trans f241
  exact e_v X h hr hlk dX2_become_160 ⟨f298, fun k h1 => (hp297 k (by omega) (by omega)).trans ((hp240 k (by omega) (by omega)).trans ((hp187 k (by omega) (by omega)).trans (((congrFun e137 k).trans (va_up_ne _ _ (by omega))).trans (((congrFun e112 k).trans (va_up_ne _ _ (by omega))).trans (((congrFun e89 k).trans (va_up_ne _ _ (by omega))).trans (((congrFun e68 k).trans (va_up_ne _ _ (by omega))).trans (((congrFun e49 k).trans (va_up_ne _ _ (by omega))).trans (((congrFun e32 k).trans (va_up_ne _ _ (by omega))).trans (((congrFun e18 k).trans (va_up_ne _ _ (by omega))).trans (((congrFun e14 k).trans (va_up_ne _ _ (by omega))).trans (((congrFun e10 k).trans (va_up_ne _ _ (by omega))).trans (((congrFun e6 k).trans (va_up_ne _ _ (by omega))).trans ((congrFun e2 k).trans (va_up_ne _ _ (by omega)))))))))))))))⟩

set_option maxHeartbeats 4000000 in
set_option maxRecDepth 100000 in
theorem c_become28 (l : Launch) (G : va_G) (cI cB cZ cO : ClassId) (ad : Nat → Nat) (w : Nat → va_E)  (pf1 : w 1 = .inr (1, [.int 0, .int 0, .int 0, .int 0, .int 0, .ref (ad 2), .ref (ad 3), .ref (ad 4), .ref (ad 5), .ref (ad 6), .ref (ad 7), .ref (ad 8), .ref (ad 10), .ref (ad 12)])) (pf2 : w 2 = .inl (cI, 7, .inl (fun _ => 0))) (pf3 : w 3 = .inl (cI, 7, .inl (fun _ => 0))) (pf4 : w 4 = .inl (cI, 7, .inl (fun _ => 0))) (pf5 : w 5 = .inl (cI, 4, .inl (fun _ => 0))) (pf6 : w 6 = .inl (cI, 4, .inl (fun _ => 0))) (pf7 : w 7 = .inl (cI, 4, .inl (fun _ => 0))) (pf8 : w 8 = .inr (4, [.ref (ad 9), .int 0])) (pf9 : w 9 = .inl (cI, 24, .inl (fun _ => 0))) (pf10 : w 10 = .inr (4, [.ref (ad 11), .int 0])) (pf11 : w 11 = .inl (cI, 24, .inl (fun _ => 0))) (pf12 : w 12 = .inr (2, [.ref (ad 13), .int 0])) (pf13 : w 13 = .inl (cI, 88, .inl (fun _ => 0))) (pf28 : w 28 = .inr (1, [.int 0, .int 0, .int 0, .int 0, .int 0, .ref (ad 29), .ref (ad 30), .ref (ad 31), .ref (ad 32), .ref (ad 33), .ref (ad 34), .ref (ad 35), .ref (ad 37), .ref (ad 39)])) (pf29 : w 29 = .inl (cI, 7, .inl (fun _ => 0))) (pf30 : w 30 = .inl (cI, 7, .inl (fun _ => 0))) (pf31 : w 31 = .inl (cI, 7, .inl (fun _ => 0))) (pf32 : w 32 = .inl (cI, 4, .inl (fun _ => 0))) (pf33 : w 33 = .inl (cI, 4, .inl (fun _ => 0))) (pf34 : w 34 = .inl (cI, 4, .inl (fun _ => 0))) (pf35 : w 35 = .inr (4, [.ref (ad 36), .int 0])) (pf36 : w 36 = .inl (cI, 24, .inl (fun _ => 0))) (pf37 : w 37 = .inr (4, [.ref (ad 38), .int 0])) (pf38 : w 38 = .inl (cI, 24, .inl (fun _ => 0))) (pf39 : w 39 = .inr (2, [.ref (ad 40), .int 0])) (pf40 : w 40 = .inl (cI, 88, .inl (fun _ => 0))) : MV l G (tyq cI cB cZ cO) yX2_become cX2_become 2 2 61 74 ad w [.ref (ad 28), .ref (ad 1)] (fun w1 => w1 28 = .inr (1, [.int 0, .int 0, .int 0, .int 0, .int 0, .ref (ad 29), .ref (ad 30), .ref (ad 31), .ref (ad 32), .ref (ad 33), .ref (ad 34), .ref (ad 35), .ref (ad 37), .ref (ad 39)]) ∧ ∀ k, k < 28 ∨ 41 ≤ k → w1 k = w k) := by
  refine mk_v (own := "NoonShade$Isle") rfl (by decide) (Nat.le_of_ble_eq_true rfl) ?_
  intro p e s m below meth c ls X hD hN hr hlk h hl
  have hx := X.1.1
  have hb := X.1.2.1
  have hown := X.1.2.2.2.1
  have hts := X.1.2.2.2.2
  have hl : lv_has ls 2 [(0, .ref (ad 28)), (1, .ref (ad 1))] := hl
  refine lv_aload_n hx hb dX2_become_0 rfl (lv_at hl 0 rfl) ?_
  refine lv_aload_n hx hb dX2_become_1 rfl (lv_at hl 1 rfl) ?_
  refine r_get kc2 X h 1 0 (by decide) rfl pf1 (by decide) kw_22 rfl dX2_become_2 ?_
  refine r_put kc2 X hD h 28 0 (by decide) rfl pf28 (by decide) kw_22 rfl rfl rfl (Nat.le_of_ble_eq_true rfl) dX2_become_5 (fun H locs w1 e2 h => ?_)
  have f3 : w1 28 = .inr (1, [.int 0, .int 0, .int 0, .int 0, .int 0, .ref (ad 29), .ref (ad 30), .ref (ad 31), .ref (ad 32), .ref (ad 33), .ref (ad 34), .ref (ad 35), .ref (ad 37), .ref (ad 39)]) := (congrFun e2 _).trans (va_up_self _ _ _)
  refine lv_aload_n hx hb dX2_become_8 rfl (lv_at hl 0 rfl) ?_
  refine lv_aload_n hx hb dX2_become_9 rfl (lv_at hl 1 rfl) ?_
  have f4 : w1 1 = .inr (1, [.int 0, .int 0, .int 0, .int 0, .int 0, .ref (ad 2), .ref (ad 3), .ref (ad 4), .ref (ad 5), .ref (ad 6), .ref (ad 7), .ref (ad 8), .ref (ad 10), .ref (ad 12)]) := by rw [e2, va_up_ne _ _ (by decide)]; exact pf1
  refine r_get kc2 X h 1 1 (by decide) rfl f4 (by decide) kw_23 rfl dX2_become_10 ?_
  refine r_put kc2 X hD h 28 1 (by decide) rfl f3 (by decide) kw_23 rfl rfl rfl (Nat.le_of_ble_eq_true rfl) dX2_become_13 (fun H locs w5 e6 h => ?_)
  have f7 : w5 28 = .inr (1, [.int 0, .int 0, .int 0, .int 0, .int 0, .ref (ad 29), .ref (ad 30), .ref (ad 31), .ref (ad 32), .ref (ad 33), .ref (ad 34), .ref (ad 35), .ref (ad 37), .ref (ad 39)]) := (congrFun e6 _).trans (va_up_self _ _ _)
  refine lv_aload_n hx hb dX2_become_16 rfl (lv_at hl 0 rfl) ?_
  refine lv_aload_n hx hb dX2_become_17 rfl (lv_at hl 1 rfl) ?_
  have f8 : w5 1 = .inr (1, [.int 0, .int 0, .int 0, .int 0, .int 0, .ref (ad 2), .ref (ad 3), .ref (ad 4), .ref (ad 5), .ref (ad 6), .ref (ad 7), .ref (ad 8), .ref (ad 10), .ref (ad 12)]) := by rw [e6, va_up_ne _ _ (by decide)]; exact f4
  refine r_get kc2 X h 1 2 (by decide) rfl f8 (by decide) kw_24 rfl dX2_become_18 ?_
  refine r_put kc2 X hD h 28 2 (by decide) rfl f7 (by decide) kw_24 rfl rfl rfl (Nat.le_of_ble_eq_true rfl) dX2_become_21 (fun H locs w9 e10 h => ?_)
  have f11 : w9 28 = .inr (1, [.int 0, .int 0, .int 0, .int 0, .int 0, .ref (ad 29), .ref (ad 30), .ref (ad 31), .ref (ad 32), .ref (ad 33), .ref (ad 34), .ref (ad 35), .ref (ad 37), .ref (ad 39)]) := (congrFun e10 _).trans (va_up_self _ _ _)
  refine lv_aload_n hx hb dX2_become_24 rfl (lv_at hl 0 rfl) ?_
  refine lv_aload_n hx hb dX2_become_25 rfl (lv_at hl 1 rfl) ?_
  have f12 : w9 1 = .inr (1, [.int 0, .int 0, .int 0, .int 0, .int 0, .ref (ad 2), .ref (ad 3), .ref (ad 4), .ref (ad 5), .ref (ad 6), .ref (ad 7), .ref (ad 8), .ref (ad 10), .ref (ad 12)]) := by rw [e10, va_up_ne _ _ (by decide)]; exact f8
  refine r_get kc2 X h 1 3 (by decide) rfl f12 (by decide) kw_0 rfl dX2_become_26 ?_
  refine r_put kc2 X hD h 28 3 (by decide) rfl f11 (by decide) kw_0 rfl rfl rfl (Nat.le_of_ble_eq_true rfl) dX2_become_29 (fun H locs w13 e14 h => ?_)
  have f15 : w13 28 = .inr (1, [.int 0, .int 0, .int 0, .int 0, .int 0, .ref (ad 29), .ref (ad 30), .ref (ad 31), .ref (ad 32), .ref (ad 33), .ref (ad 34), .ref (ad 35), .ref (ad 37), .ref (ad 39)]) := (congrFun e14 _).trans (va_up_self _ _ _)
  refine lv_aload_n hx hb dX2_become_32 rfl (lv_at hl 0 rfl) ?_
  refine lv_aload_n hx hb dX2_become_33 rfl (lv_at hl 1 rfl) ?_
  have f16 : w13 1 = .inr (1, [.int 0, .int 0, .int 0, .int 0, .int 0, .ref (ad 2), .ref (ad 3), .ref (ad 4), .ref (ad 5), .ref (ad 6), .ref (ad 7), .ref (ad 8), .ref (ad 10), .ref (ad 12)]) := by rw [e14, va_up_ne _ _ (by decide)]; exact f12
  refine r_get kc2 X h 1 4 (by decide) rfl f16 (by decide) kw_1 rfl dX2_become_34 ?_
  refine r_put kc2 X hD h 28 4 (by decide) rfl f15 (by decide) kw_1 rfl rfl rfl (Nat.le_of_ble_eq_true rfl) dX2_become_37 (fun H locs w17 e18 h => ?_)
  have f19 : w17 28 = .inr (1, [.int 0, .int 0, .int 0, .int 0, .int 0, .ref (ad 29), .ref (ad 30), .ref (ad 31), .ref (ad 32), .ref (ad 33), .ref (ad 34), .ref (ad 35), .ref (ad 37), .ref (ad 39)]) := (congrFun e18 _).trans (va_up_self _ _ _)
  refine lv_aload_n hx hb dX2_become_40 rfl (lv_at hl 1 rfl) ?_
  have f20 : w17 1 = .inr (1, [.int 0, .int 0, .int 0, .int 0, .int 0, .ref (ad 2), .ref (ad 3), .ref (ad 4), .ref (ad 5), .ref (ad 6), .ref (ad 7), .ref (ad 8), .ref (ad 10), .ref (ad 12)]) := by rw [e18, va_up_ne _ _ (by decide)]; exact f16
  refine r_get kc2 X h 1 5 (by decide) rfl f20 (by decide) kw_46 rfl dX2_become_41 ?_
  refine lv_iconst (v := 0) hx hb dX2_become_44 (by decide) ?_
  refine lv_aload_n hx hb dX2_become_45 rfl (lv_at hl 0 rfl) ?_
  refine r_get kc2 X h 28 5 (by decide) rfl f19 (by decide) kw_46 rfl dX2_become_46 ?_
  refine lv_iconst (v := 0) hx hb dX2_become_49 (by decide) ?_
  refine lv_bipush (v := 7) hx hb dX2_become_50 (by decide) ?_
  have f21 : w1 2 = .inl (cI, 7, .inl (fun _ => 0)) := by rw [e2, va_up_ne _ _ (by decide)]; exact pf2
  have f22 : w5 2 = .inl (cI, 7, .inl (fun _ => 0)) := by rw [e6, va_up_ne _ _ (by decide)]; exact f21
  have f23 : w9 2 = .inl (cI, 7, .inl (fun _ => 0)) := by rw [e10, va_up_ne _ _ (by decide)]; exact f22
  have f24 : w13 2 = .inl (cI, 7, .inl (fun _ => 0)) := by rw [e14, va_up_ne _ _ (by decide)]; exact f23
  have f25 : w17 2 = .inl (cI, 7, .inl (fun _ => 0)) := by rw [e18, va_up_ne _ _ (by decide)]; exact f24
  have f26 : w1 29 = .inl (cI, 7, .inl (fun _ => 0)) := by rw [e2, va_up_ne _ _ (by decide)]; exact pf29
  have f27 : w5 29 = .inl (cI, 7, .inl (fun _ => 0)) := by rw [e6, va_up_ne _ _ (by decide)]; exact f26
  have f28 : w9 29 = .inl (cI, 7, .inl (fun _ => 0)) := by rw [e10, va_up_ne _ _ (by decide)]; exact f27
  have f29 : w13 29 = .inl (cI, 7, .inl (fun _ => 0)) := by rw [e14, va_up_ne _ _ (by decide)]; exact f28
  have f30 : w17 29 = .inl (cI, 7, .inl (fun _ => 0)) := by rw [e18, va_up_ne _ _ (by decide)]; exact f29
  refine r_copy (f1 := fun _ => 0) X hD h hl.1 kw_161 kw_144 kw_145 kw_146 2 29 0 (by decide) (by decide) rfl rfl f25 f30 rfl (by decide) (by decide) (by decide) (by decide) (by decide) (cpy0 _ _ _) ⟨Nat.le_of_ble_eq_true rfl, by decide⟩ dX2_become_52 (fun H locs w31 e32 h => ?_)
  have f33 : w31 29 = .inl (cI, 7, .inl (fun _ => 0)) := (congrFun e32 _).trans (va_up_self _ _ _)
  refine lv_aload_n hx hb dX2_become_55 rfl (lv_at hl 1 rfl) ?_
  have f34 : w31 1 = .inr (1, [.int 0, .int 0, .int 0, .int 0, .int 0, .ref (ad 2), .ref (ad 3), .ref (ad 4), .ref (ad 5), .ref (ad 6), .ref (ad 7), .ref (ad 8), .ref (ad 10), .ref (ad 12)]) := by rw [e32, va_up_ne _ _ (by decide)]; exact f20
  refine r_get kc2 X h 1 6 (by decide) rfl f34 (by decide) kw_47 rfl dX2_become_56 ?_
  refine lv_iconst (v := 0) hx hb dX2_become_59 (by decide) ?_
  refine lv_aload_n hx hb dX2_become_60 rfl (lv_at hl 0 rfl) ?_
  have f35 : w31 28 = .inr (1, [.int 0, .int 0, .int 0, .int 0, .int 0, .ref (ad 29), .ref (ad 30), .ref (ad 31), .ref (ad 32), .ref (ad 33), .ref (ad 34), .ref (ad 35), .ref (ad 37), .ref (ad 39)]) := by rw [e32, va_up_ne _ _ (by decide)]; exact f19
  refine r_get kc2 X h 28 6 (by decide) rfl f35 (by decide) kw_47 rfl dX2_become_61 ?_
  refine lv_iconst (v := 0) hx hb dX2_become_64 (by decide) ?_
  refine lv_bipush (v := 7) hx hb dX2_become_65 (by decide) ?_
  have f36 : w1 3 = .inl (cI, 7, .inl (fun _ => 0)) := by rw [e2, va_up_ne _ _ (by decide)]; exact pf3
  have f37 : w5 3 = .inl (cI, 7, .inl (fun _ => 0)) := by rw [e6, va_up_ne _ _ (by decide)]; exact f36
  have f38 : w9 3 = .inl (cI, 7, .inl (fun _ => 0)) := by rw [e10, va_up_ne _ _ (by decide)]; exact f37
  have f39 : w13 3 = .inl (cI, 7, .inl (fun _ => 0)) := by rw [e14, va_up_ne _ _ (by decide)]; exact f38
  have f40 : w17 3 = .inl (cI, 7, .inl (fun _ => 0)) := by rw [e18, va_up_ne _ _ (by decide)]; exact f39
  have f41 : w31 3 = .inl (cI, 7, .inl (fun _ => 0)) := by rw [e32, va_up_ne _ _ (by decide)]; exact f40
  have f42 : w1 30 = .inl (cI, 7, .inl (fun _ => 0)) := by rw [e2, va_up_ne _ _ (by decide)]; exact pf30
  have f43 : w5 30 = .inl (cI, 7, .inl (fun _ => 0)) := by rw [e6, va_up_ne _ _ (by decide)]; exact f42
  have f44 : w9 30 = .inl (cI, 7, .inl (fun _ => 0)) := by rw [e10, va_up_ne _ _ (by decide)]; exact f43
  have f45 : w13 30 = .inl (cI, 7, .inl (fun _ => 0)) := by rw [e14, va_up_ne _ _ (by decide)]; exact f44
  have f46 : w17 30 = .inl (cI, 7, .inl (fun _ => 0)) := by rw [e18, va_up_ne _ _ (by decide)]; exact f45
  have f47 : w31 30 = .inl (cI, 7, .inl (fun _ => 0)) := by rw [e32, va_up_ne _ _ (by decide)]; exact f46
  refine r_copy (f1 := fun _ => 0) X hD h hl.1 kw_161 kw_144 kw_145 kw_146 3 30 0 (by decide) (by decide) rfl rfl f41 f47 rfl (by decide) (by decide) (by decide) (by decide) (by decide) (cpy0 _ _ _) ⟨Nat.le_of_ble_eq_true rfl, by decide⟩ dX2_become_67 (fun H locs w48 e49 h => ?_)
  have f50 : w48 30 = .inl (cI, 7, .inl (fun _ => 0)) := (congrFun e49 _).trans (va_up_self _ _ _)
  refine lv_aload_n hx hb dX2_become_70 rfl (lv_at hl 1 rfl) ?_
  have f51 : w48 1 = .inr (1, [.int 0, .int 0, .int 0, .int 0, .int 0, .ref (ad 2), .ref (ad 3), .ref (ad 4), .ref (ad 5), .ref (ad 6), .ref (ad 7), .ref (ad 8), .ref (ad 10), .ref (ad 12)]) := by rw [e49, va_up_ne _ _ (by decide)]; exact f34
  refine r_get kc2 X h 1 7 (by decide) rfl f51 (by decide) kw_48 rfl dX2_become_71 ?_
  refine lv_iconst (v := 0) hx hb dX2_become_74 (by decide) ?_
  refine lv_aload_n hx hb dX2_become_75 rfl (lv_at hl 0 rfl) ?_
  have f52 : w48 28 = .inr (1, [.int 0, .int 0, .int 0, .int 0, .int 0, .ref (ad 29), .ref (ad 30), .ref (ad 31), .ref (ad 32), .ref (ad 33), .ref (ad 34), .ref (ad 35), .ref (ad 37), .ref (ad 39)]) := by rw [e49, va_up_ne _ _ (by decide)]; exact f35
  refine r_get kc2 X h 28 7 (by decide) rfl f52 (by decide) kw_48 rfl dX2_become_76 ?_
  refine lv_iconst (v := 0) hx hb dX2_become_79 (by decide) ?_
  refine lv_bipush (v := 7) hx hb dX2_become_80 (by decide) ?_
  have f53 : w1 4 = .inl (cI, 7, .inl (fun _ => 0)) := by rw [e2, va_up_ne _ _ (by decide)]; exact pf4
  have f54 : w5 4 = .inl (cI, 7, .inl (fun _ => 0)) := by rw [e6, va_up_ne _ _ (by decide)]; exact f53
  have f55 : w9 4 = .inl (cI, 7, .inl (fun _ => 0)) := by rw [e10, va_up_ne _ _ (by decide)]; exact f54
  have f56 : w13 4 = .inl (cI, 7, .inl (fun _ => 0)) := by rw [e14, va_up_ne _ _ (by decide)]; exact f55
  have f57 : w17 4 = .inl (cI, 7, .inl (fun _ => 0)) := by rw [e18, va_up_ne _ _ (by decide)]; exact f56
  have f58 : w31 4 = .inl (cI, 7, .inl (fun _ => 0)) := by rw [e32, va_up_ne _ _ (by decide)]; exact f57
  have f59 : w48 4 = .inl (cI, 7, .inl (fun _ => 0)) := by rw [e49, va_up_ne _ _ (by decide)]; exact f58
  have f60 : w1 31 = .inl (cI, 7, .inl (fun _ => 0)) := by rw [e2, va_up_ne _ _ (by decide)]; exact pf31
  have f61 : w5 31 = .inl (cI, 7, .inl (fun _ => 0)) := by rw [e6, va_up_ne _ _ (by decide)]; exact f60
  have f62 : w9 31 = .inl (cI, 7, .inl (fun _ => 0)) := by rw [e10, va_up_ne _ _ (by decide)]; exact f61
  have f63 : w13 31 = .inl (cI, 7, .inl (fun _ => 0)) := by rw [e14, va_up_ne _ _ (by decide)]; exact f62
  have f64 : w17 31 = .inl (cI, 7, .inl (fun _ => 0)) := by rw [e18, va_up_ne _ _ (by decide)]; exact f63
  have f65 : w31 31 = .inl (cI, 7, .inl (fun _ => 0)) := by rw [e32, va_up_ne _ _ (by decide)]; exact f64
  have f66 : w48 31 = .inl (cI, 7, .inl (fun _ => 0)) := by rw [e49, va_up_ne _ _ (by decide)]; exact f65
  refine r_copy (f1 := fun _ => 0) X hD h hl.1 kw_161 kw_144 kw_145 kw_146 4 31 0 (by decide) (by decide) rfl rfl f59 f66 rfl (by decide) (by decide) (by decide) (by decide) (by decide) (cpy0 _ _ _) ⟨Nat.le_of_ble_eq_true rfl, by decide⟩ dX2_become_82 (fun H locs w67 e68 h => ?_)
  have f69 : w67 31 = .inl (cI, 7, .inl (fun _ => 0)) := (congrFun e68 _).trans (va_up_self _ _ _)
  refine lv_aload_n hx hb dX2_become_85 rfl (lv_at hl 1 rfl) ?_
  have f70 : w67 1 = .inr (1, [.int 0, .int 0, .int 0, .int 0, .int 0, .ref (ad 2), .ref (ad 3), .ref (ad 4), .ref (ad 5), .ref (ad 6), .ref (ad 7), .ref (ad 8), .ref (ad 10), .ref (ad 12)]) := by rw [e68, va_up_ne _ _ (by decide)]; exact f51
  refine r_get kc2 X h 1 8 (by decide) rfl f70 (by decide) kw_49 rfl dX2_become_86 ?_
  refine lv_iconst (v := 0) hx hb dX2_become_89 (by decide) ?_
  refine lv_aload_n hx hb dX2_become_90 rfl (lv_at hl 0 rfl) ?_
  have f71 : w67 28 = .inr (1, [.int 0, .int 0, .int 0, .int 0, .int 0, .ref (ad 29), .ref (ad 30), .ref (ad 31), .ref (ad 32), .ref (ad 33), .ref (ad 34), .ref (ad 35), .ref (ad 37), .ref (ad 39)]) := by rw [e68, va_up_ne _ _ (by decide)]; exact f52
  refine r_get kc2 X h 28 8 (by decide) rfl f71 (by decide) kw_49 rfl dX2_become_91 ?_
  refine lv_iconst (v := 0) hx hb dX2_become_94 (by decide) ?_
  refine lv_iconst (v := 4) hx hb dX2_become_95 (by decide) ?_
  have f72 : w1 5 = .inl (cI, 4, .inl (fun _ => 0)) := by rw [e2, va_up_ne _ _ (by decide)]; exact pf5
  have f73 : w5 5 = .inl (cI, 4, .inl (fun _ => 0)) := by rw [e6, va_up_ne _ _ (by decide)]; exact f72
  have f74 : w9 5 = .inl (cI, 4, .inl (fun _ => 0)) := by rw [e10, va_up_ne _ _ (by decide)]; exact f73
  have f75 : w13 5 = .inl (cI, 4, .inl (fun _ => 0)) := by rw [e14, va_up_ne _ _ (by decide)]; exact f74
  have f76 : w17 5 = .inl (cI, 4, .inl (fun _ => 0)) := by rw [e18, va_up_ne _ _ (by decide)]; exact f75
  have f77 : w31 5 = .inl (cI, 4, .inl (fun _ => 0)) := by rw [e32, va_up_ne _ _ (by decide)]; exact f76
  have f78 : w48 5 = .inl (cI, 4, .inl (fun _ => 0)) := by rw [e49, va_up_ne _ _ (by decide)]; exact f77
  have f79 : w67 5 = .inl (cI, 4, .inl (fun _ => 0)) := by rw [e68, va_up_ne _ _ (by decide)]; exact f78
  have f80 : w1 32 = .inl (cI, 4, .inl (fun _ => 0)) := by rw [e2, va_up_ne _ _ (by decide)]; exact pf32
  have f81 : w5 32 = .inl (cI, 4, .inl (fun _ => 0)) := by rw [e6, va_up_ne _ _ (by decide)]; exact f80
  have f82 : w9 32 = .inl (cI, 4, .inl (fun _ => 0)) := by rw [e10, va_up_ne _ _ (by decide)]; exact f81
  have f83 : w13 32 = .inl (cI, 4, .inl (fun _ => 0)) := by rw [e14, va_up_ne _ _ (by decide)]; exact f82
  have f84 : w17 32 = .inl (cI, 4, .inl (fun _ => 0)) := by rw [e18, va_up_ne _ _ (by decide)]; exact f83
  have f85 : w31 32 = .inl (cI, 4, .inl (fun _ => 0)) := by rw [e32, va_up_ne _ _ (by decide)]; exact f84
  have f86 : w48 32 = .inl (cI, 4, .inl (fun _ => 0)) := by rw [e49, va_up_ne _ _ (by decide)]; exact f85
  have f87 : w67 32 = .inl (cI, 4, .inl (fun _ => 0)) := by rw [e68, va_up_ne _ _ (by decide)]; exact f86
  refine r_copy (f1 := fun _ => 0) X hD h hl.1 kw_161 kw_144 kw_145 kw_146 5 32 0 (by decide) (by decide) rfl rfl f79 f87 rfl (by decide) (by decide) (by decide) (by decide) (by decide) (cpy0 _ _ _) ⟨Nat.le_of_ble_eq_true rfl, by decide⟩ dX2_become_96 (fun H locs w88 e89 h => ?_)
  have f90 : w88 32 = .inl (cI, 4, .inl (fun _ => 0)) := (congrFun e89 _).trans (va_up_self _ _ _)
  refine lv_aload_n hx hb dX2_become_99 rfl (lv_at hl 1 rfl) ?_
  have f91 : w88 1 = .inr (1, [.int 0, .int 0, .int 0, .int 0, .int 0, .ref (ad 2), .ref (ad 3), .ref (ad 4), .ref (ad 5), .ref (ad 6), .ref (ad 7), .ref (ad 8), .ref (ad 10), .ref (ad 12)]) := by rw [e89, va_up_ne _ _ (by decide)]; exact f70
  refine r_get kc2 X h 1 9 (by decide) rfl f91 (by decide) kw_50 rfl dX2_become_100 ?_
  refine lv_iconst (v := 0) hx hb dX2_become_103 (by decide) ?_
  refine lv_aload_n hx hb dX2_become_104 rfl (lv_at hl 0 rfl) ?_
  have f92 : w88 28 = .inr (1, [.int 0, .int 0, .int 0, .int 0, .int 0, .ref (ad 29), .ref (ad 30), .ref (ad 31), .ref (ad 32), .ref (ad 33), .ref (ad 34), .ref (ad 35), .ref (ad 37), .ref (ad 39)]) := by rw [e89, va_up_ne _ _ (by decide)]; exact f71
  refine r_get kc2 X h 28 9 (by decide) rfl f92 (by decide) kw_50 rfl dX2_become_105 ?_
  refine lv_iconst (v := 0) hx hb dX2_become_108 (by decide) ?_
  refine lv_iconst (v := 4) hx hb dX2_become_109 (by decide) ?_
  have f93 : w1 6 = .inl (cI, 4, .inl (fun _ => 0)) := by rw [e2, va_up_ne _ _ (by decide)]; exact pf6
  have f94 : w5 6 = .inl (cI, 4, .inl (fun _ => 0)) := by rw [e6, va_up_ne _ _ (by decide)]; exact f93
  have f95 : w9 6 = .inl (cI, 4, .inl (fun _ => 0)) := by rw [e10, va_up_ne _ _ (by decide)]; exact f94
  have f96 : w13 6 = .inl (cI, 4, .inl (fun _ => 0)) := by rw [e14, va_up_ne _ _ (by decide)]; exact f95
  have f97 : w17 6 = .inl (cI, 4, .inl (fun _ => 0)) := by rw [e18, va_up_ne _ _ (by decide)]; exact f96
  have f98 : w31 6 = .inl (cI, 4, .inl (fun _ => 0)) := by rw [e32, va_up_ne _ _ (by decide)]; exact f97
  have f99 : w48 6 = .inl (cI, 4, .inl (fun _ => 0)) := by rw [e49, va_up_ne _ _ (by decide)]; exact f98
  have f100 : w67 6 = .inl (cI, 4, .inl (fun _ => 0)) := by rw [e68, va_up_ne _ _ (by decide)]; exact f99
  have f101 : w88 6 = .inl (cI, 4, .inl (fun _ => 0)) := by rw [e89, va_up_ne _ _ (by decide)]; exact f100
  have f102 : w1 33 = .inl (cI, 4, .inl (fun _ => 0)) := by rw [e2, va_up_ne _ _ (by decide)]; exact pf33
  have f103 : w5 33 = .inl (cI, 4, .inl (fun _ => 0)) := by rw [e6, va_up_ne _ _ (by decide)]; exact f102
  have f104 : w9 33 = .inl (cI, 4, .inl (fun _ => 0)) := by rw [e10, va_up_ne _ _ (by decide)]; exact f103
  have f105 : w13 33 = .inl (cI, 4, .inl (fun _ => 0)) := by rw [e14, va_up_ne _ _ (by decide)]; exact f104
  have f106 : w17 33 = .inl (cI, 4, .inl (fun _ => 0)) := by rw [e18, va_up_ne _ _ (by decide)]; exact f105
  have f107 : w31 33 = .inl (cI, 4, .inl (fun _ => 0)) := by rw [e32, va_up_ne _ _ (by decide)]; exact f106
  have f108 : w48 33 = .inl (cI, 4, .inl (fun _ => 0)) := by rw [e49, va_up_ne _ _ (by decide)]; exact f107
  have f109 : w67 33 = .inl (cI, 4, .inl (fun _ => 0)) := by rw [e68, va_up_ne _ _ (by decide)]; exact f108
  have f110 : w88 33 = .inl (cI, 4, .inl (fun _ => 0)) := by rw [e89, va_up_ne _ _ (by decide)]; exact f109
  refine r_copy (f1 := fun _ => 0) X hD h hl.1 kw_161 kw_144 kw_145 kw_146 6 33 0 (by decide) (by decide) rfl rfl f101 f110 rfl (by decide) (by decide) (by decide) (by decide) (by decide) (cpy0 _ _ _) ⟨Nat.le_of_ble_eq_true rfl, by decide⟩ dX2_become_110 (fun H locs w111 e112 h => ?_)
  have f113 : w111 33 = .inl (cI, 4, .inl (fun _ => 0)) := (congrFun e112 _).trans (va_up_self _ _ _)
  refine lv_aload_n hx hb dX2_become_113 rfl (lv_at hl 1 rfl) ?_
  have f114 : w111 1 = .inr (1, [.int 0, .int 0, .int 0, .int 0, .int 0, .ref (ad 2), .ref (ad 3), .ref (ad 4), .ref (ad 5), .ref (ad 6), .ref (ad 7), .ref (ad 8), .ref (ad 10), .ref (ad 12)]) := by rw [e112, va_up_ne _ _ (by decide)]; exact f91
  refine r_get kc2 X h 1 10 (by decide) rfl f114 (by decide) kw_51 rfl dX2_become_114 ?_
  refine lv_iconst (v := 0) hx hb dX2_become_117 (by decide) ?_
  refine lv_aload_n hx hb dX2_become_118 rfl (lv_at hl 0 rfl) ?_
  have f115 : w111 28 = .inr (1, [.int 0, .int 0, .int 0, .int 0, .int 0, .ref (ad 29), .ref (ad 30), .ref (ad 31), .ref (ad 32), .ref (ad 33), .ref (ad 34), .ref (ad 35), .ref (ad 37), .ref (ad 39)]) := by rw [e112, va_up_ne _ _ (by decide)]; exact f92
  refine r_get kc2 X h 28 10 (by decide) rfl f115 (by decide) kw_51 rfl dX2_become_119 ?_
  refine lv_iconst (v := 0) hx hb dX2_become_122 (by decide) ?_
  refine lv_iconst (v := 4) hx hb dX2_become_123 (by decide) ?_
  have f116 : w1 7 = .inl (cI, 4, .inl (fun _ => 0)) := by rw [e2, va_up_ne _ _ (by decide)]; exact pf7
  have f117 : w5 7 = .inl (cI, 4, .inl (fun _ => 0)) := by rw [e6, va_up_ne _ _ (by decide)]; exact f116
  have f118 : w9 7 = .inl (cI, 4, .inl (fun _ => 0)) := by rw [e10, va_up_ne _ _ (by decide)]; exact f117
  have f119 : w13 7 = .inl (cI, 4, .inl (fun _ => 0)) := by rw [e14, va_up_ne _ _ (by decide)]; exact f118
  have f120 : w17 7 = .inl (cI, 4, .inl (fun _ => 0)) := by rw [e18, va_up_ne _ _ (by decide)]; exact f119
  have f121 : w31 7 = .inl (cI, 4, .inl (fun _ => 0)) := by rw [e32, va_up_ne _ _ (by decide)]; exact f120
  have f122 : w48 7 = .inl (cI, 4, .inl (fun _ => 0)) := by rw [e49, va_up_ne _ _ (by decide)]; exact f121
  have f123 : w67 7 = .inl (cI, 4, .inl (fun _ => 0)) := by rw [e68, va_up_ne _ _ (by decide)]; exact f122
  have f124 : w88 7 = .inl (cI, 4, .inl (fun _ => 0)) := by rw [e89, va_up_ne _ _ (by decide)]; exact f123
  have f125 : w111 7 = .inl (cI, 4, .inl (fun _ => 0)) := by rw [e112, va_up_ne _ _ (by decide)]; exact f124
  have f126 : w1 34 = .inl (cI, 4, .inl (fun _ => 0)) := by rw [e2, va_up_ne _ _ (by decide)]; exact pf34
  have f127 : w5 34 = .inl (cI, 4, .inl (fun _ => 0)) := by rw [e6, va_up_ne _ _ (by decide)]; exact f126
  have f128 : w9 34 = .inl (cI, 4, .inl (fun _ => 0)) := by rw [e10, va_up_ne _ _ (by decide)]; exact f127
  have f129 : w13 34 = .inl (cI, 4, .inl (fun _ => 0)) := by rw [e14, va_up_ne _ _ (by decide)]; exact f128
  have f130 : w17 34 = .inl (cI, 4, .inl (fun _ => 0)) := by rw [e18, va_up_ne _ _ (by decide)]; exact f129
  have f131 : w31 34 = .inl (cI, 4, .inl (fun _ => 0)) := by rw [e32, va_up_ne _ _ (by decide)]; exact f130
  have f132 : w48 34 = .inl (cI, 4, .inl (fun _ => 0)) := by rw [e49, va_up_ne _ _ (by decide)]; exact f131
  have f133 : w67 34 = .inl (cI, 4, .inl (fun _ => 0)) := by rw [e68, va_up_ne _ _ (by decide)]; exact f132
  have f134 : w88 34 = .inl (cI, 4, .inl (fun _ => 0)) := by rw [e89, va_up_ne _ _ (by decide)]; exact f133
  have f135 : w111 34 = .inl (cI, 4, .inl (fun _ => 0)) := by rw [e112, va_up_ne _ _ (by decide)]; exact f134
  refine r_copy (f1 := fun _ => 0) X hD h hl.1 kw_161 kw_144 kw_145 kw_146 7 34 0 (by decide) (by decide) rfl rfl f125 f135 rfl (by decide) (by decide) (by decide) (by decide) (by decide) (cpy0 _ _ _) ⟨Nat.le_of_ble_eq_true rfl, by decide⟩ dX2_become_124 (fun H locs w136 e137 h => ?_)
  have f138 : w136 34 = .inl (cI, 4, .inl (fun _ => 0)) := (congrFun e137 _).trans (va_up_self _ _ _)
  refine lv_aload_n hx hb dX2_become_127 rfl (lv_at hl 0 rfl) ?_
  have f139 : w136 28 = .inr (1, [.int 0, .int 0, .int 0, .int 0, .int 0, .ref (ad 29), .ref (ad 30), .ref (ad 31), .ref (ad 32), .ref (ad 33), .ref (ad 34), .ref (ad 35), .ref (ad 37), .ref (ad 39)]) := by rw [e137, va_up_ne _ _ (by decide)]; exact f115
  refine r_get kc2 X h 28 11 (by decide) rfl f139 (by decide) kw_25 rfl dX2_become_128 ?_
  refine lv_aload_n hx hb dX2_become_131 rfl (lv_at hl 1 rfl) ?_
  have f140 : w136 1 = .inr (1, [.int 0, .int 0, .int 0, .int 0, .int 0, .ref (ad 2), .ref (ad 3), .ref (ad 4), .ref (ad 5), .ref (ad 6), .ref (ad 7), .ref (ad 8), .ref (ad 10), .ref (ad 12)]) := by rw [e137, va_up_ne _ _ (by decide)]; exact f114
  refine r_get kc2 X h 1 11 (by decide) rfl f140 (by decide) kw_25 rfl dX2_become_132 ?_
  have f141 : w1 35 = .inr (4, [.ref (ad 36), .int 0]) := by rw [e2, va_up_ne _ _ (by decide)]; exact pf35
  have f142 : w5 35 = .inr (4, [.ref (ad 36), .int 0]) := by rw [e6, va_up_ne _ _ (by decide)]; exact f141
  have f143 : w9 35 = .inr (4, [.ref (ad 36), .int 0]) := by rw [e10, va_up_ne _ _ (by decide)]; exact f142
  have f144 : w13 35 = .inr (4, [.ref (ad 36), .int 0]) := by rw [e14, va_up_ne _ _ (by decide)]; exact f143
  have f145 : w17 35 = .inr (4, [.ref (ad 36), .int 0]) := by rw [e18, va_up_ne _ _ (by decide)]; exact f144
  have f146 : w31 35 = .inr (4, [.ref (ad 36), .int 0]) := by rw [e32, va_up_ne _ _ (by decide)]; exact f145
  have f147 : w48 35 = .inr (4, [.ref (ad 36), .int 0]) := by rw [e49, va_up_ne _ _ (by decide)]; exact f146
  have f148 : w67 35 = .inr (4, [.ref (ad 36), .int 0]) := by rw [e68, va_up_ne _ _ (by decide)]; exact f147
  have f149 : w88 35 = .inr (4, [.ref (ad 36), .int 0]) := by rw [e89, va_up_ne _ _ (by decide)]; exact f148
  have f150 : w111 35 = .inr (4, [.ref (ad 36), .int 0]) := by rw [e112, va_up_ne _ _ (by decide)]; exact f149
  have f151 : w136 35 = .inr (4, [.ref (ad 36), .int 0]) := by rw [e137, va_up_ne _ _ (by decide)]; exact f150
  have f152 : w1 36 = .inl (cI, 24, .inl (fun _ => 0)) := by rw [e2, va_up_ne _ _ (by decide)]; exact pf36
  have f153 : w5 36 = .inl (cI, 24, .inl (fun _ => 0)) := by rw [e6, va_up_ne _ _ (by decide)]; exact f152
  have f154 : w9 36 = .inl (cI, 24, .inl (fun _ => 0)) := by rw [e10, va_up_ne _ _ (by decide)]; exact f153
  have f155 : w13 36 = .inl (cI, 24, .inl (fun _ => 0)) := by rw [e14, va_up_ne _ _ (by decide)]; exact f154
  have f156 : w17 36 = .inl (cI, 24, .inl (fun _ => 0)) := by rw [e18, va_up_ne _ _ (by decide)]; exact f155
  have f157 : w31 36 = .inl (cI, 24, .inl (fun _ => 0)) := by rw [e32, va_up_ne _ _ (by decide)]; exact f156
  have f158 : w48 36 = .inl (cI, 24, .inl (fun _ => 0)) := by rw [e49, va_up_ne _ _ (by decide)]; exact f157
  have f159 : w67 36 = .inl (cI, 24, .inl (fun _ => 0)) := by rw [e68, va_up_ne _ _ (by decide)]; exact f158
  have f160 : w88 36 = .inl (cI, 24, .inl (fun _ => 0)) := by rw [e89, va_up_ne _ _ (by decide)]; exact f159
  have f161 : w111 36 = .inl (cI, 24, .inl (fun _ => 0)) := by rw [e112, va_up_ne _ _ (by decide)]; exact f160
  have f162 : w136 36 = .inl (cI, 24, .inl (fun _ => 0)) := by rw [e137, va_up_ne _ _ (by decide)]; exact f161
  have f163 : w1 8 = .inr (4, [.ref (ad 9), .int 0]) := by rw [e2, va_up_ne _ _ (by decide)]; exact pf8
  have f164 : w5 8 = .inr (4, [.ref (ad 9), .int 0]) := by rw [e6, va_up_ne _ _ (by decide)]; exact f163
  have f165 : w9 8 = .inr (4, [.ref (ad 9), .int 0]) := by rw [e10, va_up_ne _ _ (by decide)]; exact f164
  have f166 : w13 8 = .inr (4, [.ref (ad 9), .int 0]) := by rw [e14, va_up_ne _ _ (by decide)]; exact f165
  have f167 : w17 8 = .inr (4, [.ref (ad 9), .int 0]) := by rw [e18, va_up_ne _ _ (by decide)]; exact f166
  have f168 : w31 8 = .inr (4, [.ref (ad 9), .int 0]) := by rw [e32, va_up_ne _ _ (by decide)]; exact f167
  have f169 : w48 8 = .inr (4, [.ref (ad 9), .int 0]) := by rw [e49, va_up_ne _ _ (by decide)]; exact f168
  have f170 : w67 8 = .inr (4, [.ref (ad 9), .int 0]) := by rw [e68, va_up_ne _ _ (by decide)]; exact f169
  have f171 : w88 8 = .inr (4, [.ref (ad 9), .int 0]) := by rw [e89, va_up_ne _ _ (by decide)]; exact f170
  have f172 : w111 8 = .inr (4, [.ref (ad 9), .int 0]) := by rw [e112, va_up_ne _ _ (by decide)]; exact f171
  have f173 : w136 8 = .inr (4, [.ref (ad 9), .int 0]) := by rw [e137, va_up_ne _ _ (by decide)]; exact f172
  have f174 : w1 9 = .inl (cI, 24, .inl (fun _ => 0)) := by rw [e2, va_up_ne _ _ (by decide)]; exact pf9
  have f175 : w5 9 = .inl (cI, 24, .inl (fun _ => 0)) := by rw [e6, va_up_ne _ _ (by decide)]; exact f174
  have f176 : w9 9 = .inl (cI, 24, .inl (fun _ => 0)) := by rw [e10, va_up_ne _ _ (by decide)]; exact f175
  have f177 : w13 9 = .inl (cI, 24, .inl (fun _ => 0)) := by rw [e14, va_up_ne _ _ (by decide)]; exact f176
  have f178 : w17 9 = .inl (cI, 24, .inl (fun _ => 0)) := by rw [e18, va_up_ne _ _ (by decide)]; exact f177
  have f179 : w31 9 = .inl (cI, 24, .inl (fun _ => 0)) := by rw [e32, va_up_ne _ _ (by decide)]; exact f178
  have f180 : w48 9 = .inl (cI, 24, .inl (fun _ => 0)) := by rw [e49, va_up_ne _ _ (by decide)]; exact f179
  have f181 : w67 9 = .inl (cI, 24, .inl (fun _ => 0)) := by rw [e68, va_up_ne _ _ (by decide)]; exact f180
  have f182 : w88 9 = .inl (cI, 24, .inl (fun _ => 0)) := by rw [e89, va_up_ne _ _ (by decide)]; exact f181
  have f183 : w111 9 = .inl (cI, 24, .inl (fun _ => 0)) := by rw [e112, va_up_ne _ _ (by decide)]; exact f182
  have f184 : w136 9 = .inl (cI, 24, .inl (fun _ => 0)) := by rw [e137, va_up_ne _ _ (by decide)]; exact f183
  refine q_Vv (na := 1) (As := [.ref (ad 8)]) (rest := []) X hD hN h rfl (c_R_become l G cI cB cZ cO ad w136 35 8 _ _ _ _ (by omega) (by omega) (by omega) f151 f162 f173 f184) ⟨kw_162, kw_163, kw_164, kw_29, kw_165⟩ rfl ⟨by decide, by decide, by decide⟩ ⟨Nat.le_of_ble_eq_true rfl, Nat.le_of_ble_eq_true rfl⟩ ⟨Nat.zero_le _, Nat.zero_le _⟩ (by decide) f151 rfl rfl hl.1 rfl (Nat.le_of_ble_eq_true rfl) dX2_become_135 (fun w186 H locs hp187 h => ?_)
  refine lv_aload_n hx hb dX2_become_138 rfl (lv_at hl 0 rfl) ?_
  have f188 : w186 28 = .inr (1, [.int 0, .int 0, .int 0, .int 0, .int 0, .ref (ad 29), .ref (ad 30), .ref (ad 31), .ref (ad 32), .ref (ad 33), .ref (ad 34), .ref (ad 35), .ref (ad 37), .ref (ad 39)]) := (hp187 28 (by decide) (by decide)).trans f139
  refine r_get kc2 X h 28 12 (by decide) rfl f188 (by decide) kw_31 rfl dX2_become_139 ?_
  refine lv_aload_n hx hb dX2_become_142 rfl (lv_at hl 1 rfl) ?_
  have f189 : w186 1 = .inr (1, [.int 0, .int 0, .int 0, .int 0, .int 0, .ref (ad 2), .ref (ad 3), .ref (ad 4), .ref (ad 5), .ref (ad 6), .ref (ad 7), .ref (ad 8), .ref (ad 10), .ref (ad 12)]) := (hp187 1 (by decide) (by decide)).trans f140
  refine r_get kc2 X h 1 12 (by decide) rfl f189 (by decide) kw_31 rfl dX2_become_143 ?_
  have f190 : w1 37 = .inr (4, [.ref (ad 38), .int 0]) := by rw [e2, va_up_ne _ _ (by decide)]; exact pf37
  have f191 : w5 37 = .inr (4, [.ref (ad 38), .int 0]) := by rw [e6, va_up_ne _ _ (by decide)]; exact f190
  have f192 : w9 37 = .inr (4, [.ref (ad 38), .int 0]) := by rw [e10, va_up_ne _ _ (by decide)]; exact f191
  have f193 : w13 37 = .inr (4, [.ref (ad 38), .int 0]) := by rw [e14, va_up_ne _ _ (by decide)]; exact f192
  have f194 : w17 37 = .inr (4, [.ref (ad 38), .int 0]) := by rw [e18, va_up_ne _ _ (by decide)]; exact f193
  have f195 : w31 37 = .inr (4, [.ref (ad 38), .int 0]) := by rw [e32, va_up_ne _ _ (by decide)]; exact f194
  have f196 : w48 37 = .inr (4, [.ref (ad 38), .int 0]) := by rw [e49, va_up_ne _ _ (by decide)]; exact f195
  have f197 : w67 37 = .inr (4, [.ref (ad 38), .int 0]) := by rw [e68, va_up_ne _ _ (by decide)]; exact f196
  have f198 : w88 37 = .inr (4, [.ref (ad 38), .int 0]) := by rw [e89, va_up_ne _ _ (by decide)]; exact f197
  have f199 : w111 37 = .inr (4, [.ref (ad 38), .int 0]) := by rw [e112, va_up_ne _ _ (by decide)]; exact f198
  have f200 : w136 37 = .inr (4, [.ref (ad 38), .int 0]) := by rw [e137, va_up_ne _ _ (by decide)]; exact f199
  have f201 : w186 37 = .inr (4, [.ref (ad 38), .int 0]) := (hp187 37 (by decide) (by decide)).trans f200
  have f202 : w1 38 = .inl (cI, 24, .inl (fun _ => 0)) := by rw [e2, va_up_ne _ _ (by decide)]; exact pf38
  have f203 : w5 38 = .inl (cI, 24, .inl (fun _ => 0)) := by rw [e6, va_up_ne _ _ (by decide)]; exact f202
  have f204 : w9 38 = .inl (cI, 24, .inl (fun _ => 0)) := by rw [e10, va_up_ne _ _ (by decide)]; exact f203
  have f205 : w13 38 = .inl (cI, 24, .inl (fun _ => 0)) := by rw [e14, va_up_ne _ _ (by decide)]; exact f204
  have f206 : w17 38 = .inl (cI, 24, .inl (fun _ => 0)) := by rw [e18, va_up_ne _ _ (by decide)]; exact f205
  have f207 : w31 38 = .inl (cI, 24, .inl (fun _ => 0)) := by rw [e32, va_up_ne _ _ (by decide)]; exact f206
  have f208 : w48 38 = .inl (cI, 24, .inl (fun _ => 0)) := by rw [e49, va_up_ne _ _ (by decide)]; exact f207
  have f209 : w67 38 = .inl (cI, 24, .inl (fun _ => 0)) := by rw [e68, va_up_ne _ _ (by decide)]; exact f208
  have f210 : w88 38 = .inl (cI, 24, .inl (fun _ => 0)) := by rw [e89, va_up_ne _ _ (by decide)]; exact f209
  have f211 : w111 38 = .inl (cI, 24, .inl (fun _ => 0)) := by rw [e112, va_up_ne _ _ (by decide)]; exact f210
  have f212 : w136 38 = .inl (cI, 24, .inl (fun _ => 0)) := by rw [e137, va_up_ne _ _ (by decide)]; exact f211
  have f213 : w186 38 = .inl (cI, 24, .inl (fun _ => 0)) := (hp187 38 (by decide) (by decide)).trans f212
  have f214 : w1 10 = .inr (4, [.ref (ad 11), .int 0]) := by rw [e2, va_up_ne _ _ (by decide)]; exact pf10
  have f215 : w5 10 = .inr (4, [.ref (ad 11), .int 0]) := by rw [e6, va_up_ne _ _ (by decide)]; exact f214
  have f216 : w9 10 = .inr (4, [.ref (ad 11), .int 0]) := by rw [e10, va_up_ne _ _ (by decide)]; exact f215
  have f217 : w13 10 = .inr (4, [.ref (ad 11), .int 0]) := by rw [e14, va_up_ne _ _ (by decide)]; exact f216
  have f218 : w17 10 = .inr (4, [.ref (ad 11), .int 0]) := by rw [e18, va_up_ne _ _ (by decide)]; exact f217
  have f219 : w31 10 = .inr (4, [.ref (ad 11), .int 0]) := by rw [e32, va_up_ne _ _ (by decide)]; exact f218
  have f220 : w48 10 = .inr (4, [.ref (ad 11), .int 0]) := by rw [e49, va_up_ne _ _ (by decide)]; exact f219
  have f221 : w67 10 = .inr (4, [.ref (ad 11), .int 0]) := by rw [e68, va_up_ne _ _ (by decide)]; exact f220
  have f222 : w88 10 = .inr (4, [.ref (ad 11), .int 0]) := by rw [e89, va_up_ne _ _ (by decide)]; exact f221
  have f223 : w111 10 = .inr (4, [.ref (ad 11), .int 0]) := by rw [e112, va_up_ne _ _ (by decide)]; exact f222
  have f224 : w136 10 = .inr (4, [.ref (ad 11), .int 0]) := by rw [e137, va_up_ne _ _ (by decide)]; exact f223
  have f225 : w186 10 = .inr (4, [.ref (ad 11), .int 0]) := (hp187 10 (by decide) (by decide)).trans f224
  have f226 : w1 11 = .inl (cI, 24, .inl (fun _ => 0)) := by rw [e2, va_up_ne _ _ (by decide)]; exact pf11
  have f227 : w5 11 = .inl (cI, 24, .inl (fun _ => 0)) := by rw [e6, va_up_ne _ _ (by decide)]; exact f226
  have f228 : w9 11 = .inl (cI, 24, .inl (fun _ => 0)) := by rw [e10, va_up_ne _ _ (by decide)]; exact f227
  have f229 : w13 11 = .inl (cI, 24, .inl (fun _ => 0)) := by rw [e14, va_up_ne _ _ (by decide)]; exact f228
  have f230 : w17 11 = .inl (cI, 24, .inl (fun _ => 0)) := by rw [e18, va_up_ne _ _ (by decide)]; exact f229
  have f231 : w31 11 = .inl (cI, 24, .inl (fun _ => 0)) := by rw [e32, va_up_ne _ _ (by decide)]; exact f230
  have f232 : w48 11 = .inl (cI, 24, .inl (fun _ => 0)) := by rw [e49, va_up_ne _ _ (by decide)]; exact f231
  have f233 : w67 11 = .inl (cI, 24, .inl (fun _ => 0)) := by rw [e68, va_up_ne _ _ (by decide)]; exact f232
  have f234 : w88 11 = .inl (cI, 24, .inl (fun _ => 0)) := by rw [e89, va_up_ne _ _ (by decide)]; exact f233
  have f235 : w111 11 = .inl (cI, 24, .inl (fun _ => 0)) := by rw [e112, va_up_ne _ _ (by decide)]; exact f234
  have f236 : w136 11 = .inl (cI, 24, .inl (fun _ => 0)) := by rw [e137, va_up_ne _ _ (by decide)]; exact f235
  have f237 : w186 11 = .inl (cI, 24, .inl (fun _ => 0)) := (hp187 11 (by decide) (by decide)).trans f236
  refine q_Vv (na := 1) (As := [.ref (ad 10)]) (rest := []) X hD hN h rfl (c_R_become l G cI cB cZ cO ad w186 37 10 _ _ _ _ (by omega) (by omega) (by omega) f201 f213 f225 f237) ⟨kw_162, kw_163, kw_164, kw_29, kw_165⟩ rfl ⟨by decide, by decide, by decide⟩ ⟨Nat.le_of_ble_eq_true rfl, Nat.le_of_ble_eq_true rfl⟩ ⟨Nat.zero_le _, Nat.zero_le _⟩ (by decide) f201 rfl rfl hl.1 rfl (Nat.le_of_ble_eq_true rfl) dX2_become_146 (fun w239 H locs hp240 h => ?_)
  refine lv_aload_n hx hb dX2_become_149 rfl (lv_at hl 0 rfl) ?_
  have f241 : w239 28 = .inr (1, [.int 0, .int 0, .int 0, .int 0, .int 0, .ref (ad 29), .ref (ad 30), .ref (ad 31), .ref (ad 32), .ref (ad 33), .ref (ad 34), .ref (ad 35), .ref (ad 37), .ref (ad 39)]) := (hp240 28 (by decide) (by decide)).trans f188
  refine r_get kc2 X h 28 13 (by decide) rfl f241 (by decide) kw_32 rfl dX2_become_150 ?_
  refine lv_aload_n hx hb dX2_become_153 rfl (lv_at hl 1 rfl) ?_
  have f242 : w239 1 = .inr (1, [.int 0, .int 0, .int 0, .int 0, .int 0, .ref (ad 2), .ref (ad 3), .ref (ad 4), .ref (ad 5), .ref (ad 6), .ref (ad 7), .ref (ad 8), .ref (ad 10), .ref (ad 12)]) := (hp240 1 (by decide) (by decide)).trans f189
  refine r_get kc2 X h 1 13 (by decide) rfl f242 (by decide) kw_32 rfl dX2_become_154 ?_
  have f243 : w1 39 = .inr (2, [.ref (ad 40), .int 0]) := by rw [e2, va_up_ne _ _ (by decide)]; exact pf39
  have f244 : w5 39 = .inr (2, [.ref (ad 40), .int 0]) := by rw [e6, va_up_ne _ _ (by decide)]; exact f243
  have f245 : w9 39 = .inr (2, [.ref (ad 40), .int 0]) := by rw [e10, va_up_ne _ _ (by decide)]; exact f244
  have f246 : w13 39 = .inr (2, [.ref (ad 40), .int 0]) := by rw [e14, va_up_ne _ _ (by decide)]; exact f245
  have f247 : w17 39 = .inr (2, [.ref (ad 40), .int 0]) := by rw [e18, va_up_ne _ _ (by decide)]; exact f246
  have f248 : w31 39 = .inr (2, [.ref (ad 40), .int 0]) := by rw [e32, va_up_ne _ _ (by decide)]; exact f247
  have f249 : w48 39 = .inr (2, [.ref (ad 40), .int 0]) := by rw [e49, va_up_ne _ _ (by decide)]; exact f248
  have f250 : w67 39 = .inr (2, [.ref (ad 40), .int 0]) := by rw [e68, va_up_ne _ _ (by decide)]; exact f249
  have f251 : w88 39 = .inr (2, [.ref (ad 40), .int 0]) := by rw [e89, va_up_ne _ _ (by decide)]; exact f250
  have f252 : w111 39 = .inr (2, [.ref (ad 40), .int 0]) := by rw [e112, va_up_ne _ _ (by decide)]; exact f251
  have f253 : w136 39 = .inr (2, [.ref (ad 40), .int 0]) := by rw [e137, va_up_ne _ _ (by decide)]; exact f252
  have f254 : w186 39 = .inr (2, [.ref (ad 40), .int 0]) := (hp187 39 (by decide) (by decide)).trans f253
  have f255 : w239 39 = .inr (2, [.ref (ad 40), .int 0]) := (hp240 39 (by decide) (by decide)).trans f254
  have f256 : w1 40 = .inl (cI, 88, .inl (fun _ => 0)) := by rw [e2, va_up_ne _ _ (by decide)]; exact pf40
  have f257 : w5 40 = .inl (cI, 88, .inl (fun _ => 0)) := by rw [e6, va_up_ne _ _ (by decide)]; exact f256
  have f258 : w9 40 = .inl (cI, 88, .inl (fun _ => 0)) := by rw [e10, va_up_ne _ _ (by decide)]; exact f257
  have f259 : w13 40 = .inl (cI, 88, .inl (fun _ => 0)) := by rw [e14, va_up_ne _ _ (by decide)]; exact f258
  have f260 : w17 40 = .inl (cI, 88, .inl (fun _ => 0)) := by rw [e18, va_up_ne _ _ (by decide)]; exact f259
  have f261 : w31 40 = .inl (cI, 88, .inl (fun _ => 0)) := by rw [e32, va_up_ne _ _ (by decide)]; exact f260
  have f262 : w48 40 = .inl (cI, 88, .inl (fun _ => 0)) := by rw [e49, va_up_ne _ _ (by decide)]; exact f261
  have f263 : w67 40 = .inl (cI, 88, .inl (fun _ => 0)) := by rw [e68, va_up_ne _ _ (by decide)]; exact f262
  have f264 : w88 40 = .inl (cI, 88, .inl (fun _ => 0)) := by rw [e89, va_up_ne _ _ (by decide)]; exact f263
  have f265 : w111 40 = .inl (cI, 88, .inl (fun _ => 0)) := by rw [e112, va_up_ne _ _ (by decide)]; exact f264
  have f266 : w136 40 = .inl (cI, 88, .inl (fun _ => 0)) := by rw [e137, va_up_ne _ _ (by decide)]; exact f265
  have f267 : w186 40 = .inl (cI, 88, .inl (fun _ => 0)) := (hp187 40 (by decide) (by decide)).trans f266
  have f268 : w239 40 = .inl (cI, 88, .inl (fun _ => 0)) := (hp240 40 (by decide) (by decide)).trans f267
  have f269 : w1 12 = .inr (2, [.ref (ad 13), .int 0]) := by rw [e2, va_up_ne _ _ (by decide)]; exact pf12
  have f270 : w5 12 = .inr (2, [.ref (ad 13), .int 0]) := by rw [e6, va_up_ne _ _ (by decide)]; exact f269
  have f271 : w9 12 = .inr (2, [.ref (ad 13), .int 0]) := by rw [e10, va_up_ne _ _ (by decide)]; exact f270
  have f272 : w13 12 = .inr (2, [.ref (ad 13), .int 0]) := by rw [e14, va_up_ne _ _ (by decide)]; exact f271
  have f273 : w17 12 = .inr (2, [.ref (ad 13), .int 0]) := by rw [e18, va_up_ne _ _ (by decide)]; exact f272
  have f274 : w31 12 = .inr (2, [.ref (ad 13), .int 0]) := by rw [e32, va_up_ne _ _ (by decide)]; exact f273
  have f275 : w48 12 = .inr (2, [.ref (ad 13), .int 0]) := by rw [e49, va_up_ne _ _ (by decide)]; exact f274
  have f276 : w67 12 = .inr (2, [.ref (ad 13), .int 0]) := by rw [e68, va_up_ne _ _ (by decide)]; exact f275
  have f277 : w88 12 = .inr (2, [.ref (ad 13), .int 0]) := by rw [e89, va_up_ne _ _ (by decide)]; exact f276
  have f278 : w111 12 = .inr (2, [.ref (ad 13), .int 0]) := by rw [e112, va_up_ne _ _ (by decide)]; exact f277
  have f279 : w136 12 = .inr (2, [.ref (ad 13), .int 0]) := by rw [e137, va_up_ne _ _ (by decide)]; exact f278
  have f280 : w186 12 = .inr (2, [.ref (ad 13), .int 0]) := (hp187 12 (by decide) (by decide)).trans f279
  have f281 : w239 12 = .inr (2, [.ref (ad 13), .int 0]) := (hp240 12 (by decide) (by decide)).trans f280
  have f282 : w1 13 = .inl (cI, 88, .inl (fun _ => 0)) := by rw [e2, va_up_ne _ _ (by decide)]; exact pf13
  have f283 : w5 13 = .inl (cI, 88, .inl (fun _ => 0)) := by rw [e6, va_up_ne _ _ (by decide)]; exact f282
  have f284 : w9 13 = .inl (cI, 88, .inl (fun _ => 0)) := by rw [e10, va_up_ne _ _ (by decide)]; exact f283
  have f285 : w13 13 = .inl (cI, 88, .inl (fun _ => 0)) := by rw [e14, va_up_ne _ _ (by decide)]; exact f284
  have f286 : w17 13 = .inl (cI, 88, .inl (fun _ => 0)) := by rw [e18, va_up_ne _ _ (by decide)]; exact f285
  have f287 : w31 13 = .inl (cI, 88, .inl (fun _ => 0)) := by rw [e32, va_up_ne _ _ (by decide)]; exact f286
  have f288 : w48 13 = .inl (cI, 88, .inl (fun _ => 0)) := by rw [e49, va_up_ne _ _ (by decide)]; exact f287
  have f289 : w67 13 = .inl (cI, 88, .inl (fun _ => 0)) := by rw [e68, va_up_ne _ _ (by decide)]; exact f288
  have f290 : w88 13 = .inl (cI, 88, .inl (fun _ => 0)) := by rw [e89, va_up_ne _ _ (by decide)]; exact f289
  have f291 : w111 13 = .inl (cI, 88, .inl (fun _ => 0)) := by rw [e112, va_up_ne _ _ (by decide)]; exact f290
  have f292 : w136 13 = .inl (cI, 88, .inl (fun _ => 0)) := by rw [e137, va_up_ne _ _ (by decide)]; exact f291
  have f293 : w186 13 = .inl (cI, 88, .inl (fun _ => 0)) := (hp187 13 (by decide) (by decide)).trans f292
  have f294 : w239 13 = .inl (cI, 88, .inl (fun _ => 0)) := (hp240 13 (by decide) (by decide)).trans f293
  refine q_Vv (na := 1) (As := [.ref (ad 12)]) (rest := []) X hD hN h rfl (c_P_become l G cI cB cZ cO ad w239 39 12 _ _ _ _ (by omega) (by omega) (by omega) f255 f268 f281 f294) ⟨kw_166, kw_167, kw_168, kw_36, kw_169⟩ rfl ⟨by decide, by decide, by decide⟩ ⟨Nat.le_of_ble_eq_true rfl, Nat.le_of_ble_eq_true rfl⟩ ⟨Nat.zero_le _, Nat.zero_le _⟩ (by decide) f255 rfl rfl hl.1 rfl (Nat.le_of_ble_eq_true rfl) dX2_become_157 (fun w296 H locs hp297 h => ?_)
  have f298 : w296 28 = .inr (1, [.int 0, .int 0, .int 0, .int 0, .int 0, .ref (ad 29), .ref (ad 30), .ref (ad 31), .ref (ad 32), .ref (ad 33), .ref (ad 34), .ref (ad 35), .ref (ad 37), .ref (ad 39)]) := (hp297 28 (by decide) (by decide)).trans f241
  exact e_v X h hr hlk dX2_become_160 ⟨f298, fun k h1 => (hp297 k (by omega) (by omega)).trans ((hp240 k (by omega) (by omega)).trans ((hp187 k (by omega) (by omega)).trans (((congrFun e137 k).trans (va_up_ne _ _ (by omega))).trans (((congrFun e112 k).trans (va_up_ne _ _ (by omega))).trans (((congrFun e89 k).trans (va_up_ne _ _ (by omega))).trans (((congrFun e68 k).trans (va_up_ne _ _ (by omega))).trans (((congrFun e49 k).trans (va_up_ne _ _ (by omega))).trans (((congrFun e32 k).trans (va_up_ne _ _ (by omega))).trans (((congrFun e18 k).trans (va_up_ne _ _ (by omega))).trans (((congrFun e14 k).trans (va_up_ne _ _ (by omega))).trans (((congrFun e10 k).trans (va_up_ne _ _ (by omega))).trans (((congrFun e6 k).trans (va_up_ne _ _ (by omega))).trans ((congrFun e2 k).trans (va_up_ne _ _ (by omega)))))))))))))))⟩

set_option maxHeartbeats 4000000 in
set_option maxRecDepth 100000 in
theorem c_become41 (l : Launch) (G : va_G) (cI cB cZ cO : ClassId) (ad : Nat → Nat) (w : Nat → va_E)  (pf1 : w 1 = .inr (1, [.int 0, .int 0, .int 0, .int 0, .int 0, .ref (ad 2), .ref (ad 3), .ref (ad 4), .ref (ad 5), .ref (ad 6), .ref (ad 7), .ref (ad 8), .ref (ad 10), .ref (ad 12)])) (pf2 : w 2 = .inl (cI, 7, .inl (fun _ => 0))) (pf3 : w 3 = .inl (cI, 7, .inl (fun _ => 0))) (pf4 : w 4 = .inl (cI, 7, .inl (fun _ => 0))) (pf5 : w 5 = .inl (cI, 4, .inl (fun _ => 0))) (pf6 : w 6 = .inl (cI, 4, .inl (fun _ => 0))) (pf7 : w 7 = .inl (cI, 4, .inl (fun _ => 0))) (pf8 : w 8 = .inr (4, [.ref (ad 9), .int 0])) (pf9 : w 9 = .inl (cI, 24, .inl (fun _ => 0))) (pf10 : w 10 = .inr (4, [.ref (ad 11), .int 0])) (pf11 : w 11 = .inl (cI, 24, .inl (fun _ => 0))) (pf12 : w 12 = .inr (2, [.ref (ad 13), .int 0])) (pf13 : w 13 = .inl (cI, 88, .inl (fun _ => 0))) (pf41 : w 41 = .inr (1, [.int 0, .int 0, .int 0, .int 0, .int 0, .ref (ad 42), .ref (ad 43), .ref (ad 44), .ref (ad 45), .ref (ad 46), .ref (ad 47), .ref (ad 48), .ref (ad 50), .ref (ad 52)])) (pf42 : w 42 = .inl (cI, 7, .inl (fun _ => 0))) (pf43 : w 43 = .inl (cI, 7, .inl (fun _ => 0))) (pf44 : w 44 = .inl (cI, 7, .inl (fun _ => 0))) (pf45 : w 45 = .inl (cI, 4, .inl (fun _ => 0))) (pf46 : w 46 = .inl (cI, 4, .inl (fun _ => 0))) (pf47 : w 47 = .inl (cI, 4, .inl (fun _ => 0))) (pf48 : w 48 = .inr (4, [.ref (ad 49), .int 0])) (pf49 : w 49 = .inl (cI, 24, .inl (fun _ => 0))) (pf50 : w 50 = .inr (4, [.ref (ad 51), .int 0])) (pf51 : w 51 = .inl (cI, 24, .inl (fun _ => 0))) (pf52 : w 52 = .inr (2, [.ref (ad 53), .int 0])) (pf53 : w 53 = .inl (cI, 88, .inl (fun _ => 0))) : MV l G (tyq cI cB cZ cO) yX2_become cX2_become 2 2 61 74 ad w [.ref (ad 41), .ref (ad 1)] (fun w1 => w1 41 = .inr (1, [.int 0, .int 0, .int 0, .int 0, .int 0, .ref (ad 42), .ref (ad 43), .ref (ad 44), .ref (ad 45), .ref (ad 46), .ref (ad 47), .ref (ad 48), .ref (ad 50), .ref (ad 52)]) ∧ ∀ k, k < 41 ∨ 54 ≤ k → w1 k = w k) := by
  refine mk_v (own := "NoonShade$Isle") rfl (by decide) (Nat.le_of_ble_eq_true rfl) ?_
  intro p e s m below meth c ls X hD hN hr hlk h hl
  have hx := X.1.1
  have hb := X.1.2.1
  have hown := X.1.2.2.2.1
  have hts := X.1.2.2.2.2
  have hl : lv_has ls 2 [(0, .ref (ad 41)), (1, .ref (ad 1))] := hl
  refine lv_aload_n hx hb dX2_become_0 rfl (lv_at hl 0 rfl) ?_
  refine lv_aload_n hx hb dX2_become_1 rfl (lv_at hl 1 rfl) ?_
  refine r_get kc2 X h 1 0 (by decide) rfl pf1 (by decide) kw_22 rfl dX2_become_2 ?_
  refine r_put kc2 X hD h 41 0 (by decide) rfl pf41 (by decide) kw_22 rfl rfl rfl (Nat.le_of_ble_eq_true rfl) dX2_become_5 (fun H locs w1 e2 h => ?_)
  have f3 : w1 41 = .inr (1, [.int 0, .int 0, .int 0, .int 0, .int 0, .ref (ad 42), .ref (ad 43), .ref (ad 44), .ref (ad 45), .ref (ad 46), .ref (ad 47), .ref (ad 48), .ref (ad 50), .ref (ad 52)]) := (congrFun e2 _).trans (va_up_self _ _ _)
  refine lv_aload_n hx hb dX2_become_8 rfl (lv_at hl 0 rfl) ?_
  refine lv_aload_n hx hb dX2_become_9 rfl (lv_at hl 1 rfl) ?_
  have f4 : w1 1 = .inr (1, [.int 0, .int 0, .int 0, .int 0, .int 0, .ref (ad 2), .ref (ad 3), .ref (ad 4), .ref (ad 5), .ref (ad 6), .ref (ad 7), .ref (ad 8), .ref (ad 10), .ref (ad 12)]) := by rw [e2, va_up_ne _ _ (by decide)]; exact pf1
  refine r_get kc2 X h 1 1 (by decide) rfl f4 (by decide) kw_23 rfl dX2_become_10 ?_
  refine r_put kc2 X hD h 41 1 (by decide) rfl f3 (by decide) kw_23 rfl rfl rfl (Nat.le_of_ble_eq_true rfl) dX2_become_13 (fun H locs w5 e6 h => ?_)
  have f7 : w5 41 = .inr (1, [.int 0, .int 0, .int 0, .int 0, .int 0, .ref (ad 42), .ref (ad 43), .ref (ad 44), .ref (ad 45), .ref (ad 46), .ref (ad 47), .ref (ad 48), .ref (ad 50), .ref (ad 52)]) := (congrFun e6 _).trans (va_up_self _ _ _)
  refine lv_aload_n hx hb dX2_become_16 rfl (lv_at hl 0 rfl) ?_
  refine lv_aload_n hx hb dX2_become_17 rfl (lv_at hl 1 rfl) ?_
  have f8 : w5 1 = .inr (1, [.int 0, .int 0, .int 0, .int 0, .int 0, .ref (ad 2), .ref (ad 3), .ref (ad 4), .ref (ad 5), .ref (ad 6), .ref (ad 7), .ref (ad 8), .ref (ad 10), .ref (ad 12)]) := by rw [e6, va_up_ne _ _ (by decide)]; exact f4
  refine r_get kc2 X h 1 2 (by decide) rfl f8 (by decide) kw_24 rfl dX2_become_18 ?_
  refine r_put kc2 X hD h 41 2 (by decide) rfl f7 (by decide) kw_24 rfl rfl rfl (Nat.le_of_ble_eq_true rfl) dX2_become_21 (fun H locs w9 e10 h => ?_)
  have f11 : w9 41 = .inr (1, [.int 0, .int 0, .int 0, .int 0, .int 0, .ref (ad 42), .ref (ad 43), .ref (ad 44), .ref (ad 45), .ref (ad 46), .ref (ad 47), .ref (ad 48), .ref (ad 50), .ref (ad 52)]) := (congrFun e10 _).trans (va_up_self _ _ _)
  refine lv_aload_n hx hb dX2_become_24 rfl (lv_at hl 0 rfl) ?_
  refine lv_aload_n hx hb dX2_become_25 rfl (lv_at hl 1 rfl) ?_
  have f12 : w9 1 = .inr (1, [.int 0, .int 0, .int 0, .int 0, .int 0, .ref (ad 2), .ref (ad 3), .ref (ad 4), .ref (ad 5), .ref (ad 6), .ref (ad 7), .ref (ad 8), .ref (ad 10), .ref (ad 12)]) := by rw [e10, va_up_ne _ _ (by decide)]; exact f8
  refine r_get kc2 X h 1 3 (by decide) rfl f12 (by decide) kw_0 rfl dX2_become_26 ?_
  refine r_put kc2 X hD h 41 3 (by decide) rfl f11 (by decide) kw_0 rfl rfl rfl (Nat.le_of_ble_eq_true rfl) dX2_become_29 (fun H locs w13 e14 h => ?_)
  have f15 : w13 41 = .inr (1, [.int 0, .int 0, .int 0, .int 0, .int 0, .ref (ad 42), .ref (ad 43), .ref (ad 44), .ref (ad 45), .ref (ad 46), .ref (ad 47), .ref (ad 48), .ref (ad 50), .ref (ad 52)]) := (congrFun e14 _).trans (va_up_self _ _ _)
  refine lv_aload_n hx hb dX2_become_32 rfl (lv_at hl 0 rfl) ?_
  refine lv_aload_n hx hb dX2_become_33 rfl (lv_at hl 1 rfl) ?_
  have f16 : w13 1 = .inr (1, [.int 0, .int 0, .int 0, .int 0, .int 0, .ref (ad 2), .ref (ad 3), .ref (ad 4), .ref (ad 5), .ref (ad 6), .ref (ad 7), .ref (ad 8), .ref (ad 10), .ref (ad 12)]) := by rw [e14, va_up_ne _ _ (by decide)]; exact f12
  refine r_get kc2 X h 1 4 (by decide) rfl f16 (by decide) kw_1 rfl dX2_become_34 ?_
  refine r_put kc2 X hD h 41 4 (by decide) rfl f15 (by decide) kw_1 rfl rfl rfl (Nat.le_of_ble_eq_true rfl) dX2_become_37 (fun H locs w17 e18 h => ?_)
  have f19 : w17 41 = .inr (1, [.int 0, .int 0, .int 0, .int 0, .int 0, .ref (ad 42), .ref (ad 43), .ref (ad 44), .ref (ad 45), .ref (ad 46), .ref (ad 47), .ref (ad 48), .ref (ad 50), .ref (ad 52)]) := (congrFun e18 _).trans (va_up_self _ _ _)
  refine lv_aload_n hx hb dX2_become_40 rfl (lv_at hl 1 rfl) ?_
  have f20 : w17 1 = .inr (1, [.int 0, .int 0, .int 0, .int 0, .int 0, .ref (ad 2), .ref (ad 3), .ref (ad 4), .ref (ad 5), .ref (ad 6), .ref (ad 7), .ref (ad 8), .ref (ad 10), .ref (ad 12)]) := by rw [e18, va_up_ne _ _ (by decide)]; exact f16
  refine r_get kc2 X h 1 5 (by decide) rfl f20 (by decide) kw_46 rfl dX2_become_41 ?_
  refine lv_iconst (v := 0) hx hb dX2_become_44 (by decide) ?_
  refine lv_aload_n hx hb dX2_become_45 rfl (lv_at hl 0 rfl) ?_
  refine r_get kc2 X h 41 5 (by decide) rfl f19 (by decide) kw_46 rfl dX2_become_46 ?_
  refine lv_iconst (v := 0) hx hb dX2_become_49 (by decide) ?_
  refine lv_bipush (v := 7) hx hb dX2_become_50 (by decide) ?_
  have f21 : w1 2 = .inl (cI, 7, .inl (fun _ => 0)) := by rw [e2, va_up_ne _ _ (by decide)]; exact pf2
  have f22 : w5 2 = .inl (cI, 7, .inl (fun _ => 0)) := by rw [e6, va_up_ne _ _ (by decide)]; exact f21
  have f23 : w9 2 = .inl (cI, 7, .inl (fun _ => 0)) := by rw [e10, va_up_ne _ _ (by decide)]; exact f22
  have f24 : w13 2 = .inl (cI, 7, .inl (fun _ => 0)) := by rw [e14, va_up_ne _ _ (by decide)]; exact f23
  have f25 : w17 2 = .inl (cI, 7, .inl (fun _ => 0)) := by rw [e18, va_up_ne _ _ (by decide)]; exact f24
  have f26 : w1 42 = .inl (cI, 7, .inl (fun _ => 0)) := by rw [e2, va_up_ne _ _ (by decide)]; exact pf42
  have f27 : w5 42 = .inl (cI, 7, .inl (fun _ => 0)) := by rw [e6, va_up_ne _ _ (by decide)]; exact f26
  have f28 : w9 42 = .inl (cI, 7, .inl (fun _ => 0)) := by rw [e10, va_up_ne _ _ (by decide)]; exact f27
  have f29 : w13 42 = .inl (cI, 7, .inl (fun _ => 0)) := by rw [e14, va_up_ne _ _ (by decide)]; exact f28
  have f30 : w17 42 = .inl (cI, 7, .inl (fun _ => 0)) := by rw [e18, va_up_ne _ _ (by decide)]; exact f29
  refine r_copy (f1 := fun _ => 0) X hD h hl.1 kw_161 kw_144 kw_145 kw_146 2 42 0 (by decide) (by decide) rfl rfl f25 f30 rfl (by decide) (by decide) (by decide) (by decide) (by decide) (cpy0 _ _ _) ⟨Nat.le_of_ble_eq_true rfl, by decide⟩ dX2_become_52 (fun H locs w31 e32 h => ?_)
  have f33 : w31 42 = .inl (cI, 7, .inl (fun _ => 0)) := (congrFun e32 _).trans (va_up_self _ _ _)
  refine lv_aload_n hx hb dX2_become_55 rfl (lv_at hl 1 rfl) ?_
  have f34 : w31 1 = .inr (1, [.int 0, .int 0, .int 0, .int 0, .int 0, .ref (ad 2), .ref (ad 3), .ref (ad 4), .ref (ad 5), .ref (ad 6), .ref (ad 7), .ref (ad 8), .ref (ad 10), .ref (ad 12)]) := by rw [e32, va_up_ne _ _ (by decide)]; exact f20
  refine r_get kc2 X h 1 6 (by decide) rfl f34 (by decide) kw_47 rfl dX2_become_56 ?_
  refine lv_iconst (v := 0) hx hb dX2_become_59 (by decide) ?_
  refine lv_aload_n hx hb dX2_become_60 rfl (lv_at hl 0 rfl) ?_
  have f35 : w31 41 = .inr (1, [.int 0, .int 0, .int 0, .int 0, .int 0, .ref (ad 42), .ref (ad 43), .ref (ad 44), .ref (ad 45), .ref (ad 46), .ref (ad 47), .ref (ad 48), .ref (ad 50), .ref (ad 52)]) := by rw [e32, va_up_ne _ _ (by decide)]; exact f19
  refine r_get kc2 X h 41 6 (by decide) rfl f35 (by decide) kw_47 rfl dX2_become_61 ?_
  refine lv_iconst (v := 0) hx hb dX2_become_64 (by decide) ?_
  refine lv_bipush (v := 7) hx hb dX2_become_65 (by decide) ?_
  have f36 : w1 3 = .inl (cI, 7, .inl (fun _ => 0)) := by rw [e2, va_up_ne _ _ (by decide)]; exact pf3
  have f37 : w5 3 = .inl (cI, 7, .inl (fun _ => 0)) := by rw [e6, va_up_ne _ _ (by decide)]; exact f36
  have f38 : w9 3 = .inl (cI, 7, .inl (fun _ => 0)) := by rw [e10, va_up_ne _ _ (by decide)]; exact f37
  have f39 : w13 3 = .inl (cI, 7, .inl (fun _ => 0)) := by rw [e14, va_up_ne _ _ (by decide)]; exact f38
  have f40 : w17 3 = .inl (cI, 7, .inl (fun _ => 0)) := by rw [e18, va_up_ne _ _ (by decide)]; exact f39
  have f41 : w31 3 = .inl (cI, 7, .inl (fun _ => 0)) := by rw [e32, va_up_ne _ _ (by decide)]; exact f40
  have f42 : w1 43 = .inl (cI, 7, .inl (fun _ => 0)) := by rw [e2, va_up_ne _ _ (by decide)]; exact pf43
  have f43 : w5 43 = .inl (cI, 7, .inl (fun _ => 0)) := by rw [e6, va_up_ne _ _ (by decide)]; exact f42
  have f44 : w9 43 = .inl (cI, 7, .inl (fun _ => 0)) := by rw [e10, va_up_ne _ _ (by decide)]; exact f43
  have f45 : w13 43 = .inl (cI, 7, .inl (fun _ => 0)) := by rw [e14, va_up_ne _ _ (by decide)]; exact f44
  have f46 : w17 43 = .inl (cI, 7, .inl (fun _ => 0)) := by rw [e18, va_up_ne _ _ (by decide)]; exact f45
  have f47 : w31 43 = .inl (cI, 7, .inl (fun _ => 0)) := by rw [e32, va_up_ne _ _ (by decide)]; exact f46
  refine r_copy (f1 := fun _ => 0) X hD h hl.1 kw_161 kw_144 kw_145 kw_146 3 43 0 (by decide) (by decide) rfl rfl f41 f47 rfl (by decide) (by decide) (by decide) (by decide) (by decide) (cpy0 _ _ _) ⟨Nat.le_of_ble_eq_true rfl, by decide⟩ dX2_become_67 (fun H locs w48 e49 h => ?_)
  have f50 : w48 43 = .inl (cI, 7, .inl (fun _ => 0)) := (congrFun e49 _).trans (va_up_self _ _ _)
  refine lv_aload_n hx hb dX2_become_70 rfl (lv_at hl 1 rfl) ?_
  have f51 : w48 1 = .inr (1, [.int 0, .int 0, .int 0, .int 0, .int 0, .ref (ad 2), .ref (ad 3), .ref (ad 4), .ref (ad 5), .ref (ad 6), .ref (ad 7), .ref (ad 8), .ref (ad 10), .ref (ad 12)]) := by rw [e49, va_up_ne _ _ (by decide)]; exact f34
  refine r_get kc2 X h 1 7 (by decide) rfl f51 (by decide) kw_48 rfl dX2_become_71 ?_
  refine lv_iconst (v := 0) hx hb dX2_become_74 (by decide) ?_
  refine lv_aload_n hx hb dX2_become_75 rfl (lv_at hl 0 rfl) ?_
  have f52 : w48 41 = .inr (1, [.int 0, .int 0, .int 0, .int 0, .int 0, .ref (ad 42), .ref (ad 43), .ref (ad 44), .ref (ad 45), .ref (ad 46), .ref (ad 47), .ref (ad 48), .ref (ad 50), .ref (ad 52)]) := by rw [e49, va_up_ne _ _ (by decide)]; exact f35
  refine r_get kc2 X h 41 7 (by decide) rfl f52 (by decide) kw_48 rfl dX2_become_76 ?_
  refine lv_iconst (v := 0) hx hb dX2_become_79 (by decide) ?_
  refine lv_bipush (v := 7) hx hb dX2_become_80 (by decide) ?_
  have f53 : w1 4 = .inl (cI, 7, .inl (fun _ => 0)) := by rw [e2, va_up_ne _ _ (by decide)]; exact pf4
  have f54 : w5 4 = .inl (cI, 7, .inl (fun _ => 0)) := by rw [e6, va_up_ne _ _ (by decide)]; exact f53
  have f55 : w9 4 = .inl (cI, 7, .inl (fun _ => 0)) := by rw [e10, va_up_ne _ _ (by decide)]; exact f54
  have f56 : w13 4 = .inl (cI, 7, .inl (fun _ => 0)) := by rw [e14, va_up_ne _ _ (by decide)]; exact f55
  have f57 : w17 4 = .inl (cI, 7, .inl (fun _ => 0)) := by rw [e18, va_up_ne _ _ (by decide)]; exact f56
  have f58 : w31 4 = .inl (cI, 7, .inl (fun _ => 0)) := by rw [e32, va_up_ne _ _ (by decide)]; exact f57
  have f59 : w48 4 = .inl (cI, 7, .inl (fun _ => 0)) := by rw [e49, va_up_ne _ _ (by decide)]; exact f58
  have f60 : w1 44 = .inl (cI, 7, .inl (fun _ => 0)) := by rw [e2, va_up_ne _ _ (by decide)]; exact pf44
  have f61 : w5 44 = .inl (cI, 7, .inl (fun _ => 0)) := by rw [e6, va_up_ne _ _ (by decide)]; exact f60
  have f62 : w9 44 = .inl (cI, 7, .inl (fun _ => 0)) := by rw [e10, va_up_ne _ _ (by decide)]; exact f61
  have f63 : w13 44 = .inl (cI, 7, .inl (fun _ => 0)) := by rw [e14, va_up_ne _ _ (by decide)]; exact f62
  have f64 : w17 44 = .inl (cI, 7, .inl (fun _ => 0)) := by rw [e18, va_up_ne _ _ (by decide)]; exact f63
  have f65 : w31 44 = .inl (cI, 7, .inl (fun _ => 0)) := by rw [e32, va_up_ne _ _ (by decide)]; exact f64
  have f66 : w48 44 = .inl (cI, 7, .inl (fun _ => 0)) := by rw [e49, va_up_ne _ _ (by decide)]; exact f65
  refine r_copy (f1 := fun _ => 0) X hD h hl.1 kw_161 kw_144 kw_145 kw_146 4 44 0 (by decide) (by decide) rfl rfl f59 f66 rfl (by decide) (by decide) (by decide) (by decide) (by decide) (cpy0 _ _ _) ⟨Nat.le_of_ble_eq_true rfl, by decide⟩ dX2_become_82 (fun H locs w67 e68 h => ?_)
  have f69 : w67 44 = .inl (cI, 7, .inl (fun _ => 0)) := (congrFun e68 _).trans (va_up_self _ _ _)
  refine lv_aload_n hx hb dX2_become_85 rfl (lv_at hl 1 rfl) ?_
  have f70 : w67 1 = .inr (1, [.int 0, .int 0, .int 0, .int 0, .int 0, .ref (ad 2), .ref (ad 3), .ref (ad 4), .ref (ad 5), .ref (ad 6), .ref (ad 7), .ref (ad 8), .ref (ad 10), .ref (ad 12)]) := by rw [e68, va_up_ne _ _ (by decide)]; exact f51
  refine r_get kc2 X h 1 8 (by decide) rfl f70 (by decide) kw_49 rfl dX2_become_86 ?_
  refine lv_iconst (v := 0) hx hb dX2_become_89 (by decide) ?_
  refine lv_aload_n hx hb dX2_become_90 rfl (lv_at hl 0 rfl) ?_
  have f71 : w67 41 = .inr (1, [.int 0, .int 0, .int 0, .int 0, .int 0, .ref (ad 42), .ref (ad 43), .ref (ad 44), .ref (ad 45), .ref (ad 46), .ref (ad 47), .ref (ad 48), .ref (ad 50), .ref (ad 52)]) := by rw [e68, va_up_ne _ _ (by decide)]; exact f52
  refine r_get kc2 X h 41 8 (by decide) rfl f71 (by decide) kw_49 rfl dX2_become_91 ?_
  refine lv_iconst (v := 0) hx hb dX2_become_94 (by decide) ?_
  refine lv_iconst (v := 4) hx hb dX2_become_95 (by decide) ?_
  have f72 : w1 5 = .inl (cI, 4, .inl (fun _ => 0)) := by rw [e2, va_up_ne _ _ (by decide)]; exact pf5
  have f73 : w5 5 = .inl (cI, 4, .inl (fun _ => 0)) := by rw [e6, va_up_ne _ _ (by decide)]; exact f72
  have f74 : w9 5 = .inl (cI, 4, .inl (fun _ => 0)) := by rw [e10, va_up_ne _ _ (by decide)]; exact f73
  have f75 : w13 5 = .inl (cI, 4, .inl (fun _ => 0)) := by rw [e14, va_up_ne _ _ (by decide)]; exact f74
  have f76 : w17 5 = .inl (cI, 4, .inl (fun _ => 0)) := by rw [e18, va_up_ne _ _ (by decide)]; exact f75
  have f77 : w31 5 = .inl (cI, 4, .inl (fun _ => 0)) := by rw [e32, va_up_ne _ _ (by decide)]; exact f76
  have f78 : w48 5 = .inl (cI, 4, .inl (fun _ => 0)) := by rw [e49, va_up_ne _ _ (by decide)]; exact f77
  have f79 : w67 5 = .inl (cI, 4, .inl (fun _ => 0)) := by rw [e68, va_up_ne _ _ (by decide)]; exact f78
  have f80 : w1 45 = .inl (cI, 4, .inl (fun _ => 0)) := by rw [e2, va_up_ne _ _ (by decide)]; exact pf45
  have f81 : w5 45 = .inl (cI, 4, .inl (fun _ => 0)) := by rw [e6, va_up_ne _ _ (by decide)]; exact f80
  have f82 : w9 45 = .inl (cI, 4, .inl (fun _ => 0)) := by rw [e10, va_up_ne _ _ (by decide)]; exact f81
  have f83 : w13 45 = .inl (cI, 4, .inl (fun _ => 0)) := by rw [e14, va_up_ne _ _ (by decide)]; exact f82
  have f84 : w17 45 = .inl (cI, 4, .inl (fun _ => 0)) := by rw [e18, va_up_ne _ _ (by decide)]; exact f83
  have f85 : w31 45 = .inl (cI, 4, .inl (fun _ => 0)) := by rw [e32, va_up_ne _ _ (by decide)]; exact f84
  have f86 : w48 45 = .inl (cI, 4, .inl (fun _ => 0)) := by rw [e49, va_up_ne _ _ (by decide)]; exact f85
  have f87 : w67 45 = .inl (cI, 4, .inl (fun _ => 0)) := by rw [e68, va_up_ne _ _ (by decide)]; exact f86
  refine r_copy (f1 := fun _ => 0) X hD h hl.1 kw_161 kw_144 kw_145 kw_146 5 45 0 (by decide) (by decide) rfl rfl f79 f87 rfl (by decide) (by decide) (by decide) (by decide) (by decide) (cpy0 _ _ _) ⟨Nat.le_of_ble_eq_true rfl, by decide⟩ dX2_become_96 (fun H locs w88 e89 h => ?_)
  have f90 : w88 45 = .inl (cI, 4, .inl (fun _ => 0)) := (congrFun e89 _).trans (va_up_self _ _ _)
  refine lv_aload_n hx hb dX2_become_99 rfl (lv_at hl 1 rfl) ?_
  have f91 : w88 1 = .inr (1, [.int 0, .int 0, .int 0, .int 0, .int 0, .ref (ad 2), .ref (ad 3), .ref (ad 4), .ref (ad 5), .ref (ad 6), .ref (ad 7), .ref (ad 8), .ref (ad 10), .ref (ad 12)]) := by rw [e89, va_up_ne _ _ (by decide)]; exact f70
  refine r_get kc2 X h 1 9 (by decide) rfl f91 (by decide) kw_50 rfl dX2_become_100 ?_
  refine lv_iconst (v := 0) hx hb dX2_become_103 (by decide) ?_
  refine lv_aload_n hx hb dX2_become_104 rfl (lv_at hl 0 rfl) ?_
  have f92 : w88 41 = .inr (1, [.int 0, .int 0, .int 0, .int 0, .int 0, .ref (ad 42), .ref (ad 43), .ref (ad 44), .ref (ad 45), .ref (ad 46), .ref (ad 47), .ref (ad 48), .ref (ad 50), .ref (ad 52)]) := by rw [e89, va_up_ne _ _ (by decide)]; exact f71
  refine r_get kc2 X h 41 9 (by decide) rfl f92 (by decide) kw_50 rfl dX2_become_105 ?_
  refine lv_iconst (v := 0) hx hb dX2_become_108 (by decide) ?_
  refine lv_iconst (v := 4) hx hb dX2_become_109 (by decide) ?_
  have f93 : w1 6 = .inl (cI, 4, .inl (fun _ => 0)) := by rw [e2, va_up_ne _ _ (by decide)]; exact pf6
  have f94 : w5 6 = .inl (cI, 4, .inl (fun _ => 0)) := by rw [e6, va_up_ne _ _ (by decide)]; exact f93
  have f95 : w9 6 = .inl (cI, 4, .inl (fun _ => 0)) := by rw [e10, va_up_ne _ _ (by decide)]; exact f94
  have f96 : w13 6 = .inl (cI, 4, .inl (fun _ => 0)) := by rw [e14, va_up_ne _ _ (by decide)]; exact f95
  have f97 : w17 6 = .inl (cI, 4, .inl (fun _ => 0)) := by rw [e18, va_up_ne _ _ (by decide)]; exact f96
  have f98 : w31 6 = .inl (cI, 4, .inl (fun _ => 0)) := by rw [e32, va_up_ne _ _ (by decide)]; exact f97
  have f99 : w48 6 = .inl (cI, 4, .inl (fun _ => 0)) := by rw [e49, va_up_ne _ _ (by decide)]; exact f98
  have f100 : w67 6 = .inl (cI, 4, .inl (fun _ => 0)) := by rw [e68, va_up_ne _ _ (by decide)]; exact f99
  have f101 : w88 6 = .inl (cI, 4, .inl (fun _ => 0)) := by rw [e89, va_up_ne _ _ (by decide)]; exact f100
  have f102 : w1 46 = .inl (cI, 4, .inl (fun _ => 0)) := by rw [e2, va_up_ne _ _ (by decide)]; exact pf46
  have f103 : w5 46 = .inl (cI, 4, .inl (fun _ => 0)) := by rw [e6, va_up_ne _ _ (by decide)]; exact f102
  have f104 : w9 46 = .inl (cI, 4, .inl (fun _ => 0)) := by rw [e10, va_up_ne _ _ (by decide)]; exact f103
  have f105 : w13 46 = .inl (cI, 4, .inl (fun _ => 0)) := by rw [e14, va_up_ne _ _ (by decide)]; exact f104
  have f106 : w17 46 = .inl (cI, 4, .inl (fun _ => 0)) := by rw [e18, va_up_ne _ _ (by decide)]; exact f105
  have f107 : w31 46 = .inl (cI, 4, .inl (fun _ => 0)) := by rw [e32, va_up_ne _ _ (by decide)]; exact f106
  have f108 : w48 46 = .inl (cI, 4, .inl (fun _ => 0)) := by rw [e49, va_up_ne _ _ (by decide)]; exact f107
  have f109 : w67 46 = .inl (cI, 4, .inl (fun _ => 0)) := by rw [e68, va_up_ne _ _ (by decide)]; exact f108
  have f110 : w88 46 = .inl (cI, 4, .inl (fun _ => 0)) := by rw [e89, va_up_ne _ _ (by decide)]; exact f109
  refine r_copy (f1 := fun _ => 0) X hD h hl.1 kw_161 kw_144 kw_145 kw_146 6 46 0 (by decide) (by decide) rfl rfl f101 f110 rfl (by decide) (by decide) (by decide) (by decide) (by decide) (cpy0 _ _ _) ⟨Nat.le_of_ble_eq_true rfl, by decide⟩ dX2_become_110 (fun H locs w111 e112 h => ?_)
  have f113 : w111 46 = .inl (cI, 4, .inl (fun _ => 0)) := (congrFun e112 _).trans (va_up_self _ _ _)
  refine lv_aload_n hx hb dX2_become_113 rfl (lv_at hl 1 rfl) ?_
  have f114 : w111 1 = .inr (1, [.int 0, .int 0, .int 0, .int 0, .int 0, .ref (ad 2), .ref (ad 3), .ref (ad 4), .ref (ad 5), .ref (ad 6), .ref (ad 7), .ref (ad 8), .ref (ad 10), .ref (ad 12)]) := by rw [e112, va_up_ne _ _ (by decide)]; exact f91
  refine r_get kc2 X h 1 10 (by decide) rfl f114 (by decide) kw_51 rfl dX2_become_114 ?_
  refine lv_iconst (v := 0) hx hb dX2_become_117 (by decide) ?_
  refine lv_aload_n hx hb dX2_become_118 rfl (lv_at hl 0 rfl) ?_
  have f115 : w111 41 = .inr (1, [.int 0, .int 0, .int 0, .int 0, .int 0, .ref (ad 42), .ref (ad 43), .ref (ad 44), .ref (ad 45), .ref (ad 46), .ref (ad 47), .ref (ad 48), .ref (ad 50), .ref (ad 52)]) := by rw [e112, va_up_ne _ _ (by decide)]; exact f92
  refine r_get kc2 X h 41 10 (by decide) rfl f115 (by decide) kw_51 rfl dX2_become_119 ?_
  refine lv_iconst (v := 0) hx hb dX2_become_122 (by decide) ?_
  refine lv_iconst (v := 4) hx hb dX2_become_123 (by decide) ?_
  have f116 : w1 7 = .inl (cI, 4, .inl (fun _ => 0)) := by rw [e2, va_up_ne _ _ (by decide)]; exact pf7
  have f117 : w5 7 = .inl (cI, 4, .inl (fun _ => 0)) := by rw [e6, va_up_ne _ _ (by decide)]; exact f116
  have f118 : w9 7 = .inl (cI, 4, .inl (fun _ => 0)) := by rw [e10, va_up_ne _ _ (by decide)]; exact f117
  have f119 : w13 7 = .inl (cI, 4, .inl (fun _ => 0)) := by rw [e14, va_up_ne _ _ (by decide)]; exact f118
  have f120 : w17 7 = .inl (cI, 4, .inl (fun _ => 0)) := by rw [e18, va_up_ne _ _ (by decide)]; exact f119
  have f121 : w31 7 = .inl (cI, 4, .inl (fun _ => 0)) := by rw [e32, va_up_ne _ _ (by decide)]; exact f120
  have f122 : w48 7 = .inl (cI, 4, .inl (fun _ => 0)) := by rw [e49, va_up_ne _ _ (by decide)]; exact f121
  have f123 : w67 7 = .inl (cI, 4, .inl (fun _ => 0)) := by rw [e68, va_up_ne _ _ (by decide)]; exact f122
  have f124 : w88 7 = .inl (cI, 4, .inl (fun _ => 0)) := by rw [e89, va_up_ne _ _ (by decide)]; exact f123
  have f125 : w111 7 = .inl (cI, 4, .inl (fun _ => 0)) := by rw [e112, va_up_ne _ _ (by decide)]; exact f124
  have f126 : w1 47 = .inl (cI, 4, .inl (fun _ => 0)) := by rw [e2, va_up_ne _ _ (by decide)]; exact pf47
  have f127 : w5 47 = .inl (cI, 4, .inl (fun _ => 0)) := by rw [e6, va_up_ne _ _ (by decide)]; exact f126
  have f128 : w9 47 = .inl (cI, 4, .inl (fun _ => 0)) := by rw [e10, va_up_ne _ _ (by decide)]; exact f127
  have f129 : w13 47 = .inl (cI, 4, .inl (fun _ => 0)) := by rw [e14, va_up_ne _ _ (by decide)]; exact f128
  have f130 : w17 47 = .inl (cI, 4, .inl (fun _ => 0)) := by rw [e18, va_up_ne _ _ (by decide)]; exact f129
  have f131 : w31 47 = .inl (cI, 4, .inl (fun _ => 0)) := by rw [e32, va_up_ne _ _ (by decide)]; exact f130
  have f132 : w48 47 = .inl (cI, 4, .inl (fun _ => 0)) := by rw [e49, va_up_ne _ _ (by decide)]; exact f131
  have f133 : w67 47 = .inl (cI, 4, .inl (fun _ => 0)) := by rw [e68, va_up_ne _ _ (by decide)]; exact f132
  have f134 : w88 47 = .inl (cI, 4, .inl (fun _ => 0)) := by rw [e89, va_up_ne _ _ (by decide)]; exact f133
  have f135 : w111 47 = .inl (cI, 4, .inl (fun _ => 0)) := by rw [e112, va_up_ne _ _ (by decide)]; exact f134
  refine r_copy (f1 := fun _ => 0) X hD h hl.1 kw_161 kw_144 kw_145 kw_146 7 47 0 (by decide) (by decide) rfl rfl f125 f135 rfl (by decide) (by decide) (by decide) (by decide) (by decide) (cpy0 _ _ _) ⟨Nat.le_of_ble_eq_true rfl, by decide⟩ dX2_become_124 (fun H locs w136 e137 h => ?_)
  have f138 : w136 47 = .inl (cI, 4, .inl (fun _ => 0)) := (congrFun e137 _).trans (va_up_self _ _ _)
  refine lv_aload_n hx hb dX2_become_127 rfl (lv_at hl 0 rfl) ?_
  have f139 : w136 41 = .inr (1, [.int 0, .int 0, .int 0, .int 0, .int 0, .ref (ad 42), .ref (ad 43), .ref (ad 44), .ref (ad 45), .ref (ad 46), .ref (ad 47), .ref (ad 48), .ref (ad 50), .ref (ad 52)]) := by rw [e137, va_up_ne _ _ (by decide)]; exact f115
  refine r_get kc2 X h 41 11 (by decide) rfl f139 (by decide) kw_25 rfl dX2_become_128 ?_
  refine lv_aload_n hx hb dX2_become_131 rfl (lv_at hl 1 rfl) ?_
  have f140 : w136 1 = .inr (1, [.int 0, .int 0, .int 0, .int 0, .int 0, .ref (ad 2), .ref (ad 3), .ref (ad 4), .ref (ad 5), .ref (ad 6), .ref (ad 7), .ref (ad 8), .ref (ad 10), .ref (ad 12)]) := by rw [e137, va_up_ne _ _ (by decide)]; exact f114
  refine r_get kc2 X h 1 11 (by decide) rfl f140 (by decide) kw_25 rfl dX2_become_132 ?_
  have f141 : w1 48 = .inr (4, [.ref (ad 49), .int 0]) := by rw [e2, va_up_ne _ _ (by decide)]; exact pf48
  have f142 : w5 48 = .inr (4, [.ref (ad 49), .int 0]) := by rw [e6, va_up_ne _ _ (by decide)]; exact f141
  have f143 : w9 48 = .inr (4, [.ref (ad 49), .int 0]) := by rw [e10, va_up_ne _ _ (by decide)]; exact f142
  have f144 : w13 48 = .inr (4, [.ref (ad 49), .int 0]) := by rw [e14, va_up_ne _ _ (by decide)]; exact f143
  have f145 : w17 48 = .inr (4, [.ref (ad 49), .int 0]) := by rw [e18, va_up_ne _ _ (by decide)]; exact f144
  have f146 : w31 48 = .inr (4, [.ref (ad 49), .int 0]) := by rw [e32, va_up_ne _ _ (by decide)]; exact f145
  have f147 : w48 48 = .inr (4, [.ref (ad 49), .int 0]) := by rw [e49, va_up_ne _ _ (by decide)]; exact f146
  have f148 : w67 48 = .inr (4, [.ref (ad 49), .int 0]) := by rw [e68, va_up_ne _ _ (by decide)]; exact f147
  have f149 : w88 48 = .inr (4, [.ref (ad 49), .int 0]) := by rw [e89, va_up_ne _ _ (by decide)]; exact f148
  have f150 : w111 48 = .inr (4, [.ref (ad 49), .int 0]) := by rw [e112, va_up_ne _ _ (by decide)]; exact f149
  have f151 : w136 48 = .inr (4, [.ref (ad 49), .int 0]) := by rw [e137, va_up_ne _ _ (by decide)]; exact f150
  have f152 : w1 49 = .inl (cI, 24, .inl (fun _ => 0)) := by rw [e2, va_up_ne _ _ (by decide)]; exact pf49
  have f153 : w5 49 = .inl (cI, 24, .inl (fun _ => 0)) := by rw [e6, va_up_ne _ _ (by decide)]; exact f152
  have f154 : w9 49 = .inl (cI, 24, .inl (fun _ => 0)) := by rw [e10, va_up_ne _ _ (by decide)]; exact f153
  have f155 : w13 49 = .inl (cI, 24, .inl (fun _ => 0)) := by rw [e14, va_up_ne _ _ (by decide)]; exact f154
  have f156 : w17 49 = .inl (cI, 24, .inl (fun _ => 0)) := by rw [e18, va_up_ne _ _ (by decide)]; exact f155
  have f157 : w31 49 = .inl (cI, 24, .inl (fun _ => 0)) := by rw [e32, va_up_ne _ _ (by decide)]; exact f156
  have f158 : w48 49 = .inl (cI, 24, .inl (fun _ => 0)) := by rw [e49, va_up_ne _ _ (by decide)]; exact f157
  have f159 : w67 49 = .inl (cI, 24, .inl (fun _ => 0)) := by rw [e68, va_up_ne _ _ (by decide)]; exact f158
  have f160 : w88 49 = .inl (cI, 24, .inl (fun _ => 0)) := by rw [e89, va_up_ne _ _ (by decide)]; exact f159
  have f161 : w111 49 = .inl (cI, 24, .inl (fun _ => 0)) := by rw [e112, va_up_ne _ _ (by decide)]; exact f160
  have f162 : w136 49 = .inl (cI, 24, .inl (fun _ => 0)) := by rw [e137, va_up_ne _ _ (by decide)]; exact f161
  have f163 : w1 8 = .inr (4, [.ref (ad 9), .int 0]) := by rw [e2, va_up_ne _ _ (by decide)]; exact pf8
  have f164 : w5 8 = .inr (4, [.ref (ad 9), .int 0]) := by rw [e6, va_up_ne _ _ (by decide)]; exact f163
  have f165 : w9 8 = .inr (4, [.ref (ad 9), .int 0]) := by rw [e10, va_up_ne _ _ (by decide)]; exact f164
  have f166 : w13 8 = .inr (4, [.ref (ad 9), .int 0]) := by rw [e14, va_up_ne _ _ (by decide)]; exact f165
  have f167 : w17 8 = .inr (4, [.ref (ad 9), .int 0]) := by rw [e18, va_up_ne _ _ (by decide)]; exact f166
  have f168 : w31 8 = .inr (4, [.ref (ad 9), .int 0]) := by rw [e32, va_up_ne _ _ (by decide)]; exact f167
  have f169 : w48 8 = .inr (4, [.ref (ad 9), .int 0]) := by rw [e49, va_up_ne _ _ (by decide)]; exact f168
  have f170 : w67 8 = .inr (4, [.ref (ad 9), .int 0]) := by rw [e68, va_up_ne _ _ (by decide)]; exact f169
  have f171 : w88 8 = .inr (4, [.ref (ad 9), .int 0]) := by rw [e89, va_up_ne _ _ (by decide)]; exact f170
  have f172 : w111 8 = .inr (4, [.ref (ad 9), .int 0]) := by rw [e112, va_up_ne _ _ (by decide)]; exact f171
  have f173 : w136 8 = .inr (4, [.ref (ad 9), .int 0]) := by rw [e137, va_up_ne _ _ (by decide)]; exact f172
  have f174 : w1 9 = .inl (cI, 24, .inl (fun _ => 0)) := by rw [e2, va_up_ne _ _ (by decide)]; exact pf9
  have f175 : w5 9 = .inl (cI, 24, .inl (fun _ => 0)) := by rw [e6, va_up_ne _ _ (by decide)]; exact f174
  have f176 : w9 9 = .inl (cI, 24, .inl (fun _ => 0)) := by rw [e10, va_up_ne _ _ (by decide)]; exact f175
  have f177 : w13 9 = .inl (cI, 24, .inl (fun _ => 0)) := by rw [e14, va_up_ne _ _ (by decide)]; exact f176
  have f178 : w17 9 = .inl (cI, 24, .inl (fun _ => 0)) := by rw [e18, va_up_ne _ _ (by decide)]; exact f177
  have f179 : w31 9 = .inl (cI, 24, .inl (fun _ => 0)) := by rw [e32, va_up_ne _ _ (by decide)]; exact f178
  have f180 : w48 9 = .inl (cI, 24, .inl (fun _ => 0)) := by rw [e49, va_up_ne _ _ (by decide)]; exact f179
  have f181 : w67 9 = .inl (cI, 24, .inl (fun _ => 0)) := by rw [e68, va_up_ne _ _ (by decide)]; exact f180
  have f182 : w88 9 = .inl (cI, 24, .inl (fun _ => 0)) := by rw [e89, va_up_ne _ _ (by decide)]; exact f181
  have f183 : w111 9 = .inl (cI, 24, .inl (fun _ => 0)) := by rw [e112, va_up_ne _ _ (by decide)]; exact f182
  have f184 : w136 9 = .inl (cI, 24, .inl (fun _ => 0)) := by rw [e137, va_up_ne _ _ (by decide)]; exact f183
  refine q_Vv (na := 1) (As := [.ref (ad 8)]) (rest := []) X hD hN h rfl (c_R_become l G cI cB cZ cO ad w136 48 8 _ _ _ _ (by omega) (by omega) (by omega) f151 f162 f173 f184) ⟨kw_162, kw_163, kw_164, kw_29, kw_165⟩ rfl ⟨by decide, by decide, by decide⟩ ⟨Nat.le_of_ble_eq_true rfl, Nat.le_of_ble_eq_true rfl⟩ ⟨Nat.zero_le _, Nat.zero_le _⟩ (by decide) f151 rfl rfl hl.1 rfl (Nat.le_of_ble_eq_true rfl) dX2_become_135 (fun w186 H locs hp187 h => ?_)
  refine lv_aload_n hx hb dX2_become_138 rfl (lv_at hl 0 rfl) ?_
  have f188 : w186 41 = .inr (1, [.int 0, .int 0, .int 0, .int 0, .int 0, .ref (ad 42), .ref (ad 43), .ref (ad 44), .ref (ad 45), .ref (ad 46), .ref (ad 47), .ref (ad 48), .ref (ad 50), .ref (ad 52)]) := (hp187 41 (by decide) (by decide)).trans f139
  refine r_get kc2 X h 41 12 (by decide) rfl f188 (by decide) kw_31 rfl dX2_become_139 ?_
  refine lv_aload_n hx hb dX2_become_142 rfl (lv_at hl 1 rfl) ?_
  have f189 : w186 1 = .inr (1, [.int 0, .int 0, .int 0, .int 0, .int 0, .ref (ad 2), .ref (ad 3), .ref (ad 4), .ref (ad 5), .ref (ad 6), .ref (ad 7), .ref (ad 8), .ref (ad 10), .ref (ad 12)]) := (hp187 1 (by decide) (by decide)).trans f140
  refine r_get kc2 X h 1 12 (by decide) rfl f189 (by decide) kw_31 rfl dX2_become_143 ?_
  have f190 : w1 50 = .inr (4, [.ref (ad 51), .int 0]) := by rw [e2, va_up_ne _ _ (by decide)]; exact pf50
  have f191 : w5 50 = .inr (4, [.ref (ad 51), .int 0]) := by rw [e6, va_up_ne _ _ (by decide)]; exact f190
  have f192 : w9 50 = .inr (4, [.ref (ad 51), .int 0]) := by rw [e10, va_up_ne _ _ (by decide)]; exact f191
  have f193 : w13 50 = .inr (4, [.ref (ad 51), .int 0]) := by rw [e14, va_up_ne _ _ (by decide)]; exact f192
  have f194 : w17 50 = .inr (4, [.ref (ad 51), .int 0]) := by rw [e18, va_up_ne _ _ (by decide)]; exact f193
  have f195 : w31 50 = .inr (4, [.ref (ad 51), .int 0]) := by rw [e32, va_up_ne _ _ (by decide)]; exact f194
  have f196 : w48 50 = .inr (4, [.ref (ad 51), .int 0]) := by rw [e49, va_up_ne _ _ (by decide)]; exact f195
  have f197 : w67 50 = .inr (4, [.ref (ad 51), .int 0]) := by rw [e68, va_up_ne _ _ (by decide)]; exact f196
  have f198 : w88 50 = .inr (4, [.ref (ad 51), .int 0]) := by rw [e89, va_up_ne _ _ (by decide)]; exact f197
  have f199 : w111 50 = .inr (4, [.ref (ad 51), .int 0]) := by rw [e112, va_up_ne _ _ (by decide)]; exact f198
  have f200 : w136 50 = .inr (4, [.ref (ad 51), .int 0]) := by rw [e137, va_up_ne _ _ (by decide)]; exact f199
  have f201 : w186 50 = .inr (4, [.ref (ad 51), .int 0]) := (hp187 50 (by decide) (by decide)).trans f200
  have f202 : w1 51 = .inl (cI, 24, .inl (fun _ => 0)) := by rw [e2, va_up_ne _ _ (by decide)]; exact pf51
  have f203 : w5 51 = .inl (cI, 24, .inl (fun _ => 0)) := by rw [e6, va_up_ne _ _ (by decide)]; exact f202
  have f204 : w9 51 = .inl (cI, 24, .inl (fun _ => 0)) := by rw [e10, va_up_ne _ _ (by decide)]; exact f203
  have f205 : w13 51 = .inl (cI, 24, .inl (fun _ => 0)) := by rw [e14, va_up_ne _ _ (by decide)]; exact f204
  have f206 : w17 51 = .inl (cI, 24, .inl (fun _ => 0)) := by rw [e18, va_up_ne _ _ (by decide)]; exact f205
  have f207 : w31 51 = .inl (cI, 24, .inl (fun _ => 0)) := by rw [e32, va_up_ne _ _ (by decide)]; exact f206
  have f208 : w48 51 = .inl (cI, 24, .inl (fun _ => 0)) := by rw [e49, va_up_ne _ _ (by decide)]; exact f207
  have f209 : w67 51 = .inl (cI, 24, .inl (fun _ => 0)) := by rw [e68, va_up_ne _ _ (by decide)]; exact f208
  have f210 : w88 51 = .inl (cI, 24, .inl (fun _ => 0)) := by rw [e89, va_up_ne _ _ (by decide)]; exact f209
  have f211 : w111 51 = .inl (cI, 24, .inl (fun _ => 0)) := by rw [e112, va_up_ne _ _ (by decide)]; exact f210
  have f212 : w136 51 = .inl (cI, 24, .inl (fun _ => 0)) := by rw [e137, va_up_ne _ _ (by decide)]; exact f211
  have f213 : w186 51 = .inl (cI, 24, .inl (fun _ => 0)) := (hp187 51 (by decide) (by decide)).trans f212
  have f214 : w1 10 = .inr (4, [.ref (ad 11), .int 0]) := by rw [e2, va_up_ne _ _ (by decide)]; exact pf10
  have f215 : w5 10 = .inr (4, [.ref (ad 11), .int 0]) := by rw [e6, va_up_ne _ _ (by decide)]; exact f214
  have f216 : w9 10 = .inr (4, [.ref (ad 11), .int 0]) := by rw [e10, va_up_ne _ _ (by decide)]; exact f215
  have f217 : w13 10 = .inr (4, [.ref (ad 11), .int 0]) := by rw [e14, va_up_ne _ _ (by decide)]; exact f216
  have f218 : w17 10 = .inr (4, [.ref (ad 11), .int 0]) := by rw [e18, va_up_ne _ _ (by decide)]; exact f217
  have f219 : w31 10 = .inr (4, [.ref (ad 11), .int 0]) := by rw [e32, va_up_ne _ _ (by decide)]; exact f218
  have f220 : w48 10 = .inr (4, [.ref (ad 11), .int 0]) := by rw [e49, va_up_ne _ _ (by decide)]; exact f219
  have f221 : w67 10 = .inr (4, [.ref (ad 11), .int 0]) := by rw [e68, va_up_ne _ _ (by decide)]; exact f220
  have f222 : w88 10 = .inr (4, [.ref (ad 11), .int 0]) := by rw [e89, va_up_ne _ _ (by decide)]; exact f221
  have f223 : w111 10 = .inr (4, [.ref (ad 11), .int 0]) := by rw [e112, va_up_ne _ _ (by decide)]; exact f222
  have f224 : w136 10 = .inr (4, [.ref (ad 11), .int 0]) := by rw [e137, va_up_ne _ _ (by decide)]; exact f223
  have f225 : w186 10 = .inr (4, [.ref (ad 11), .int 0]) := (hp187 10 (by decide) (by decide)).trans f224
  have f226 : w1 11 = .inl (cI, 24, .inl (fun _ => 0)) := by rw [e2, va_up_ne _ _ (by decide)]; exact pf11
  have f227 : w5 11 = .inl (cI, 24, .inl (fun _ => 0)) := by rw [e6, va_up_ne _ _ (by decide)]; exact f226
  have f228 : w9 11 = .inl (cI, 24, .inl (fun _ => 0)) := by rw [e10, va_up_ne _ _ (by decide)]; exact f227
  have f229 : w13 11 = .inl (cI, 24, .inl (fun _ => 0)) := by rw [e14, va_up_ne _ _ (by decide)]; exact f228
  have f230 : w17 11 = .inl (cI, 24, .inl (fun _ => 0)) := by rw [e18, va_up_ne _ _ (by decide)]; exact f229
  have f231 : w31 11 = .inl (cI, 24, .inl (fun _ => 0)) := by rw [e32, va_up_ne _ _ (by decide)]; exact f230
  have f232 : w48 11 = .inl (cI, 24, .inl (fun _ => 0)) := by rw [e49, va_up_ne _ _ (by decide)]; exact f231
  have f233 : w67 11 = .inl (cI, 24, .inl (fun _ => 0)) := by rw [e68, va_up_ne _ _ (by decide)]; exact f232
  have f234 : w88 11 = .inl (cI, 24, .inl (fun _ => 0)) := by rw [e89, va_up_ne _ _ (by decide)]; exact f233
  have f235 : w111 11 = .inl (cI, 24, .inl (fun _ => 0)) := by rw [e112, va_up_ne _ _ (by decide)]; exact f234
  have f236 : w136 11 = .inl (cI, 24, .inl (fun _ => 0)) := by rw [e137, va_up_ne _ _ (by decide)]; exact f235
  have f237 : w186 11 = .inl (cI, 24, .inl (fun _ => 0)) := (hp187 11 (by decide) (by decide)).trans f236
  refine q_Vv (na := 1) (As := [.ref (ad 10)]) (rest := []) X hD hN h rfl (c_R_become l G cI cB cZ cO ad w186 50 10 _ _ _ _ (by omega) (by omega) (by omega) f201 f213 f225 f237) ⟨kw_162, kw_163, kw_164, kw_29, kw_165⟩ rfl ⟨by decide, by decide, by decide⟩ ⟨Nat.le_of_ble_eq_true rfl, Nat.le_of_ble_eq_true rfl⟩ ⟨Nat.zero_le _, Nat.zero_le _⟩ (by decide) f201 rfl rfl hl.1 rfl (Nat.le_of_ble_eq_true rfl) dX2_become_146 (fun w239 H locs hp240 h => ?_)
  refine lv_aload_n hx hb dX2_become_149 rfl (lv_at hl 0 rfl) ?_
  have f241 : w239 41 = .inr (1, [.int 0, .int 0, .int 0, .int 0, .int 0, .ref (ad 42), .ref (ad 43), .ref (ad 44), .ref (ad 45), .ref (ad 46), .ref (ad 47), .ref (ad 48), .ref (ad 50), .ref (ad 52)]) := (hp240 41 (by decide) (by decide)).trans f188
  refine r_get kc2 X h 41 13 (by decide) rfl f241 (by decide) kw_32 rfl dX2_become_150 ?_
  refine lv_aload_n hx hb dX2_become_153 rfl (lv_at hl 1 rfl) ?_
  have f242 : w239 1 = .inr (1, [.int 0, .int 0, .int 0, .int 0, .int 0, .ref (ad 2), .ref (ad 3), .ref (ad 4), .ref (ad 5), .ref (ad 6), .ref (ad 7), .ref (ad 8), .ref (ad 10), .ref (ad 12)]) := (hp240 1 (by decide) (by decide)).trans f189
  refine r_get kc2 X h 1 13 (by decide) rfl f242 (by decide) kw_32 rfl dX2_become_154 ?_
  have f243 : w1 52 = .inr (2, [.ref (ad 53), .int 0]) := by rw [e2, va_up_ne _ _ (by decide)]; exact pf52
  have f244 : w5 52 = .inr (2, [.ref (ad 53), .int 0]) := by rw [e6, va_up_ne _ _ (by decide)]; exact f243
  have f245 : w9 52 = .inr (2, [.ref (ad 53), .int 0]) := by rw [e10, va_up_ne _ _ (by decide)]; exact f244
  have f246 : w13 52 = .inr (2, [.ref (ad 53), .int 0]) := by rw [e14, va_up_ne _ _ (by decide)]; exact f245
  have f247 : w17 52 = .inr (2, [.ref (ad 53), .int 0]) := by rw [e18, va_up_ne _ _ (by decide)]; exact f246
  have f248 : w31 52 = .inr (2, [.ref (ad 53), .int 0]) := by rw [e32, va_up_ne _ _ (by decide)]; exact f247
  have f249 : w48 52 = .inr (2, [.ref (ad 53), .int 0]) := by rw [e49, va_up_ne _ _ (by decide)]; exact f248
  have f250 : w67 52 = .inr (2, [.ref (ad 53), .int 0]) := by rw [e68, va_up_ne _ _ (by decide)]; exact f249
  have f251 : w88 52 = .inr (2, [.ref (ad 53), .int 0]) := by rw [e89, va_up_ne _ _ (by decide)]; exact f250
  have f252 : w111 52 = .inr (2, [.ref (ad 53), .int 0]) := by rw [e112, va_up_ne _ _ (by decide)]; exact f251
  have f253 : w136 52 = .inr (2, [.ref (ad 53), .int 0]) := by rw [e137, va_up_ne _ _ (by decide)]; exact f252
  have f254 : w186 52 = .inr (2, [.ref (ad 53), .int 0]) := (hp187 52 (by decide) (by decide)).trans f253
  have f255 : w239 52 = .inr (2, [.ref (ad 53), .int 0]) := (hp240 52 (by decide) (by decide)).trans f254
  have f256 : w1 53 = .inl (cI, 88, .inl (fun _ => 0)) := by rw [e2, va_up_ne _ _ (by decide)]; exact pf53
  have f257 : w5 53 = .inl (cI, 88, .inl (fun _ => 0)) := by rw [e6, va_up_ne _ _ (by decide)]; exact f256
  have f258 : w9 53 = .inl (cI, 88, .inl (fun _ => 0)) := by rw [e10, va_up_ne _ _ (by decide)]; exact f257
  have f259 : w13 53 = .inl (cI, 88, .inl (fun _ => 0)) := by rw [e14, va_up_ne _ _ (by decide)]; exact f258
  have f260 : w17 53 = .inl (cI, 88, .inl (fun _ => 0)) := by rw [e18, va_up_ne _ _ (by decide)]; exact f259
  have f261 : w31 53 = .inl (cI, 88, .inl (fun _ => 0)) := by rw [e32, va_up_ne _ _ (by decide)]; exact f260
  have f262 : w48 53 = .inl (cI, 88, .inl (fun _ => 0)) := by rw [e49, va_up_ne _ _ (by decide)]; exact f261
  have f263 : w67 53 = .inl (cI, 88, .inl (fun _ => 0)) := by rw [e68, va_up_ne _ _ (by decide)]; exact f262
  have f264 : w88 53 = .inl (cI, 88, .inl (fun _ => 0)) := by rw [e89, va_up_ne _ _ (by decide)]; exact f263
  have f265 : w111 53 = .inl (cI, 88, .inl (fun _ => 0)) := by rw [e112, va_up_ne _ _ (by decide)]; exact f264
  have f266 : w136 53 = .inl (cI, 88, .inl (fun _ => 0)) := by rw [e137, va_up_ne _ _ (by decide)]; exact f265
  have f267 : w186 53 = .inl (cI, 88, .inl (fun _ => 0)) := (hp187 53 (by decide) (by decide)).trans f266
  have f268 : w239 53 = .inl (cI, 88, .inl (fun _ => 0)) := (hp240 53 (by decide) (by decide)).trans f267
  have f269 : w1 12 = .inr (2, [.ref (ad 13), .int 0]) := by rw [e2, va_up_ne _ _ (by decide)]; exact pf12
  have f270 : w5 12 = .inr (2, [.ref (ad 13), .int 0]) := by rw [e6, va_up_ne _ _ (by decide)]; exact f269
  have f271 : w9 12 = .inr (2, [.ref (ad 13), .int 0]) := by rw [e10, va_up_ne _ _ (by decide)]; exact f270
  have f272 : w13 12 = .inr (2, [.ref (ad 13), .int 0]) := by rw [e14, va_up_ne _ _ (by decide)]; exact f271
  have f273 : w17 12 = .inr (2, [.ref (ad 13), .int 0]) := by rw [e18, va_up_ne _ _ (by decide)]; exact f272
  have f274 : w31 12 = .inr (2, [.ref (ad 13), .int 0]) := by rw [e32, va_up_ne _ _ (by decide)]; exact f273
  have f275 : w48 12 = .inr (2, [.ref (ad 13), .int 0]) := by rw [e49, va_up_ne _ _ (by decide)]; exact f274
  have f276 : w67 12 = .inr (2, [.ref (ad 13), .int 0]) := by rw [e68, va_up_ne _ _ (by decide)]; exact f275
  have f277 : w88 12 = .inr (2, [.ref (ad 13), .int 0]) := by rw [e89, va_up_ne _ _ (by decide)]; exact f276
  have f278 : w111 12 = .inr (2, [.ref (ad 13), .int 0]) := by rw [e112, va_up_ne _ _ (by decide)]; exact f277
  have f279 : w136 12 = .inr (2, [.ref (ad 13), .int 0]) := by rw [e137, va_up_ne _ _ (by decide)]; exact f278
  have f280 : w186 12 = .inr (2, [.ref (ad 13), .int 0]) := (hp187 12 (by decide) (by decide)).trans f279
  have f281 : w239 12 = .inr (2, [.ref (ad 13), .int 0]) := (hp240 12 (by decide) (by decide)).trans f280
  have f282 : w1 13 = .inl (cI, 88, .inl (fun _ => 0)) := by rw [e2, va_up_ne _ _ (by decide)]; exact pf13
  have f283 : w5 13 = .inl (cI, 88, .inl (fun _ => 0)) := by rw [e6, va_up_ne _ _ (by decide)]; exact f282
  have f284 : w9 13 = .inl (cI, 88, .inl (fun _ => 0)) := by rw [e10, va_up_ne _ _ (by decide)]; exact f283
  have f285 : w13 13 = .inl (cI, 88, .inl (fun _ => 0)) := by rw [e14, va_up_ne _ _ (by decide)]; exact f284
  have f286 : w17 13 = .inl (cI, 88, .inl (fun _ => 0)) := by rw [e18, va_up_ne _ _ (by decide)]; exact f285
  have f287 : w31 13 = .inl (cI, 88, .inl (fun _ => 0)) := by rw [e32, va_up_ne _ _ (by decide)]; exact f286
  have f288 : w48 13 = .inl (cI, 88, .inl (fun _ => 0)) := by rw [e49, va_up_ne _ _ (by decide)]; exact f287
  have f289 : w67 13 = .inl (cI, 88, .inl (fun _ => 0)) := by rw [e68, va_up_ne _ _ (by decide)]; exact f288
  have f290 : w88 13 = .inl (cI, 88, .inl (fun _ => 0)) := by rw [e89, va_up_ne _ _ (by decide)]; exact f289
  have f291 : w111 13 = .inl (cI, 88, .inl (fun _ => 0)) := by rw [e112, va_up_ne _ _ (by decide)]; exact f290
  have f292 : w136 13 = .inl (cI, 88, .inl (fun _ => 0)) := by rw [e137, va_up_ne _ _ (by decide)]; exact f291
  have f293 : w186 13 = .inl (cI, 88, .inl (fun _ => 0)) := (hp187 13 (by decide) (by decide)).trans f292
  have f294 : w239 13 = .inl (cI, 88, .inl (fun _ => 0)) := (hp240 13 (by decide) (by decide)).trans f293
  refine q_Vv (na := 1) (As := [.ref (ad 12)]) (rest := []) X hD hN h rfl (c_P_become l G cI cB cZ cO ad w239 52 12 _ _ _ _ (by omega) (by omega) (by omega) f255 f268 f281 f294) ⟨kw_166, kw_167, kw_168, kw_36, kw_169⟩ rfl ⟨by decide, by decide, by decide⟩ ⟨Nat.le_of_ble_eq_true rfl, Nat.le_of_ble_eq_true rfl⟩ ⟨Nat.zero_le _, Nat.zero_le _⟩ (by decide) f255 rfl rfl hl.1 rfl (Nat.le_of_ble_eq_true rfl) dX2_become_157 (fun w296 H locs hp297 h => ?_)
  have f298 : w296 41 = .inr (1, [.int 0, .int 0, .int 0, .int 0, .int 0, .ref (ad 42), .ref (ad 43), .ref (ad 44), .ref (ad 45), .ref (ad 46), .ref (ad 47), .ref (ad 48), .ref (ad 50), .ref (ad 52)]) := (hp297 41 (by decide) (by decide)).trans f241
  exact e_v X h hr hlk dX2_become_160 ⟨f298, fun k h1 => (hp297 k (by omega) (by omega)).trans ((hp240 k (by omega) (by omega)).trans ((hp187 k (by omega) (by omega)).trans (((congrFun e137 k).trans (va_up_ne _ _ (by omega))).trans (((congrFun e112 k).trans (va_up_ne _ _ (by omega))).trans (((congrFun e89 k).trans (va_up_ne _ _ (by omega))).trans (((congrFun e68 k).trans (va_up_ne _ _ (by omega))).trans (((congrFun e49 k).trans (va_up_ne _ _ (by omega))).trans (((congrFun e32 k).trans (va_up_ne _ _ (by omega))).trans (((congrFun e18 k).trans (va_up_ne _ _ (by omega))).trans (((congrFun e14 k).trans (va_up_ne _ _ (by omega))).trans (((congrFun e10 k).trans (va_up_ne _ _ (by omega))).trans (((congrFun e6 k).trans (va_up_ne _ _ (by omega))).trans ((congrFun e2 k).trans (va_up_ne _ _ (by omega)))))))))))))))⟩

set_option maxHeartbeats 4000000 in
set_option maxRecDepth 100000 in
theorem c_coolInAll14 (l : Launch) (G : va_G) (cI cB cZ cO : ClassId) (ad : Nat → Nat) (w : Nat → va_E) (q0 : Int32) (pf14 : w 14 = .inr (1, [.int q0, .int 0, .int 0, .int 0, .int 0, .ref (ad 15), .ref (ad 16), .ref (ad 17), .ref (ad 18), .ref (ad 19), .ref (ad 20), .ref (ad 21), .ref (ad 23), .ref (ad 25)])) : MI l G (tyq cI cB cZ cO) yX2_coolInAll cX2_coolInAll 3 (some .int) 0 0 74 ad w [.ref (ad 14)] (fun r w1 => w1 = w ∧ r = 0) := by
  refine mk_i (own := "NoonShade$Isle") rfl (by decide) (Nat.le_of_ble_eq_true rfl) ?_
  intro p e s m below meth c ls X hD hN hr hlk h hl
  have hx := X.1.1
  have hb := X.1.2.1
  have hown := X.1.2.2.2.1
  have hts := X.1.2.2.2.2
  have hl : lv_has ls 3 [(0, .ref (ad 14))] := hl
  refine lv_iconst (v := 0) hx hb dX2_coolInAll_0 (by decide) ?_
  refine lv_istore_n (lv' := [(1, .int 0), (0, .ref (ad 14))]) hx hb dX2_coolInAll_1 rfl hl (by decide) rfl (fun ls hl => ?_)
  refine lv_iconst (v := 0) hx hb dX2_coolInAll_2 (by decide) ?_
  refine lv_istore_n (lv' := [(2, .int 0), (1, .int 0), (0, .ref (ad 14))]) hx hb dX2_coolInAll_3 rfl hl (by decide) rfl (fun ls hl => ?_)
  refine lv_iload_n hx hb dX2_coolInAll_4 rfl (lv_at hl 0 rfl) ?_
  refine lv_aload_n hx hb dX2_coolInAll_5 rfl (lv_at hl 2 rfl) ?_
  refine r_get kc2 X h 14 4 (by decide) rfl pf14 (by decide) kw_1 rfl dX2_coolInAll_6 ?_
  refine lv_icmp_ge (tgt := 27) hx hb dX2_coolInAll_9 (by decide) (fun _ => ?_) (fun hc => absurd (by decide) hc)
  refine lv_iload_n hx hb dX2_coolInAll_27 rfl (lv_at hl 1 rfl) ?_
  exact e_i X h hr hlk dX2_coolInAll_28 ⟨rfl, rfl⟩
