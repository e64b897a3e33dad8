set_option maxHeartbeats 4000000 in
set_option maxRecDepth 100000 in
theorem c_bitCount (l : Launch) (G : va_G) (cI cB cZ cO : ClassId) (ad : Nat → Nat) (w : Nat → va_E)   (x : Int32)   : NI l G (tyq cI cB cZ cO) yJ6_bitCount_0f7a4 cJ6_bitCount_0f7a4 1 (some .int) 0 0 74 ad w [.int x] (fun r w1 => w = w1 ∧ True) := by
  refine nk_i (own := "java/lang/Integer") rfl (by decide) (Nat.le_of_ble_eq_true rfl) ?_
  intro p e s m below meth c ls X hD hN hr hlk h hl
  have hx := X.1.1
  have hb := X.1.2.1
  have hown := X.1.2.2.2.1
  have hts := X.1.2.2.2.2
  have hl : lv_has ls 1 [(0, .int x)] := hl
  refine lv_iload_n hx hb dJ6_bitCount_0f7a4_0 rfl (lv_at hl 0 rfl) ?_
  refine lv_iload_n hx hb dJ6_bitCount_0f7a4_1 rfl (lv_at hl 0 rfl) ?_
  refine lv_iconst (v := 1) hx hb dJ6_bitCount_0f7a4_2 (by decide) ?_
  obtain ⟨z1, e2⟩ : ∃ z : Int32, (x.toUInt32 >>> (Int32.toUInt32 1 &&& Int32.toUInt32 31)).toInt32 = z := ⟨_, rfl⟩
  refine lv_iushr (v := z1) hx hb dJ6_bitCount_0f7a4_3 e2 ?_
  refine lv_ldcw (v := 1431655765) hx hb hown (hts _ kv_161) dJ6_bitCount_0f7a4_4 ?_
  obtain ⟨z5, e3⟩ : ∃ z : Int32, z1 &&& (1431655765 : Int32) = z := ⟨_, rfl⟩
  refine o_iand (z := z5) hx hb dJ6_bitCount_0f7a4_7 e3 ?_
  obtain ⟨z8, e6⟩ : ∃ z : Int32, x - z5 = z := ⟨_, rfl⟩
  refine o_isub (z := z8) hx hb dJ6_bitCount_0f7a4_8 e6 ?_
  refine lv_istore_n (lv' := [(0, .int z8)]) hx hb dJ6_bitCount_0f7a4_9 rfl hl (by decide) rfl (fun ls hl => ?_)
  refine lv_iload_n hx hb dJ6_bitCount_0f7a4_10 rfl (lv_at hl 0 rfl) ?_
  refine lv_ldcw (v := 858993459) hx hb hown (hts _ kv_162) dJ6_bitCount_0f7a4_11 ?_
  obtain ⟨z11, e9⟩ : ∃ z : Int32, z8 &&& (858993459 : Int32) = z := ⟨_, rfl⟩
  refine o_iand (z := z11) hx hb dJ6_bitCount_0f7a4_14 e9 ?_
  refine lv_iload_n hx hb dJ6_bitCount_0f7a4_15 rfl (lv_at hl 0 rfl) ?_
  refine lv_iconst (v := 2) hx hb dJ6_bitCount_0f7a4_16 (by decide) ?_
  obtain ⟨z12, e13⟩ : ∃ z : Int32, (z8.toUInt32 >>> (Int32.toUInt32 2 &&& Int32.toUInt32 31)).toInt32 = z := ⟨_, rfl⟩
  refine lv_iushr (v := z12) hx hb dJ6_bitCount_0f7a4_17 e13 ?_
  refine lv_ldcw (v := 858993459) hx hb hown (hts _ kv_162) dJ6_bitCount_0f7a4_18 ?_
  obtain ⟨z16, e14⟩ : ∃ z : Int32, z12 &&& (858993459 : Int32) = z := ⟨_, rfl⟩
  refine o_iand (z := z16) hx hb dJ6_bitCount_0f7a4_21 e14 ?_
  obtain ⟨z19, e17⟩ : ∃ z : Int32, z11 + z16 = z := ⟨_, rfl⟩
  refine o_iadd (z := z19) hx hb dJ6_bitCount_0f7a4_22 e17 ?_
  refine lv_istore_n (lv' := [(0, .int z19)]) hx hb dJ6_bitCount_0f7a4_23 rfl hl (by decide) rfl (fun ls hl => ?_)
  refine lv_iload_n hx hb dJ6_bitCount_0f7a4_24 rfl (lv_at hl 0 rfl) ?_
  refine lv_iload_n hx hb dJ6_bitCount_0f7a4_25 rfl (lv_at hl 0 rfl) ?_
  refine lv_iconst (v := 4) hx hb dJ6_bitCount_0f7a4_26 (by decide) ?_
  obtain ⟨z20, e21⟩ : ∃ z : Int32, (z19.toUInt32 >>> (Int32.toUInt32 4 &&& Int32.toUInt32 31)).toInt32 = z := ⟨_, rfl⟩
  refine lv_iushr (v := z20) hx hb dJ6_bitCount_0f7a4_27 e21 ?_
  obtain ⟨z24, e22⟩ : ∃ z : Int32, z19 + z20 = z := ⟨_, rfl⟩
  refine o_iadd (z := z24) hx hb dJ6_bitCount_0f7a4_28 e22 ?_
  refine lv_ldcw (v := 252645135) hx hb hown (hts _ kv_163) dJ6_bitCount_0f7a4_29 ?_
  obtain ⟨z27, e25⟩ : ∃ z : Int32, z24 &&& (252645135 : Int32) = z := ⟨_, rfl⟩
  refine o_iand (z := z27) hx hb dJ6_bitCount_0f7a4_32 e25 ?_
  refine lv_istore_n (lv' := [(0, .int z27)]) hx hb dJ6_bitCount_0f7a4_33 rfl hl (by decide) rfl (fun ls hl => ?_)
  refine lv_iload_n hx hb dJ6_bitCount_0f7a4_34 rfl (lv_at hl 0 rfl) ?_
  refine lv_iload_n hx hb dJ6_bitCount_0f7a4_35 rfl (lv_at hl 0 rfl) ?_
  refine lv_bipush (v := 8) hx hb dJ6_bitCount_0f7a4_36 (by decide) ?_
  obtain ⟨z28, e29⟩ : ∃ z : Int32, (z27.toUInt32 >>> (Int32.toUInt32 8 &&& Int32.toUInt32 31)).toInt32 = z := ⟨_, rfl⟩
  refine lv_iushr (v := z28) hx hb dJ6_bitCount_0f7a4_38 e29 ?_
  obtain ⟨z32, e30⟩ : ∃ z : Int32, z27 + z28 = z := ⟨_, rfl⟩
  refine o_iadd (z := z32) hx hb dJ6_bitCount_0f7a4_39 e30 ?_
  refine lv_istore_n (lv' := [(0, .int z32)]) hx hb dJ6_bitCount_0f7a4_40 rfl hl (by decide) rfl (fun ls hl => ?_)
  refine lv_iload_n hx hb dJ6_bitCount_0f7a4_41 rfl (lv_at hl 0 rfl) ?_
  refine lv_iload_n hx hb dJ6_bitCount_0f7a4_42 rfl (lv_at hl 0 rfl) ?_
  refine lv_bipush (v := 16) hx hb dJ6_bitCount_0f7a4_43 (by decide) ?_
  obtain ⟨z33, e34⟩ : ∃ z : Int32, (z32.toUInt32 >>> (Int32.toUInt32 16 &&& Int32.toUInt32 31)).toInt32 = z := ⟨_, rfl⟩
  refine lv_iushr (v := z33) hx hb dJ6_bitCount_0f7a4_45 e34 ?_
  obtain ⟨z37, e35⟩ : ∃ z : Int32, z32 + z33 = z := ⟨_, rfl⟩
  refine o_iadd (z := z37) hx hb dJ6_bitCount_0f7a4_46 e35 ?_
  refine lv_istore_n (lv' := [(0, .int z37)]) hx hb dJ6_bitCount_0f7a4_47 rfl hl (by decide) rfl (fun ls hl => ?_)
  refine lv_iload_n hx hb dJ6_bitCount_0f7a4_48 rfl (lv_at hl 0 rfl) ?_
  refine lv_bipush (v := 63) hx hb dJ6_bitCount_0f7a4_49 (by decide) ?_
  obtain ⟨z40, e38⟩ : ∃ z : Int32, z37 &&& (63 : Int32) = z := ⟨_, rfl⟩
  refine o_iand (z := z40) hx hb dJ6_bitCount_0f7a4_51 e38 ?_
  exact e_i X h hr hlk dJ6_bitCount_0f7a4_52 ⟨rfl, trivial⟩

set_option maxHeartbeats 4000000 in
set_option maxRecDepth 100000 in
theorem c_I_mixed (l : Launch) (G : va_G) (cI cB cZ cO : ClassId) (ad : Nat → Nat) (w : Nat → va_E)  (ok : OK cI cB cZ cO ad w) (x : Int64)   : NL l G (tyq cI cB cZ cO) yX2_mixed cX2_mixed 6 (some .long) 1 25 74 ad w [.ref (ad 1), .long x] (fun r w1 => w = w1 ∧ True) := by
  refine nk_l (own := "NoonShade$Isle") rfl (by decide) (Nat.le_of_ble_eq_true rfl) ?_
  intro p e s m below meth c ls X hD hN hr hlk h hl
  have hx := X.1.1
  have hb := X.1.2.1
  have hown := X.1.2.2.2.1
  have hts := X.1.2.2.2.2
  have hl : lv_has ls 6 [(0, .ref (ad 1)), (1, .long x)] := hl
  refine lv_lload_n hx hb dX2_mixed_0 rfl (lv_at hl 1 rfl) ?_
  refine lv_lstore_n (lv' := [(3, .long x), (0, .ref (ad 1)), (1, .long x)]) hx hb dX2_mixed_1 rfl hl (by decide) rfl (fun ls hl => ?_)
  refine lv_iconst (v := 0) hx hb dX2_mixed_2 (by decide) ?_
  refine lv_istore (lv' := [(5, .int 0), (3, .long x), (0, .ref (ad 1)), (1, .long x)]) hx hb dX2_mixed_3 hl (by decide) rfl (fun ls hl => ?_)
  have hloop3 : ∀ (d4 : Nat) (L1 : Int32) (L2 : Int64) (H : Heap) (locs : List Loc) (ls : Array Slot), 0 ≤ L1.toInt → L1.toInt ≤ 7 → 7 - L1.toInt < (d4 : Int) → St G 74 ad (wA 74 ad s.heap.size) s.heap w H locs → lv_has ls 6 [(5, .int L1), (3, .long L2), (0, .ref (ad 1)), (1, .long x)] → W p l e { frames := 1, cells := 0, slots := 0, locals := 25 } s m [.ref (ad 1), .long x].toArray below meth c H locs 0 0 (MQ below (va_Ql (fun r w1 => w = w1 ∧ True) (Aft G 74 ad) (wA 74 ad s.heap.size)) [.ref (ad 1), .long x].toArray s 0 0 (wA 74 ad s.heap.size)) (F0 m 5 ls []) := by
    intro d4
    induction d4 with
    | zero => intro L1 L2 H locs ls hi7 hi8 hm6 h hl; exfalso; omega
    | succ d4 ih5 =>
      intro L1 L2 H locs ls hi7 hi8 hm6 h hl
      refine lv_iload hx hb dX2_mixed_5 (lv_at hl 0 rfl) ?_
      refine lv_aload_n hx hb dX2_mixed_7 rfl (lv_at hl 2 rfl) ?_
      obtain ⟨q13, q14, q15, q16, q17, f12, h18, h19, h20, h21⟩ := (show sI ad 1 (w 1) from ok 1 (by decide))
      have f22 : w 1 = .inr (1, [.int q13, .int q14, .int q15, .int q16, .int q17, .ref (ad 2), .ref (ad 3), .ref (ad 4), .ref (ad 5), .ref (ad 6), .ref (ad 7), .ref (ad 8), .ref (ad 10), .ref (ad 12)]) := f12
      refine r_get kc2 X h 1 3 (by decide) rfl f22 (by decide) kv_17 rfl dX2_mixed_8 ?_
      refine lv_icmp_ge (tgt := 87) hx hb dX2_mixed_11 (by decide) (fun hc23 => ?_) (fun hc23 => ?_)
      · have hc23 : (q16).toInt ≤ (L1).toInt := i_le hc23 rfl rfl
        refine lv_iconst (v := 0) hx hb dX2_mixed_87 (by decide) ?_
        refine lv_istore (lv' := [(5, .int 0), (3, .long L2), (0, .ref (ad 1)), (1, .long x)]) hx hb dX2_mixed_88 hl (by decide) rfl (fun ls hl => ?_)
        have hloop26 : ∀ (d27 : Nat) (L24 : Int32) (L25 : Int64) (H : Heap) (locs : List Loc) (ls : Array Slot), 0 ≤ L24.toInt → L24.toInt ≤ 4 → 4 - L24.toInt < (d27 : Int) → St G 74 ad (wA 74 ad s.heap.size) s.heap w H locs → lv_has ls 6 [(5, .int L24), (3, .long L25), (0, .ref (ad 1)), (1, .long x)] → W p l e { frames := 1, cells := 0, slots := 0, locals := 25 } s m [.ref (ad 1), .long x].toArray below meth c H locs 0 0 (MQ below (va_Ql (fun r w1 => w = w1 ∧ True) (Aft G 74 ad) (wA 74 ad s.heap.size)) [.ref (ad 1), .long x].toArray s 0 0 (wA 74 ad s.heap.size)) (F0 m 90 ls []) := by
          intro d27
          induction d27 with
          | zero => intro L24 L25 H locs ls hi30 hi31 hm29 h hl; exfalso; omega
          | succ d27 ih28 =>
            intro L24 L25 H locs ls hi30 hi31 hm29 h hl
            refine lv_iload hx hb dX2_mixed_90 (lv_at hl 0 rfl) ?_
            refine lv_aload_n hx hb dX2_mixed_92 rfl (lv_at hl 2 rfl) ?_
            refine r_get kc2 X h 1 4 (by decide) rfl f22 (by decide) kv_18 rfl dX2_mixed_93 ?_
            refine lv_icmp_ge (tgt := 150) hx hb dX2_mixed_96 (by decide) (fun hc35 => ?_) (fun hc35 => ?_)
            · have hc35 : (q17).toInt ≤ (L24).toInt := i_le hc35 rfl rfl
              refine lv_aload_n hx hb dX2_mixed_150 rfl (lv_at hl 2 rfl) ?_
              refine r_get kc2 X h 1 12 (by decide) rfl f22 (by decide) kv_66 rfl dX2_mixed_151 ?_
              refine lv_aload_n hx hb dX2_mixed_154 rfl (lv_at hl 2 rfl) ?_
              refine r_get kc2 X h 1 11 (by decide) rfl f22 (by decide) kv_60 rfl dX2_mixed_155 ?_
              refine lv_lload_n hx hb dX2_mixed_158 rfl (lv_at hl 1 rfl) ?_
              obtain ⟨z40, f39, h41, h42⟩ := (show sR ad 4 9 6 (w 8) from ok 8 (by decide))
              have f43 : w 8 = .inr (4, [.ref (ad 9), .int z40]) := f39
              refine n_Vl (na := 1) (As := [.long L25]) (rest := [.ref (ad 10)]) X hD hN h rfl (c_R_mixed l G cI cB cZ cO ad w 8 (Or.inl rfl) ok L25  ) ⟨kv_164, kv_165, kv_166, kv_64, kv_167⟩ rfl ⟨by decide, by decide, by decide⟩ ⟨Nat.le_of_ble_eq_true rfl, Nat.le_of_ble_eq_true rfl⟩ ⟨Nat.zero_le _, Nat.zero_le _⟩ (by decide) f43 rfl rfl hl.1 rfl (Nat.le_of_ble_eq_true rfl) dX2_mixed_159 (fun r36 w37 H locs hp38 h => ?_)
              obtain ⟨rfl, hr44⟩ := hp38
              obtain ⟨z49, f48, h50, h51⟩ := (show sR ad 4 11 6 (w 10) from ok 10 (by decide))
              have f52 : w 10 = .inr (4, [.ref (ad 11), .int z49]) := f48
              refine n_Vl (na := 1) (As := [.long r36]) (rest := []) X hD hN h rfl (c_R_mixed l G cI cB cZ cO ad w 10 (Or.inr rfl) ok r36  ) ⟨kv_164, kv_165, kv_166, kv_64, kv_167⟩ rfl ⟨by decide, by decide, by decide⟩ ⟨Nat.le_of_ble_eq_true rfl, Nat.le_of_ble_eq_true rfl⟩ ⟨Nat.zero_le _, Nat.zero_le _⟩ (by decide) f52 rfl rfl hl.1 rfl (Nat.le_of_ble_eq_true rfl) dX2_mixed_162 (fun r45 w46 H locs hp47 h => ?_)
              obtain ⟨rfl, hr53⟩ := hp47
              exact e_l X h hr hlk dX2_mixed_165 ⟨rfl, trivial⟩
            · have hc35 : ¬ (q17).toInt ≤ (L24).toInt := i_nle hc35 rfl rfl
              refine lv_ldc2 (v := 31) hx hb hown (hts _ kv_168) dX2_mixed_99 ?_
              refine lv_lload_n hx hb dX2_mixed_102 rfl (lv_at hl 1 rfl) ?_
              obtain ⟨z55, e54⟩ : ∃ z : Int64, (31 : Int64) * L25 = z := ⟨_, rfl⟩
              refine o_lmul (z := z55) hx hb dX2_mixed_103 e54 ?_
              refine lv_aload_n hx hb dX2_mixed_104 rfl (lv_at hl 2 rfl) ?_
              refine r_get kc2 X h 1 8 (by decide) rfl f22 (by decide) kv_23 rfl dX2_mixed_105 ?_
              refine lv_iload hx hb dX2_mixed_108 (lv_at hl 0 rfl) ?_
              obtain ⟨g57, f56, p58⟩ := (show sA cI 4 (anyA) (w 5) from ok 5 (by decide))
              have f59 : w 5 = .inl (cI, 4, .inl g57) := f56
              obtain ⟨v60, e61⟩ : ∃ z : Int32, g57 (L24).toNatClampNeg = z := ⟨_, rfl⟩
              refine o_iald (v := v60) X h 5 0 (by decide) rfl f59 rfl (in_of (by omega) (by omega)) e61 dX2_mixed_110 ?_
              obtain ⟨z63, e64⟩ : ∃ z : Int64, v60.toInt64 = z := ⟨_, rfl⟩
              have tz63 : z63.toInt = (v60).toInt := by rw [← e64]; exact Int32.toInt_toInt64 _
              refine lv_i2l (v := z63) hx hb dX2_mixed_111 e64 ?_
              obtain ⟨z66, e65⟩ : ∃ z : Int64, z55 + z63 = z := ⟨_, rfl⟩
              refine o_ladd (z := z66) hx hb dX2_mixed_112 e65 ?_
              refine lv_lstore_n (lv' := [(3, .long z66), (5, .int L24), (0, .ref (ad 1)), (1, .long x)]) hx hb dX2_mixed_113 rfl hl (by decide) rfl (fun ls hl => ?_)
              refine lv_ldc2 (v := 31) hx hb hown (hts _ kv_168) dX2_mixed_114 ?_
              refine lv_lload_n hx hb dX2_mixed_117 rfl (lv_at hl 0 rfl) ?_
              obtain ⟨z68, e67⟩ : ∃ z : Int64, (31 : Int64) * z66 = z := ⟨_, rfl⟩
              refine o_lmul (z := z68) hx hb dX2_mixed_118 e67 ?_
              refine lv_aload_n hx hb dX2_mixed_119 rfl (lv_at hl 2 rfl) ?_
              refine r_get kc2 X h 1 9 (by decide) rfl f22 (by decide) kv_24 rfl dX2_mixed_120 ?_
              refine lv_iload hx hb dX2_mixed_123 (lv_at hl 1 rfl) ?_
              obtain ⟨g70, f69, p71⟩ := (show sA cI 4 (rgA 0 60) (w 6) from ok 6 (by decide))
              have f72 : w 6 = .inl (cI, 4, .inl g70) := f69
              obtain ⟨v73, e74⟩ : ∃ z : Int32, g70 (L24).toNatClampNeg = z := ⟨_, rfl⟩
              have h75 := rgA_rd p71 e74
              refine o_iald (v := v73) X h 6 0 (by decide) rfl f72 rfl (in_of (by omega) (by omega)) e74 dX2_mixed_125 ?_
              obtain ⟨z76, e77⟩ : ∃ z : Int64, v73.toInt64 = z := ⟨_, rfl⟩
              have tz76 : z76.toInt = (v73).toInt := by rw [← e77]; exact Int32.toInt_toInt64 _
              refine lv_i2l (v := z76) hx hb dX2_mixed_126 e77 ?_
              obtain ⟨z79, e78⟩ : ∃ z : Int64, z68 + z76 = z := ⟨_, rfl⟩
              refine o_ladd (z := z79) hx hb dX2_mixed_127 e78 ?_
              refine lv_lstore_n (lv' := [(3, .long z79), (5, .int L24), (0, .ref (ad 1)), (1, .long x)]) hx hb dX2_mixed_128 rfl hl (by decide) rfl (fun ls hl => ?_)
              refine lv_ldc2 (v := 31) hx hb hown (hts _ kv_168) dX2_mixed_129 ?_
              refine lv_lload_n hx hb dX2_mixed_132 rfl (lv_at hl 0 rfl) ?_
              obtain ⟨z81, e80⟩ : ∃ z : Int64, (31 : Int64) * z79 = z := ⟨_, rfl⟩
              refine o_lmul (z := z81) hx hb dX2_mixed_133 e80 ?_
              refine lv_aload_n hx hb dX2_mixed_134 rfl (lv_at hl 2 rfl) ?_
              refine r_get kc2 X h 1 10 (by decide) rfl f22 (by decide) kv_25 rfl dX2_mixed_135 ?_
              refine lv_iload hx hb dX2_mixed_138 (lv_at hl 1 rfl) ?_
              obtain ⟨g83, f82, p84⟩ := (show sA cI 4 (anyA) (w 7) from ok 7 (by decide))
              have f85 : w 7 = .inl (cI, 4, .inl g83) := f82
              obtain ⟨v86, e87⟩ : ∃ z : Int32, g83 (L24).toNatClampNeg = z := ⟨_, rfl⟩
              refine o_iald (v := v86) X h 7 0 (by decide) rfl f85 rfl (in_of (by omega) (by omega)) e87 dX2_mixed_140 ?_
              obtain ⟨z89, e90⟩ : ∃ z : Int64, v86.toInt64 = z := ⟨_, rfl⟩
              have tz89 : z89.toInt = (v86).toInt := by rw [← e90]; exact Int32.toInt_toInt64 _
              refine lv_i2l (v := z89) hx hb dX2_mixed_141 e90 ?_
              obtain ⟨z92, e91⟩ : ∃ z : Int64, z81 + z89 = z := ⟨_, rfl⟩
              refine o_ladd (z := z92) hx hb dX2_mixed_142 e91 ?_
              refine lv_lstore_n (lv' := [(3, .long z92), (5, .int L24), (0, .ref (ad 1)), (1, .long x)]) hx hb dX2_mixed_143 rfl hl (by decide) rfl (fun ls hl => ?_)
              obtain ⟨z93, e94, t95⟩ := x_add (x := L24) (y := 1) (a := L24.toInt) (b := 1) rfl rfl (by omega) (by omega)
              refine lv_iinc (v := z93) (lv' := [(5, .int z93), (3, .long z92), (0, .ref (ad 1)), (1, .long x)]) hx hb dX2_mixed_144 hl (k := 1) rfl e94 (by decide) rfl (fun ls hl => ?_)
              refine lv_goto (tgt := 90) hx hb dX2_mixed_147 (by decide) ?_
              exact ih28  z93 z92  _ _ _ (by omega) (by omega)  (by omega) h (lv_sub hl [0, 1, 2, 3] rfl)
        exact hloop26 5 (0 : Int32) L2  _ _ _ (by have q0 : (0 : Int32).toInt = 0 := rfl; omega) (by have q0 : (0 : Int32).toInt = 0 := rfl; omega)  (by have q0 : (0 : Int32).toInt = 0 := rfl; omega) h (lv_sub hl [0, 1, 2, 3] rfl)
      · have hc23 : ¬ (q16).toInt ≤ (L1).toInt := i_nle hc23 rfl rfl
        refine lv_ldc2 (v := 31) hx hb hown (hts _ kv_168) dX2_mixed_14 ?_
        refine lv_lload_n hx hb dX2_mixed_17 rfl (lv_at hl 1 rfl) ?_
        obtain ⟨z97, e96⟩ : ∃ z : Int64, (31 : Int64) * L2 = z := ⟨_, rfl⟩
        refine o_lmul (z := z97) hx hb dX2_mixed_18 e96 ?_
        refine lv_aload_n hx hb dX2_mixed_19 rfl (lv_at hl 2 rfl) ?_
        refine r_get kc2 X h 1 5 (by decide) rfl f22 (by decide) kv_20 rfl dX2_mixed_20 ?_
        refine lv_iload hx hb dX2_mixed_23 (lv_at hl 0 rfl) ?_
        obtain ⟨g99, f98, p100⟩ := (show sA cI 7 (anyA) (w 2) from ok 2 (by decide))
        have f101 : w 2 = .inl (cI, 7, .inl g99) := f98
        obtain ⟨v102, e103⟩ : ∃ z : Int32, g99 (L1).toNatClampNeg = z := ⟨_, rfl⟩
        refine o_iald (v := v102) X h 2 0 (by decide) rfl f101 rfl (in_of (by omega) (by omega)) e103 dX2_mixed_25 ?_
        obtain ⟨z105, e106⟩ : ∃ z : Int64, v102.toInt64 = z := ⟨_, rfl⟩
        have tz105 : z105.toInt = (v102).toInt := by rw [← e106]; exact Int32.toInt_toInt64 _
        refine lv_i2l (v := z105) hx hb dX2_mixed_26 e106 ?_
        obtain ⟨z108, e107⟩ : ∃ z : Int64, z97 + z105 = z := ⟨_, rfl⟩
        refine o_ladd (z := z108) hx hb dX2_mixed_27 e107 ?_
        refine lv_lstore_n (lv' := [(3, .long z108), (5, .int L1), (0, .ref (ad 1)), (1, .long x)]) hx hb dX2_mixed_28 rfl hl (by decide) rfl (fun ls hl => ?_)
        refine lv_ldc2 (v := 31) hx hb hown (hts _ kv_168) dX2_mixed_29 ?_
        refine lv_lload_n hx hb dX2_mixed_32 rfl (lv_at hl 0 rfl) ?_
        obtain ⟨z110, e109⟩ : ∃ z : Int64, (31 : Int64) * z108 = z := ⟨_, rfl⟩
        refine o_lmul (z := z110) hx hb dX2_mixed_33 e109 ?_
        refine lv_aload_n hx hb dX2_mixed_34 rfl (lv_at hl 2 rfl) ?_
        refine r_get kc2 X h 1 6 (by decide) rfl f22 (by decide) kv_21 rfl dX2_mixed_35 ?_
        refine lv_iload hx hb dX2_mixed_38 (lv_at hl 1 rfl) ?_
        obtain ⟨g112, f111, p113⟩ := (show sA cI 7 (rgA 0 9) (w 3) from ok 3 (by decide))
        have f114 : w 3 = .inl (cI, 7, .inl g112) := f111
        obtain ⟨v115, e116⟩ : ∃ z : Int32, g112 (L1).toNatClampNeg = z := ⟨_, rfl⟩
        have h117 := rgA_rd p113 e116
        refine o_iald (v := v115) X h 3 0 (by decide) rfl f114 rfl (in_of (by omega) (by omega)) e116 dX2_mixed_40 ?_
        obtain ⟨z118, e119⟩ : ∃ z : Int64, v115.toInt64 = z := ⟨_, rfl⟩
        have tz118 : z118.toInt = (v115).toInt := by rw [← e119]; exact Int32.toInt_toInt64 _
        refine lv_i2l (v := z118) hx hb dX2_mixed_41 e119 ?_
        obtain ⟨z121, e120⟩ : ∃ z : Int64, z110 + z118 = z := ⟨_, rfl⟩
        refine o_ladd (z := z121) hx hb dX2_mixed_42 e120 ?_
        refine lv_lstore_n (lv' := [(3, .long z121), (5, .int L1), (0, .ref (ad 1)), (1, .long x)]) hx hb dX2_mixed_43 rfl hl (by decide) rfl (fun ls hl => ?_)
        refine lv_ldc2 (v := 31) hx hb hown (hts _ kv_168) dX2_mixed_44 ?_
        refine lv_lload_n hx hb dX2_mixed_47 rfl (lv_at hl 0 rfl) ?_
        obtain ⟨z123, e122⟩ : ∃ z : Int64, (31 : Int64) * z121 = z := ⟨_, rfl⟩
        refine o_lmul (z := z123) hx hb dX2_mixed_48 e122 ?_
        refine lv_aload_n hx hb dX2_mixed_49 rfl (lv_at hl 2 rfl) ?_
        refine r_get kc2 X h 1 7 (by decide) rfl f22 (by decide) kv_22 rfl dX2_mixed_50 ?_
        refine lv_iload hx hb dX2_mixed_53 (lv_at hl 1 rfl) ?_
        obtain ⟨g125, f124, p126⟩ := (show sA cI 7 (anyA) (w 4) from ok 4 (by decide))
        have f127 : w 4 = .inl (cI, 7, .inl g125) := f124
        obtain ⟨v128, e129⟩ : ∃ z : Int32, g125 (L1).toNatClampNeg = z := ⟨_, rfl⟩
        refine o_iald (v := v128) X h 4 0 (by decide) rfl f127 rfl (in_of (by omega) (by omega)) e129 dX2_mixed_55 ?_
        obtain ⟨z131, e132⟩ : ∃ z : Int64, v128.toInt64 = z := ⟨_, rfl⟩
        have tz131 : z131.toInt = (v128).toInt := by rw [← e132]; exact Int32.toInt_toInt64 _
        refine lv_i2l (v := z131) hx hb dX2_mixed_56 e132 ?_
        obtain ⟨z134, e133⟩ : ∃ z : Int64, z123 + z131 = z := ⟨_, rfl⟩
        refine o_ladd (z := z134) hx hb dX2_mixed_57 e133 ?_
        refine lv_lstore_n (lv' := [(3, .long z134), (5, .int L1), (0, .ref (ad 1)), (1, .long x)]) hx hb dX2_mixed_58 rfl hl (by decide) rfl (fun ls hl => ?_)
        refine lv_ldc2 (v := 31) hx hb hown (hts _ kv_168) dX2_mixed_59 ?_
        refine lv_lload_n hx hb dX2_mixed_62 rfl (lv_at hl 0 rfl) ?_
        obtain ⟨z136, e135⟩ : ∃ z : Int64, (31 : Int64) * z134 = z := ⟨_, rfl⟩
        refine o_lmul (z := z136) hx hb dX2_mixed_63 e135 ?_
        refine lv_aload_n hx hb dX2_mixed_64 rfl (lv_at hl 2 rfl) ?_
        refine lv_iload hx hb dX2_mixed_65 (lv_at hl 1 rfl) ?_
        refine n_Vi (na := 1) (As := [.int L1]) (rest := [.long z136]) X hD hN h rfl (c_isMilked l G cI cB cZ cO ad w 1 (Or.inl rfl) ok L1  ) ⟨kv_34, kv_35, kv_36, kv_37, kv_38⟩ rfl ⟨by decide, by decide, by decide⟩ ⟨Nat.le_of_ble_eq_true rfl, Nat.le_of_ble_eq_true rfl⟩ ⟨Nat.zero_le _, Nat.zero_le _⟩ (by decide) f22 rfl rfl hl.1 rfl (Nat.le_of_ble_eq_true rfl) dX2_mixed_67 (fun r137 w138 H locs hp139 h => ?_)
        obtain ⟨rfl, hr140⟩ := hp139
        rcases hr140 with rfl | rfl
        · refine lv_if_eq (tgt := 77) hx hb dX2_mixed_70 (by decide) (fun hc => absurd hc (by decide)) (fun _ => ?_)
          refine lv_iconst (v := 1) hx hb dX2_mixed_73 (by decide) ?_
          refine lv_goto (tgt := 78) hx hb dX2_mixed_74 (by decide) ?_
          refine lv_i2l (v := 1) hx hb dX2_mixed_78 rfl ?_
          obtain ⟨z142, e141⟩ : ∃ z : Int64, z136 + (1 : Int64) = z := ⟨_, rfl⟩
          refine o_ladd (z := z142) hx hb dX2_mixed_79 e141 ?_
          refine lv_lstore_n (lv' := [(3, .long z142), (5, .int L1), (0, .ref (ad 1)), (1, .long x)]) hx hb dX2_mixed_80 rfl hl (by decide) rfl (fun ls hl => ?_)
          obtain ⟨z143, e144, t145⟩ := x_add (x := L1) (y := 1) (a := L1.toInt) (b := 1) rfl rfl (by omega) (by omega)
          refine lv_iinc (v := z143) (lv' := [(5, .int z143), (3, .long z142), (0, .ref (ad 1)), (1, .long x)]) hx hb dX2_mixed_81 hl (k := 1) rfl e144 (by decide) rfl (fun ls hl => ?_)
          refine lv_goto (tgt := 5) hx hb dX2_mixed_84 (by decide) ?_
          exact ih5  z143 z142  _ _ _ (by omega) (by omega)  (by omega) h (lv_sub hl [0, 1, 2, 3] rfl)
        · refine lv_if_eq (tgt := 77) hx hb dX2_mixed_70 (by decide) (fun _ => ?_) (fun hc => absurd (by decide) hc)
          refine lv_iconst (v := 0) hx hb dX2_mixed_77 (by decide) ?_
          refine lv_i2l (v := 0) hx hb dX2_mixed_78 rfl ?_
          obtain ⟨z147, e146⟩ : ∃ z : Int64, z136 + (0 : Int64) = z := ⟨_, rfl⟩
          refine o_ladd (z := z147) hx hb dX2_mixed_79 e146 ?_
          refine lv_lstore_n (lv' := [(3, .long z147), (5, .int L1), (0, .ref (ad 1)), (1, .long x)]) hx hb dX2_mixed_80 rfl hl (by decide) rfl (fun ls hl => ?_)
          obtain ⟨z148, e149, t150⟩ := x_add (x := L1) (y := 1) (a := L1.toInt) (b := 1) rfl rfl (by omega) (by omega)
          refine lv_iinc (v := z148) (lv' := [(5, .int z148), (3, .long z147), (0, .ref (ad 1)), (1, .long x)]) hx hb dX2_mixed_81 hl (k := 1) rfl e149 (by decide) rfl (fun ls hl => ?_)
          refine lv_goto (tgt := 5) hx hb dX2_mixed_84 (by decide) ?_
          exact ih5  z148 z147  _ _ _ (by omega) (by omega)  (by omega) h (lv_sub hl [0, 1, 2, 3] rfl)
  exact hloop3 8 (0 : Int32) x  _ _ _ (by have q0 : (0 : Int32).toInt = 0 := rfl; omega) (by have q0 : (0 : Int32).toInt = 0 := rfl; omega)  (by have q0 : (0 : Int32).toInt = 0 := rfl; omega) h (lv_sub hl [0, 1, 2, 3] rfl)

set_option maxHeartbeats 4000000 in
set_option maxRecDepth 100000 in
theorem c_refused (l : Launch) (G : va_G) (cI cB cZ cO : ClassId) (ad : Nat → Nat) (w : Nat → va_E)  (ok : OK cI cB cZ cO ad w) (q : Int32)   : NI l G (tyq cI cB cZ cO) yX8_refused cX8_refused 2 (some .int) 0 0 74 ad w [.ref (ad 0), .int q] (fun r w1 => OK cI cB cZ cO ad w1 ∧ KX w w1 ∧ q = r) := by
  refine nk_i (own := "NoonShade") rfl (by decide) (Nat.le_of_ble_eq_true rfl) ?_
  intro p e s m below meth c ls X hD hN hr hlk h hl
  have hx := X.1.1
  have hb := X.1.2.1
  have hown := X.1.2.2.2.1
  have hts := X.1.2.2.2.2
  have hl : lv_has ls 2 [(0, .ref (ad 0)), (1, .int q)] := hl
  refine lv_iload_n hx hb dX8_refused_0 rfl (lv_at hl 1 rfl) ?_
  refine lv_bipush (v := (-2)) hx hb dX8_refused_1 (by decide) ?_
  refine lv_icmp_ne (tgt := 19) hx hb dX8_refused_3 (by decide) (fun hc1 => ?_) (fun hc1 => ?_)
  · have hc1 : ¬ (q).toInt = (-2) := i_ne hc1 rfl rfl
    refine lv_iload_n hx hb dX8_refused_19 rfl (lv_at hl 1 rfl) ?_
    refine lv_bipush (v := (-3)) hx hb dX8_refused_20 (by decide) ?_
    refine lv_icmp_ne (tgt := 38) hx hb dX8_refused_22 (by decide) (fun hc2 => ?_) (fun hc2 => ?_)
    · have hc2 : ¬ (q).toInt = (-3) := i_ne hc2 rfl rfl
      refine lv_aload_n hx hb dX8_refused_38 rfl (lv_at hl 0 rfl) ?_
      refine lv_dup hx hb dX8_refused_39 rfl ?_
      obtain ⟨x4, x5, q6, q7, q8, f3⟩ := (show sN ad (w 0) from ok 0 (by decide))
      have f9 : w 0 = .inr (6, [.ref (ad 1), .ref (ad 14), .ref (ad 27), .ref (ad 54), .ref (ad 55), .ref (ad 58), .ref (ad 62), .long x4, .long x5, .int q6, .int q7, .int q8]) := f3
      refine r_get kc8 X h 0 11 (by decide) rfl f9 (by decide) kv_169 rfl dX8_refused_40 ?_
      refine lv_iconst (v := 1) hx hb dX8_refused_43 (by decide) ?_
      obtain ⟨z12, e10⟩ : ∃ z : Int32, q8 + (1 : Int32) = z := ⟨_, rfl⟩
      refine o_iadd (z := z12) hx hb dX8_refused_44 e10 ?_
      refine r_put kc8 X hD h 0 11 (by decide) rfl f9 (by decide) kv_169 rfl rfl rfl (Nat.le_of_ble_eq_true rfl) dX8_refused_45 (fun H locs w13 e14 h => ?_)
      have f15 : w13 0 = .inr (6, [.ref (ad 1), .ref (ad 14), .ref (ad 27), .ref (ad 54), .ref (ad 55), .ref (ad 58), .ref (ad 62), .long x4, .long x5, .int q6, .int q7, .int z12]) := (congrFun e14 _).trans (va_up_self _ _ _)
      have ok16 : OK cI cB cZ cO ad w13 := OK.up ok e14 sN_mk
      have kx17 : KX w w13 := KX.up KX.rf e14 f9 rfl
      refine lv_iload_n hx hb dX8_refused_48 rfl (lv_at hl 1 rfl) ?_
      exact e_i X h hr hlk dX8_refused_49 ⟨ok16, kx17, rfl⟩
    · have hc2 : (q).toInt = (-3) := i_eq hc2 rfl rfl
      refine lv_aload_n hx hb dX8_refused_25 rfl (lv_at hl 0 rfl) ?_
      refine lv_dup hx hb dX8_refused_26 rfl ?_
      obtain ⟨x19, x20, q21, q22, q23, f18⟩ := (show sN ad (w 0) from ok 0 (by decide))
      have f24 : w 0 = .inr (6, [.ref (ad 1), .ref (ad 14), .ref (ad 27), .ref (ad 54), .ref (ad 55), .ref (ad 58), .ref (ad 62), .long x19, .long x20, .int q21, .int q22, .int q23]) := f18
      refine r_get kc8 X h 0 10 (by decide) rfl f24 (by decide) kv_170 rfl dX8_refused_27 ?_
      refine lv_iconst (v := 1) hx hb dX8_refused_30 (by decide) ?_
      obtain ⟨z27, e25⟩ : ∃ z : Int32, q22 + (1 : Int32) = z := ⟨_, rfl⟩
      refine o_iadd (z := z27) hx hb dX8_refused_31 e25 ?_
      refine r_put kc8 X hD h 0 10 (by decide) rfl f24 (by decide) kv_170 rfl rfl rfl (Nat.le_of_ble_eq_true rfl) dX8_refused_32 (fun H locs w28 e29 h => ?_)
      have f30 : w28 0 = .inr (6, [.ref (ad 1), .ref (ad 14), .ref (ad 27), .ref (ad 54), .ref (ad 55), .ref (ad 58), .ref (ad 62), .long x19, .long x20, .int q21, .int z27, .int q23]) := (congrFun e29 _).trans (va_up_self _ _ _)
      have ok31 : OK cI cB cZ cO ad w28 := OK.up ok e29 sN_mk
      have kx32 : KX w w28 := KX.up KX.rf e29 f24 rfl
      refine lv_goto (tgt := 48) hx hb dX8_refused_35 (by decide) ?_
      refine lv_iload_n hx hb dX8_refused_48 rfl (lv_at hl 1 rfl) ?_
      exact e_i X h hr hlk dX8_refused_49 ⟨ok31, kx32, rfl⟩
  · have hc1 : (q).toInt = (-2) := i_eq hc1 rfl rfl
    refine lv_aload_n hx hb dX8_refused_6 rfl (lv_at hl 0 rfl) ?_
    refine lv_dup hx hb dX8_refused_7 rfl ?_
    obtain ⟨x34, x35, q36, q37, q38, f33⟩ := (show sN ad (w 0) from ok 0 (by decide))
    have f39 : w 0 = .inr (6, [.ref (ad 1), .ref (ad 14), .ref (ad 27), .ref (ad 54), .ref (ad 55), .ref (ad 58), .ref (ad 62), .long x34, .long x35, .int q36, .int q37, .int q38]) := f33
    refine r_get kc8 X h 0 9 (by decide) rfl f39 (by decide) kv_171 rfl dX8_refused_8 ?_
    refine lv_iconst (v := 1) hx hb dX8_refused_11 (by decide) ?_
    obtain ⟨z42, e40⟩ : ∃ z : Int32, q36 + (1 : Int32) = z := ⟨_, rfl⟩
    refine o_iadd (z := z42) hx hb dX8_refused_12 e40 ?_
    refine r_put kc8 X hD h 0 9 (by decide) rfl f39 (by decide) kv_171 rfl rfl rfl (Nat.le_of_ble_eq_true rfl) dX8_refused_13 (fun H locs w43 e44 h => ?_)
    have f45 : w43 0 = .inr (6, [.ref (ad 1), .ref (ad 14), .ref (ad 27), .ref (ad 54), .ref (ad 55), .ref (ad 58), .ref (ad 62), .long x34, .long x35, .int z42, .int q37, .int q38]) := (congrFun e44 _).trans (va_up_self _ _ _)
    have ok46 : OK cI cB cZ cO ad w43 := OK.up ok e44 sN_mk
    have kx47 : KX w w43 := KX.up KX.rf e44 f39 rfl
    refine lv_goto (tgt := 48) hx hb dX8_refused_16 (by decide) ?_
    refine lv_iload_n hx hb dX8_refused_48 rfl (lv_at hl 1 rfl) ?_
    exact e_i X h hr hlk dX8_refused_49 ⟨ok46, kx47, rfl⟩

set_option maxHeartbeats 4000000 in
set_option maxRecDepth 100000 in
theorem c_counted (l : Launch) (G : va_G) (cI cB cZ cO : ClassId) (ad : Nat → Nat) (w : Nat → va_E)  (ok : OK cI cB cZ cO ad w) (u : Int32)   : NI l G (tyq cI cB cZ cO) yX8_counted cX8_counted 2 (some .int) 1 22 74 ad w [.ref (ad 0), .int u] (fun r w1 => w = w1 ∧ True) := by
  refine nk_i (own := "NoonShade") rfl (by decide) (Nat.le_of_ble_eq_true rfl) ?_
  intro p e s m below meth c ls X hD hN hr hlk h hl
  have hx := X.1.1
  have hb := X.1.2.1
  have hown := X.1.2.2.2.1
  have hts := X.1.2.2.2.2
  have hl : lv_has ls 2 [(0, .ref (ad 0)), (1, .int u)] := hl
  refine lv_iload_n hx hb dX8_counted_0 rfl (lv_at hl 1 rfl) ?_
  by_cases hs1 : 0 ≤ (u).toInt ∧ (u).toInt ≤ 8
  · have ha2 : u = 0 ∨ u = 1 ∨ u = 2 ∨ u = 3 ∨ u = 4 ∨ u = 5 ∨ u = 6 ∨ u = 7 ∨ u = 8 := by simp only [fa_eq]; have := hs1; simp only [show ((0 : Int32).toInt = 0) from rfl, show ((1 : Int32).toInt = 1) from rfl, show ((2 : Int32).toInt = 2) from rfl, show ((3 : Int32).toInt = 3) from rfl, show ((4 : Int32).toInt = 4) from rfl, show ((5 : Int32).toInt = 5) from rfl, show ((6 : Int32).toInt = 6) from rfl, show ((7 : Int32).toInt = 7) from rfl, show ((8 : Int32).toInt = 8) from rfl]; omega
    rcases ha2 with hq | hq | hq | hq | hq | hq | hq | hq | hq
    · refine lv_tableIn (tgt := 52) (off := 51) hx hb dX8_counted_1 (by rw [hq]; decide) (by rw [hq]; decide) (by rw [hq]; decide) (by decide) ?_
      refine lv_aload_n hx hb dX8_counted_52 rfl (lv_at hl 0 rfl) ?_
      obtain ⟨x4, x5, q6, q7, q8, f3⟩ := (show sN ad (w 0) from ok 0 (by decide))
      have f9 : w 0 = .inr (6, [.ref (ad 1), .ref (ad 14), .ref (ad 27), .ref (ad 54), .ref (ad 55), .ref (ad 58), .ref (ad 62), .long x4, .long x5, .int q6, .int q7, .int q8]) := f3
      refine r_get kc8 X h 0 0 (by decide) rfl f9 (by decide) kv_172 rfl dX8_counted_53 ?_
      obtain ⟨q11, q12, q13, q14, q15, f10, h16, h17, h18, h19⟩ := (show sI ad 1 (w 1) from ok 1 (by decide))
      have f20 : w 1 = .inr (1, [.int q11, .int q12, .int q13, .int q14, .int q15, .ref (ad 2), .ref (ad 3), .ref (ad 4), .ref (ad 5), .ref (ad 6), .ref (ad 7), .ref (ad 8), .ref (ad 10), .ref (ad 12)]) := f10
      refine r_get kc2 X h 1 3 (by decide) rfl f20 (by decide) kv_173 rfl dX8_counted_56 ?_
      exact e_i X h hr hlk dX8_counted_59 ⟨rfl, trivial⟩
    · refine lv_tableIn (tgt := 60) (off := 59) hx hb dX8_counted_1 (by rw [hq]; decide) (by rw [hq]; decide) (by rw [hq]; decide) (by decide) ?_
      refine lv_aload_n hx hb dX8_counted_60 rfl (lv_at hl 0 rfl) ?_
      obtain ⟨x22, x23, q24, q25, q26, f21⟩ := (show sN ad (w 0) from ok 0 (by decide))
      have f27 : w 0 = .inr (6, [.ref (ad 1), .ref (ad 14), .ref (ad 27), .ref (ad 54), .ref (ad 55), .ref (ad 58), .ref (ad 62), .long x22, .long x23, .int q24, .int q25, .int q26]) := f21
      refine r_get kc8 X h 0 0 (by decide) rfl f27 (by decide) kv_172 rfl dX8_counted_61 ?_
      obtain ⟨q29, q30, q31, q32, q33, f28, h34, h35, h36, h37⟩ := (show sI ad 1 (w 1) from ok 1 (by decide))
      have f38 : w 1 = .inr (1, [.int q29, .int q30, .int q31, .int q32, .int q33, .ref (ad 2), .ref (ad 3), .ref (ad 4), .ref (ad 5), .ref (ad 6), .ref (ad 7), .ref (ad 8), .ref (ad 10), .ref (ad 12)]) := f28
      refine r_get kc2 X h 1 4 (by decide) rfl f38 (by decide) kv_174 rfl dX8_counted_64 ?_
      exact e_i X h hr hlk dX8_counted_67 ⟨rfl, trivial⟩
    · refine lv_tableIn (tgt := 68) (off := 67) hx hb dX8_counted_1 (by rw [hq]; decide) (by rw [hq]; decide) (by rw [hq]; decide) (by decide) ?_
      refine lv_aload_n hx hb dX8_counted_68 rfl (lv_at hl 0 rfl) ?_
      obtain ⟨x40, x41, q42, q43, q44, f39⟩ := (show sN ad (w 0) from ok 0 (by decide))
      have f45 : w 0 = .inr (6, [.ref (ad 1), .ref (ad 14), .ref (ad 27), .ref (ad 54), .ref (ad 55), .ref (ad 58), .ref (ad 62), .long x40, .long x41, .int q42, .int q43, .int q44]) := f39
      refine r_get kc8 X h 0 0 (by decide) rfl f45 (by decide) kv_172 rfl dX8_counted_69 ?_
      obtain ⟨q50, q51, q52, q53, q54, f49, h55, h56, h57, h58⟩ := (show sI ad 1 (w 1) from ok 1 (by decide))
      have f59 : w 1 = .inr (1, [.int q50, .int q51, .int q52, .int q53, .int q54, .ref (ad 2), .ref (ad 3), .ref (ad 4), .ref (ad 5), .ref (ad 6), .ref (ad 7), .ref (ad 8), .ref (ad 10), .ref (ad 12)]) := f49
      refine n_Vi (na := 0) (As := []) (rest := []) X hD hN h rfl (c_coolInAll l G cI cB cZ cO ad w 1 (Or.inl rfl) ok   ) ⟨kv_175, kv_176, kv_177, kv_37, kv_178⟩ rfl ⟨by decide, by decide, by decide⟩ ⟨Nat.le_of_ble_eq_true rfl, Nat.le_of_ble_eq_true rfl⟩ ⟨Nat.zero_le _, Nat.zero_le _⟩ (by decide) f59 rfl rfl hl.1 rfl (Nat.le_of_ble_eq_true rfl) dX8_counted_72 (fun r46 w47 H locs hp48 h => ?_)
      obtain ⟨rfl, hr60⟩ := hp48
      exact e_i X h hr hlk dX8_counted_75 ⟨rfl, trivial⟩
    · refine lv_tableIn (tgt := 76) (off := 75) hx hb dX8_counted_1 (by rw [hq]; decide) (by rw [hq]; decide) (by rw [hq]; decide) (by decide) ?_
      refine lv_aload_n hx hb dX8_counted_76 rfl (lv_at hl 0 rfl) ?_
      obtain ⟨x62, x63, q64, q65, q66, f61⟩ := (show sN ad (w 0) from ok 0 (by decide))
      have f67 : w 0 = .inr (6, [.ref (ad 1), .ref (ad 14), .ref (ad 27), .ref (ad 54), .ref (ad 55), .ref (ad 58), .ref (ad 62), .long x62, .long x63, .int q64, .int q65, .int q66]) := f61
      refine r_get kc8 X h 0 0 (by decide) rfl f67 (by decide) kv_172 rfl dX8_counted_77 ?_
      obtain ⟨q69, q70, q71, q72, q73, f68, h74, h75, h76, h77⟩ := (show sI ad 1 (w 1) from ok 1 (by decide))
      have f78 : w 1 = .inr (1, [.int q69, .int q70, .int q71, .int q72, .int q73, .ref (ad 2), .ref (ad 3), .ref (ad 4), .ref (ad 5), .ref (ad 6), .ref (ad 7), .ref (ad 8), .ref (ad 10), .ref (ad 12)]) := f68
      refine r_get kc2 X h 1 0 (by decide) rfl f78 (by decide) kv_179 rfl dX8_counted_80 ?_
      exact e_i X h hr hlk dX8_counted_83 ⟨rfl, trivial⟩
    · refine lv_tableIn (tgt := 84) (off := 83) hx hb dX8_counted_1 (by rw [hq]; decide) (by rw [hq]; decide) (by rw [hq]; decide) (by decide) ?_
      refine lv_aload_n hx hb dX8_counted_84 rfl (lv_at hl 0 rfl) ?_
      obtain ⟨x80, x81, q82, q83, q84, f79⟩ := (show sN ad (w 0) from ok 0 (by decide))
      have f85 : w 0 = .inr (6, [.ref (ad 1), .ref (ad 14), .ref (ad 27), .ref (ad 54), .ref (ad 55), .ref (ad 58), .ref (ad 62), .long x80, .long x81, .int q82, .int q83, .int q84]) := f79
      refine r_get kc8 X h 0 0 (by decide) rfl f85 (by decide) kv_172 rfl dX8_counted_85 ?_
      obtain ⟨q87, q88, q89, q90, q91, f86, h92, h93, h94, h95⟩ := (show sI ad 1 (w 1) from ok 1 (by decide))
      have f96 : w 1 = .inr (1, [.int q87, .int q88, .int q89, .int q90, .int q91, .ref (ad 2), .ref (ad 3), .ref (ad 4), .ref (ad 5), .ref (ad 6), .ref (ad 7), .ref (ad 8), .ref (ad 10), .ref (ad 12)]) := f86
      refine r_get kc2 X h 1 2 (by decide) rfl f96 (by decide) kv_180 rfl dX8_counted_88 ?_
      refine n_Si (na := 1) (As := [.int q89]) (rest := []) X hD hN h (c_bitCount l G cI cB cZ cO ad w   q89  ) ⟨kv_181, kv_182, kv_183, kv_184⟩ ⟨by decide, by decide, by decide⟩ ⟨Nat.le_of_ble_eq_true rfl, Nat.le_of_ble_eq_true rfl⟩ ⟨Nat.zero_le _, Nat.zero_le _⟩ rfl hl.1 rfl (Nat.le_of_ble_eq_true rfl) dX8_counted_91 (fun r97 w98 H locs hp99 h => ?_)
      obtain ⟨rfl, hr100⟩ := hp99
      exact e_i X h hr hlk dX8_counted_94 ⟨rfl, trivial⟩
    · refine lv_tableIn (tgt := 95) (off := 94) hx hb dX8_counted_1 (by rw [hq]; decide) (by rw [hq]; decide) (by rw [hq]; decide) (by decide) ?_
      refine lv_aload_n hx hb dX8_counted_95 rfl (lv_at hl 0 rfl) ?_
      obtain ⟨x102, x103, q104, q105, q106, f101⟩ := (show sN ad (w 0) from ok 0 (by decide))
      have f107 : w 0 = .inr (6, [.ref (ad 1), .ref (ad 14), .ref (ad 27), .ref (ad 54), .ref (ad 55), .ref (ad 58), .ref (ad 62), .long x102, .long x103, .int q104, .int q105, .int q106]) := f101
      refine r_get kc8 X h 0 0 (by decide) rfl f107 (by decide) kv_172 rfl dX8_counted_96 ?_
      obtain ⟨q109, q110, q111, q112, q113, f108, h114, h115, h116, h117⟩ := (show sI ad 1 (w 1) from ok 1 (by decide))
      have f118 : w 1 = .inr (1, [.int q109, .int q110, .int q111, .int q112, .int q113, .ref (ad 2), .ref (ad 3), .ref (ad 4), .ref (ad 5), .ref (ad 6), .ref (ad 7), .ref (ad 8), .ref (ad 10), .ref (ad 12)]) := f108
      refine r_get kc2 X h 1 1 (by decide) rfl f118 (by decide) kv_185 rfl dX8_counted_99 ?_
      exact e_i X h hr hlk dX8_counted_102 ⟨rfl, trivial⟩
    · refine lv_tableIn (tgt := 103) (off := 102) hx hb dX8_counted_1 (by rw [hq]; decide) (by rw [hq]; decide) (by rw [hq]; decide) (by decide) ?_
      refine lv_aload_n hx hb dX8_counted_103 rfl (lv_at hl 0 rfl) ?_
      obtain ⟨x120, x121, q122, q123, q124, f119⟩ := (show sN ad (w 0) from ok 0 (by decide))
      have f125 : w 0 = .inr (6, [.ref (ad 1), .ref (ad 14), .ref (ad 27), .ref (ad 54), .ref (ad 55), .ref (ad 58), .ref (ad 62), .long x120, .long x121, .int q122, .int q123, .int q124]) := f119
      refine r_get kc8 X h 0 0 (by decide) rfl f125 (by decide) kv_172 rfl dX8_counted_104 ?_
      obtain ⟨q127, q128, q129, q130, q131, f126, h132, h133, h134, h135⟩ := (show sI ad 1 (w 1) from ok 1 (by decide))
      have f136 : w 1 = .inr (1, [.int q127, .int q128, .int q129, .int q130, .int q131, .ref (ad 2), .ref (ad 3), .ref (ad 4), .ref (ad 5), .ref (ad 6), .ref (ad 7), .ref (ad 8), .ref (ad 10), .ref (ad 12)]) := f126
      refine r_get kc2 X h 1 11 (by decide) rfl f136 (by decide) kv_186 rfl dX8_counted_107 ?_
      obtain ⟨z138, f137, h139, h140⟩ := (show sR ad 4 9 6 (w 8) from ok 8 (by decide))
      have f141 : w 8 = .inr (4, [.ref (ad 9), .int z138]) := f137
      refine r_get kc6 X h 8 1 (by decide) rfl f141 (by decide) kv_187 rfl dX8_counted_110 ?_
      exact e_i X h hr hlk dX8_counted_113 ⟨rfl, trivial⟩
    · refine lv_tableIn (tgt := 114) (off := 113) hx hb dX8_counted_1 (by rw [hq]; decide) (by rw [hq]; decide) (by rw [hq]; decide) (by decide) ?_
      refine lv_aload_n hx hb dX8_counted_114 rfl (lv_at hl 0 rfl) ?_
      obtain ⟨x143, x144, q145, q146, q147, f142⟩ := (show sN ad (w 0) from ok 0 (by decide))
      have f148 : w 0 = .inr (6, [.ref (ad 1), .ref (ad 14), .ref (ad 27), .ref (ad 54), .ref (ad 55), .ref (ad 58), .ref (ad 62), .long x143, .long x144, .int q145, .int q146, .int q147]) := f142
      refine r_get kc8 X h 0 0 (by decide) rfl f148 (by decide) kv_172 rfl dX8_counted_115 ?_
      obtain ⟨q150, q151, q152, q153, q154, f149, h155, h156, h157, h158⟩ := (show sI ad 1 (w 1) from ok 1 (by decide))
      have f159 : w 1 = .inr (1, [.int q150, .int q151, .int q152, .int q153, .int q154, .ref (ad 2), .ref (ad 3), .ref (ad 4), .ref (ad 5), .ref (ad 6), .ref (ad 7), .ref (ad 8), .ref (ad 10), .ref (ad 12)]) := f149
      refine r_get kc2 X h 1 12 (by decide) rfl f159 (by decide) kv_188 rfl dX8_counted_118 ?_
      obtain ⟨z161, f160, h162, h163⟩ := (show sR ad 4 11 6 (w 10) from ok 10 (by decide))
      have f164 : w 10 = .inr (4, [.ref (ad 11), .int z161]) := f160
      refine r_get kc6 X h 10 1 (by decide) rfl f164 (by decide) kv_187 rfl dX8_counted_121 ?_
      exact e_i X h hr hlk dX8_counted_124 ⟨rfl, trivial⟩
    · refine lv_tableIn (tgt := 125) (off := 124) hx hb dX8_counted_1 (by rw [hq]; decide) (by rw [hq]; decide) (by rw [hq]; decide) (by decide) ?_
      refine lv_aload_n hx hb dX8_counted_125 rfl (lv_at hl 0 rfl) ?_
      obtain ⟨x166, x167, q168, q169, q170, f165⟩ := (show sN ad (w 0) from ok 0 (by decide))
      have f171 : w 0 = .inr (6, [.ref (ad 1), .ref (ad 14), .ref (ad 27), .ref (ad 54), .ref (ad 55), .ref (ad 58), .ref (ad 62), .long x166, .long x167, .int q168, .int q169, .int q170]) := f165
      refine r_get kc8 X h 0 0 (by decide) rfl f171 (by decide) kv_172 rfl dX8_counted_126 ?_
      obtain ⟨q173, q174, q175, q176, q177, f172, h178, h179, h180, h181⟩ := (show sI ad 1 (w 1) from ok 1 (by decide))
      have f182 : w 1 = .inr (1, [.int q173, .int q174, .int q175, .int q176, .int q177, .ref (ad 2), .ref (ad 3), .ref (ad 4), .ref (ad 5), .ref (ad 6), .ref (ad 7), .ref (ad 8), .ref (ad 10), .ref (ad 12)]) := f172
      refine r_get kc2 X h 1 13 (by decide) rfl f182 (by decide) kv_189 rfl dX8_counted_129 ?_
      obtain ⟨z184, f183, h185, h186⟩ := (show sR ad 2 13 8 (w 12) from ok 12 (by decide))
      have f187 : w 12 = .inr (2, [.ref (ad 13), .int z184]) := f183
      refine r_get kc4 X h 12 1 (by decide) rfl f187 (by decide) kv_190 rfl dX8_counted_132 ?_
      exact e_i X h hr hlk dX8_counted_135 ⟨rfl, trivial⟩
  · refine lv_tableOut (tgt := 136) hx hb dX8_counted_1 (by omega) (by decide) ?_
    refine lv_aload_n hx hb dX8_counted_136 rfl (lv_at hl 0 rfl) ?_
    obtain ⟨x189, x190, q191, q192, q193, f188⟩ := (show sN ad (w 0) from ok 0 (by decide))
    have f194 : w 0 = .inr (6, [.ref (ad 1), .ref (ad 14), .ref (ad 27), .ref (ad 54), .ref (ad 55), .ref (ad 58), .ref (ad 62), .long x189, .long x190, .int q191, .int q192, .int q193]) := f188
    refine r_get kc8 X h 0 4 (by decide) rfl f194 (by decide) kv_191 rfl dX8_counted_137 ?_
    obtain ⟨t196, t197, t198, t199, t200, f195, h201, h202, h203, h204⟩ := (show sT ad (w 55) from ok 55 (by decide))
    have f205 : w 55 = .inr (5, [.ref (ad 56), .ref (ad 57), .int t196, .int t197, .int t198, .int t199, .int t200]) := f195
    refine r_get kc7 X h 55 2 (by decide) rfl f205 (by decide) kv_192 rfl dX8_counted_140 ?_
    exact e_i X h hr hlk dX8_counted_143 ⟨rfl, trivial⟩

set_option maxHeartbeats 4000000 in
set_option maxRecDepth 100000 in
theorem c_fewestLadles (l : Launch) (G : va_G) (cI cB cZ cO : ClassId) (ad : Nat → Nat) (w : Nat → va_E)  (ok : OK cI cB cZ cO ad w) (j : Int32) (t : Int32) (x : Int32) (hl_j : 0 ≤ j.toInt) (hh_j : j.toInt ≤ 3)  : NI l G (tyq cI cB cZ cO) yX8_fewestLadles cX8_fewestLadles 7 (some .int) 4 90 74 ad w [.ref (ad 0), .int j, .int t, .int x] (fun r w1 => w = w1 ∧ True) := by
  refine nk_i (own := "NoonShade") rfl (by decide) (Nat.le_of_ble_eq_true rfl) ?_
  intro p e s m below meth c ls X hD hN hr hlk h hl
  have hx := X.1.1
  have hb := X.1.2.1
  have hown := X.1.2.2.2.1
  have hts := X.1.2.2.2.2
  have hl : lv_has ls 7 [(0, .ref (ad 0)), (1, .int j), (2, .int t), (3, .int x)] := hl
  refine lv_aload_n hx hb dX8_fewestLadles_0 rfl (lv_at hl 0 rfl) ?_
  obtain ⟨x2, x3, q4, q5, q6, f1⟩ := (show sN ad (w 0) from ok 0 (by decide))
  have f7 : w 0 = .inr (6, [.ref (ad 1), .ref (ad 14), .ref (ad 27), .ref (ad 54), .ref (ad 55), .ref (ad 58), .ref (ad 62), .long x2, .long x3, .int q4, .int q5, .int q6]) := f1
  refine r_get kc8 X h 0 0 (by decide) rfl f7 (by decide) kv_172 rfl dX8_fewestLadles_1 ?_
  obtain ⟨q9, q10, q11, q12, q13, f8, h14, h15, h16, h17⟩ := (show sI ad 1 (w 1) from ok 1 (by decide))
  have f18 : w 1 = .inr (1, [.int q9, .int q10, .int q11, .int q12, .int q13, .ref (ad 2), .ref (ad 3), .ref (ad 4), .ref (ad 5), .ref (ad 6), .ref (ad 7), .ref (ad 8), .ref (ad 10), .ref (ad 12)]) := f8
  refine r_get kc2 X h 1 9 (by decide) rfl f18 (by decide) kv_193 rfl dX8_fewestLadles_4 ?_
  refine lv_iload_n hx hb dX8_fewestLadles_7 rfl (lv_at hl 1 rfl) ?_
  obtain ⟨g20, f19, p21⟩ := (show sA cI 4 (rgA 0 60) (w 6) from ok 6 (by decide))
  have f22 : w 6 = .inl (cI, 4, .inl g20) := f19
  obtain ⟨v23, e24⟩ : ∃ z : Int32, g20 (j).toNatClampNeg = z := ⟨_, rfl⟩
  have h25 := rgA_rd p21 e24
  refine o_iald (v := v23) X h 6 0 (by decide) rfl f22 rfl (in_of (by omega) (by omega)) e24 dX8_fewestLadles_8 ?_
  refine lv_if_le (tgt := 27) hx hb dX8_fewestLadles_9 (by decide) (fun hc26 => ?_) (fun hc26 => ?_)
  · have hc26 : (v23).toInt ≤ 0 := i_le hc26 rfl rfl
    refine lv_iconst (v := (-1)) hx hb dX8_fewestLadles_27 (by decide) ?_
    refine lv_istore (lv' := [(4, .int (-1)), (0, .ref (ad 0)), (1, .int j), (2, .int t), (3, .int x)]) hx hb dX8_fewestLadles_28 hl (by decide) rfl (fun ls hl => ?_)
    refine lv_iconst (v := 0) hx hb dX8_fewestLadles_30 (by decide) ?_
    refine lv_istore (lv' := [(5, .int 0), (4, .int (-1)), (0, .ref (ad 0)), (1, .int j), (2, .int t), (3, .int x)]) hx hb dX8_fewestLadles_31 hl (by decide) rfl (fun ls hl => ?_)
    have hloop29 : ∀ (d30 : Nat) (L27 : Int32) (L28 : Int32) (H : Heap) (locs : List Loc) (ls : Array Slot), 0 ≤ L27.toInt → L27.toInt ≤ 128 → 128 - L27.toInt < (d30 : Int) → St G 74 ad (wA 74 ad s.heap.size) s.heap w H locs → lv_has ls 7 [(5, .int L27), (4, .int L28), (0, .ref (ad 0)), (1, .int j), (2, .int t), (3, .int x)] → W p l e { frames := 4, cells := 0, slots := 0, locals := 90 } s m [.ref (ad 0), .int j, .int t, .int x].toArray below meth c H locs 0 0 (MQ below (va_Qi (fun r w1 => w = w1 ∧ True) (Aft G 74 ad) (wA 74 ad s.heap.size)) [.ref (ad 0), .int j, .int t, .int x].toArray s 0 0 (wA 74 ad s.heap.size)) (F0 m 33 ls []) := by
      intro d30
      induction d30 with
      | zero => intro L27 L28 H locs ls hi33 hi34 hm32 h hl; exfalso; omega
      | succ d30 ih31 =>
        intro L27 L28 H locs ls hi33 hi34 hm32 h hl
        refine lv_iload hx hb dX8_fewestLadles_33 (lv_at hl 0 rfl) ?_
        refine lv_iconst (v := 1) hx hb dX8_fewestLadles_35 (by decide) ?_
        refine lv_aload_n hx hb dX8_fewestLadles_36 rfl (lv_at hl 2 rfl) ?_
        refine r_get kc8 X h 0 0 (by decide) rfl f7 (by decide) kv_172 rfl dX8_fewestLadles_37 ?_
        refine r_get kc2 X h 1 3 (by decide) rfl f18 (by decide) kv_173 rfl dX8_fewestLadles_40 ?_
        obtain ⟨z40, e38, t39, t39b⟩ := x_shl7 (i := q12) (by omega) (by omega)
        refine o_ishl (z := z40) hx hb dX8_fewestLadles_43 e38 ?_
        refine lv_icmp_ge (tgt := 124) hx hb dX8_fewestLadles_44 (by decide) (fun hc41 => ?_) (fun hc41 => ?_)
        · have hc41 : (z40).toInt ≤ (L27).toInt := i_le hc41 rfl rfl
          refine lv_iload hx hb dX8_fewestLadles_124 (lv_at hl 1 rfl) ?_
          exact e_i X h hr hlk dX8_fewestLadles_126 ⟨rfl, trivial⟩
        · have hc41 : ¬ (z40).toInt ≤ (L27).toInt := i_nle hc41 rfl rfl
          refine lv_iload hx hb dX8_fewestLadles_47 (lv_at hl 1 rfl) ?_
          refine lv_iconst (v := (-1)) hx hb dX8_fewestLadles_49 (by decide) ?_
          refine lv_icmp_eq (tgt := 66) hx hb dX8_fewestLadles_50 (by decide) (fun hc42 => ?_) (fun hc42 => ?_)
          · have hc42 : (L28).toInt = (-1) := i_eq hc42 rfl rfl
            refine lv_iconst (v := 1) hx hb dX8_fewestLadles_66 (by decide) ?_
            refine lv_goto (tgt := 71) hx hb dX8_fewestLadles_67 (by decide) ?_
            refine lv_istore (lv' := [(6, .int 1), (5, .int L27), (4, .int L28), (0, .ref (ad 0)), (1, .int j), (2, .int t), (3, .int x)]) hx hb dX8_fewestLadles_71 hl (by decide) rfl (fun ls hl => ?_)
            refine lv_iload hx hb dX8_fewestLadles_73 (lv_at hl 0 rfl) ?_
            refine lv_if_eq (tgt := 118) hx hb dX8_fewestLadles_75 (by decide) (fun hc => absurd hc (by decide)) (fun _ => ?_)
            refine lv_aload_n hx hb dX8_fewestLadles_78 rfl (lv_at hl 3 rfl) ?_
            refine r_get kc8 X h 0 0 (by decide) rfl f7 (by decide) kv_172 rfl dX8_fewestLadles_79 ?_
            refine lv_iload hx hb dX8_fewestLadles_82 (lv_at hl 1 rfl) ?_
            refine lv_iload_n hx hb dX8_fewestLadles_84 rfl (lv_at hl 5 rfl) ?_
            refine n_Vi (na := 2) (As := [.int L27, .int t]) (rest := []) X hD hN h rfl (c_mayDraw l G cI cB cZ cO ad w 1 (Or.inl rfl) ok L27 t  ) ⟨kv_194, kv_195, kv_196, kv_37, kv_197⟩ rfl ⟨by decide, by decide, by decide⟩ ⟨Nat.le_of_ble_eq_true rfl, Nat.le_of_ble_eq_true rfl⟩ ⟨Nat.zero_le _, Nat.zero_le _⟩ (by decide) f18 rfl rfl hl.1 rfl (Nat.le_of_ble_eq_true rfl) dX8_fewestLadles_85 (fun r43 w44 H locs hp45 h => ?_)
            obtain ⟨rfl, hr46⟩ := hp45
            rcases hr46 with rfl | rfl
            · refine lv_if_eq (tgt := 118) hx hb dX8_fewestLadles_88 (by decide) (fun hc => absurd hc (by decide)) (fun _ => ?_)
              refine lv_aload_n hx hb dX8_fewestLadles_91 rfl (lv_at hl 3 rfl) ?_
              refine r_get kc8 X h 0 0 (by decide) rfl f7 (by decide) kv_172 rfl dX8_fewestLadles_92 ?_
              refine r_get kc2 X h 1 9 (by decide) rfl f18 (by decide) kv_193 rfl dX8_fewestLadles_95 ?_
              refine lv_iload_n hx hb dX8_fewestLadles_98 rfl (lv_at hl 4 rfl) ?_
              refine o_iald (v := v23) X h 6 0 (by decide) rfl f22 rfl (in_of (by omega) (by omega)) e24 dX8_fewestLadles_99 ?_
              refine lv_aload_n hx hb dX8_fewestLadles_100 rfl (lv_at hl 3 rfl) ?_
              refine r_get kc8 X h 0 0 (by decide) rfl f7 (by decide) kv_172 rfl dX8_fewestLadles_101 ?_
              refine lv_iload hx hb dX8_fewestLadles_104 (lv_at hl 1 rfl) ?_
              refine n_Vi (na := 1) (As := [.int L27]) (rest := [.int v23]) X hD hN h rfl (c_givenBy l G cI cB cZ cO ad w 1 (Or.inl rfl) ok L27  ) ⟨kv_198, kv_199, kv_200, kv_37, kv_201⟩ rfl ⟨by decide, by decide, by decide⟩ ⟨Nat.le_of_ble_eq_true rfl, Nat.le_of_ble_eq_true rfl⟩ ⟨Nat.zero_le _, Nat.zero_le _⟩ (by decide) f18 rfl rfl hl.1 rfl (Nat.le_of_ble_eq_true rfl) dX8_fewestLadles_106 (fun r47 w48 H locs hp49 h => ?_)
              obtain ⟨rfl, hr50⟩ := hp49
              obtain ⟨z53, e51⟩ : ∃ z : Int32, v23 + r47 = z := ⟨_, rfl⟩
              refine o_iadd (z := z53) hx hb dX8_fewestLadles_109 e51 ?_
              refine lv_iload_n hx hb dX8_fewestLadles_110 rfl (lv_at hl 6 rfl) ?_
              refine lv_icmp_lt (tgt := 118) hx hb dX8_fewestLadles_111 (by decide) (fun hc54 => ?_) (fun hc54 => ?_)
              · have hc54 : (z53).toInt < (x).toInt := i_lt hc54 rfl rfl
                obtain ⟨z55, e56, t57⟩ := x_add (x := L27) (y := 1) (a := L27.toInt) (b := 1) rfl rfl (by omega) (by omega)
                refine lv_iinc (v := z55) (lv' := [(5, .int z55), (6, .int 1), (4, .int L28), (0, .ref (ad 0)), (1, .int j), (2, .int t), (3, .int x)]) hx hb dX8_fewestLadles_118 hl (k := 1) rfl e56 (by decide) rfl (fun ls hl => ?_)
                refine lv_goto (tgt := 33) hx hb dX8_fewestLadles_121 (by decide) ?_
                exact ih31  z55 L28  _ _ _ (by omega) (by omega)  (by omega) h (lv_sub hl [0, 2, 3, 4, 5, 6] rfl)
              · have hc54 : ¬ (z53).toInt < (x).toInt := i_nlt hc54 rfl rfl
                refine lv_iload hx hb dX8_fewestLadles_114 (lv_at hl 1 rfl) ?_
                refine lv_istore (lv' := [(4, .int L27), (6, .int 1), (5, .int L27), (0, .ref (ad 0)), (1, .int j), (2, .int t), (3, .int x)]) hx hb dX8_fewestLadles_116 hl (by decide) rfl (fun ls hl => ?_)
                obtain ⟨z58, e59, t60⟩ := x_add (x := L27) (y := 1) (a := L27.toInt) (b := 1) rfl rfl (by omega) (by omega)
                refine lv_iinc (v := z58) (lv' := [(5, .int z58), (4, .int L27), (6, .int 1), (0, .ref (ad 0)), (1, .int j), (2, .int t), (3, .int x)]) hx hb dX8_fewestLadles_118 hl (k := 2) rfl e59 (by decide) rfl (fun ls hl => ?_)
                refine lv_goto (tgt := 33) hx hb dX8_fewestLadles_121 (by decide) ?_
                exact ih31  z58 L27  _ _ _ (by omega) (by omega)  (by omega) h (lv_sub hl [0, 1, 3, 4, 5, 6] rfl)
            · refine lv_if_eq (tgt := 118) hx hb dX8_fewestLadles_88 (by decide) (fun _ => ?_) (fun hc => absurd (by decide) hc)
              obtain ⟨z61, e62, t63⟩ := x_add (x := L27) (y := 1) (a := L27.toInt) (b := 1) rfl rfl (by omega) (by omega)
              refine lv_iinc (v := z61) (lv' := [(5, .int z61), (6, .int 1), (4, .int L28), (0, .ref (ad 0)), (1, .int j), (2, .int t), (3, .int x)]) hx hb dX8_fewestLadles_118 hl (k := 1) rfl e62 (by decide) rfl (fun ls hl => ?_)
              refine lv_goto (tgt := 33) hx hb dX8_fewestLadles_121 (by decide) ?_
              exact ih31  z61 L28  _ _ _ (by omega) (by omega)  (by omega) h (lv_sub hl [0, 2, 3, 4, 5, 6] rfl)
          · have hc42 : ¬ (L28).toInt = (-1) := i_ne hc42 rfl rfl
            refine lv_iload hx hb dX8_fewestLadles_53 (lv_at hl 0 rfl) ?_
            refine n_Si (na := 1) (As := [.int L27]) (rest := []) X hD hN h (c_bitCount l G cI cB cZ cO ad w   L27  ) ⟨kv_181, kv_182, kv_183, kv_184⟩ ⟨by decide, by decide, by decide⟩ ⟨Nat.le_of_ble_eq_true rfl, Nat.le_of_ble_eq_true rfl⟩ ⟨Nat.zero_le _, Nat.zero_le _⟩ rfl hl.1 rfl (Nat.le_of_ble_eq_true rfl) dX8_fewestLadles_55 (fun r64 w65 H locs hp66 h => ?_)
            obtain ⟨rfl, hr67⟩ := hp66
            refine lv_iload hx hb dX8_fewestLadles_58 (lv_at hl 1 rfl) ?_
            refine n_Si (na := 1) (As := [.int L28]) (rest := [.int r64]) X hD hN h (c_bitCount l G cI cB cZ cO ad w   L28  ) ⟨kv_181, kv_182, kv_183, kv_184⟩ ⟨by decide, by decide, by decide⟩ ⟨Nat.le_of_ble_eq_true rfl, Nat.le_of_ble_eq_true rfl⟩ ⟨Nat.zero_le _, Nat.zero_le _⟩ rfl hl.1 rfl (Nat.le_of_ble_eq_true rfl) dX8_fewestLadles_60 (fun r68 w69 H locs hp70 h => ?_)
            obtain ⟨rfl, hr71⟩ := hp70
            refine lv_icmp_ge (tgt := 70) hx hb dX8_fewestLadles_63 (by decide) (fun hc72 => ?_) (fun hc72 => ?_)
            · have hc72 : (r68).toInt ≤ (r64).toInt := i_le hc72 rfl rfl
              refine lv_iconst (v := 0) hx hb dX8_fewestLadles_70 (by decide) ?_
              refine lv_istore (lv' := [(6, .int 0), (5, .int L27), (4, .int L28), (0, .ref (ad 0)), (1, .int j), (2, .int t), (3, .int x)]) hx hb dX8_fewestLadles_71 hl (by decide) rfl (fun ls hl => ?_)
              refine lv_iload hx hb dX8_fewestLadles_73 (lv_at hl 0 rfl) ?_
              refine lv_if_eq (tgt := 118) hx hb dX8_fewestLadles_75 (by decide) (fun _ => ?_) (fun hc => absurd (by decide) hc)
              obtain ⟨z73, e74, t75⟩ := x_add (x := L27) (y := 1) (a := L27.toInt) (b := 1) rfl rfl (by omega) (by omega)
              refine lv_iinc (v := z73) (lv' := [(5, .int z73), (6, .int 0), (4, .int L28), (0, .ref (ad 0)), (1, .int j), (2, .int t), (3, .int x)]) hx hb dX8_fewestLadles_118 hl (k := 1) rfl e74 (by decide) rfl (fun ls hl => ?_)
              refine lv_goto (tgt := 33) hx hb dX8_fewestLadles_121 (by decide) ?_
              exact ih31  z73 L28  _ _ _ (by omega) (by omega)  (by omega) h (lv_sub hl [0, 2, 3, 4, 5, 6] rfl)
            · have hc72 : ¬ (r68).toInt ≤ (r64).toInt := i_nle hc72 rfl rfl
              refine lv_iconst (v := 1) hx hb dX8_fewestLadles_66 (by decide) ?_
              refine lv_goto (tgt := 71) hx hb dX8_fewestLadles_67 (by decide) ?_
              refine lv_istore (lv' := [(6, .int 1), (5, .int L27), (4, .int L28), (0, .ref (ad 0)), (1, .int j), (2, .int t), (3, .int x)]) hx hb dX8_fewestLadles_71 hl (by decide) rfl (fun ls hl => ?_)
              refine lv_iload hx hb dX8_fewestLadles_73 (lv_at hl 0 rfl) ?_
              refine lv_if_eq (tgt := 118) hx hb dX8_fewestLadles_75 (by decide) (fun hc => absurd hc (by decide)) (fun _ => ?_)
              refine lv_aload_n hx hb dX8_fewestLadles_78 rfl (lv_at hl 3 rfl) ?_
              refine r_get kc8 X h 0 0 (by decide) rfl f7 (by decide) kv_172 rfl dX8_fewestLadles_79 ?_
              refine lv_iload hx hb dX8_fewestLadles_82 (lv_at hl 1 rfl) ?_
              refine lv_iload_n hx hb dX8_fewestLadles_84 rfl (lv_at hl 5 rfl) ?_
              refine n_Vi (na := 2) (As := [.int L27, .int t]) (rest := []) X hD hN h rfl (c_mayDraw l G cI cB cZ cO ad w 1 (Or.inl rfl) ok L27 t  ) ⟨kv_194, kv_195, kv_196, kv_37, kv_197⟩ rfl ⟨by decide, by decide, by decide⟩ ⟨Nat.le_of_ble_eq_true rfl, Nat.le_of_ble_eq_true rfl⟩ ⟨Nat.zero_le _, Nat.zero_le _⟩ (by decide) f18 rfl rfl hl.1 rfl (Nat.le_of_ble_eq_true rfl) dX8_fewestLadles_85 (fun r76 w77 H locs hp78 h => ?_)
              obtain ⟨rfl, hr79⟩ := hp78
              rcases hr79 with rfl | rfl
              · refine lv_if_eq (tgt := 118) hx hb dX8_fewestLadles_88 (by decide) (fun hc => absurd hc (by decide)) (fun _ => ?_)
                refine lv_aload_n hx hb dX8_fewestLadles_91 rfl (lv_at hl 3 rfl) ?_
                refine r_get kc8 X h 0 0 (by decide) rfl f7 (by decide) kv_172 rfl dX8_fewestLadles_92 ?_
                refine r_get kc2 X h 1 9 (by decide) rfl f18 (by decide) kv_193 rfl dX8_fewestLadles_95 ?_
                refine lv_iload_n hx hb dX8_fewestLadles_98 rfl (lv_at hl 4 rfl) ?_
                refine o_iald (v := v23) X h 6 0 (by decide) rfl f22 rfl (in_of (by omega) (by omega)) e24 dX8_fewestLadles_99 ?_
                refine lv_aload_n hx hb dX8_fewestLadles_100 rfl (lv_at hl 3 rfl) ?_
                refine r_get kc8 X h 0 0 (by decide) rfl f7 (by decide) kv_172 rfl dX8_fewestLadles_101 ?_
                refine lv_iload hx hb dX8_fewestLadles_104 (lv_at hl 1 rfl) ?_
                refine n_Vi (na := 1) (As := [.int L27]) (rest := [.int v23]) X hD hN h rfl (c_givenBy l G cI cB cZ cO ad w 1 (Or.inl rfl) ok L27  ) ⟨kv_198, kv_199, kv_200, kv_37, kv_201⟩ rfl ⟨by decide, by decide, by decide⟩ ⟨Nat.le_of_ble_eq_true rfl, Nat.le_of_ble_eq_true rfl⟩ ⟨Nat.zero_le _, Nat.zero_le _⟩ (by decide) f18 rfl rfl hl.1 rfl (Nat.le_of_ble_eq_true rfl) dX8_fewestLadles_106 (fun r80 w81 H locs hp82 h => ?_)
                obtain ⟨rfl, hr83⟩ := hp82
                obtain ⟨z86, e84⟩ : ∃ z : Int32, v23 + r80 = z := ⟨_, rfl⟩
                refine o_iadd (z := z86) hx hb dX8_fewestLadles_109 e84 ?_
                refine lv_iload_n hx hb dX8_fewestLadles_110 rfl (lv_at hl 6 rfl) ?_
                refine lv_icmp_lt (tgt := 118) hx hb dX8_fewestLadles_111 (by decide) (fun hc87 => ?_) (fun hc87 => ?_)
                · have hc87 : (z86).toInt < (x).toInt := i_lt hc87 rfl rfl
                  obtain ⟨z88, e89, t90⟩ := x_add (x := L27) (y := 1) (a := L27.toInt) (b := 1) rfl rfl (by omega) (by omega)
                  refine lv_iinc (v := z88) (lv' := [(5, .int z88), (6, .int 1), (4, .int L28), (0, .ref (ad 0)), (1, .int j), (2, .int t), (3, .int x)]) hx hb dX8_fewestLadles_118 hl (k := 1) rfl e89 (by decide) rfl (fun ls hl => ?_)
                  refine lv_goto (tgt := 33) hx hb dX8_fewestLadles_121 (by decide) ?_
                  exact ih31  z88 L28  _ _ _ (by omega) (by omega)  (by omega) h (lv_sub hl [0, 2, 3, 4, 5, 6] rfl)
                · have hc87 : ¬ (z86).toInt < (x).toInt := i_nlt hc87 rfl rfl
                  refine lv_iload hx hb dX8_fewestLadles_114 (lv_at hl 1 rfl) ?_
                  refine lv_istore (lv' := [(4, .int L27), (6, .int 1), (5, .int L27), (0, .ref (ad 0)), (1, .int j), (2, .int t), (3, .int x)]) hx hb dX8_fewestLadles_116 hl (by decide) rfl (fun ls hl => ?_)
                  obtain ⟨z91, e92, t93⟩ := x_add (x := L27) (y := 1) (a := L27.toInt) (b := 1) rfl rfl (by omega) (by omega)
                  refine lv_iinc (v := z91) (lv' := [(5, .int z91), (4, .int L27), (6, .int 1), (0, .ref (ad 0)), (1, .int j), (2, .int t), (3, .int x)]) hx hb dX8_fewestLadles_118 hl (k := 2) rfl e92 (by decide) rfl (fun ls hl => ?_)
                  refine lv_goto (tgt := 33) hx hb dX8_fewestLadles_121 (by decide) ?_
                  exact ih31  z91 L27  _ _ _ (by omega) (by omega)  (by omega) h (lv_sub hl [0, 1, 3, 4, 5, 6] rfl)
              · refine lv_if_eq (tgt := 118) hx hb dX8_fewestLadles_88 (by decide) (fun _ => ?_) (fun hc => absurd (by decide) hc)
                obtain ⟨z94, e95, t96⟩ := x_add (x := L27) (y := 1) (a := L27.toInt) (b := 1) rfl rfl (by omega) (by omega)
                refine lv_iinc (v := z94) (lv' := [(5, .int z94), (6, .int 1), (4, .int L28), (0, .ref (ad 0)), (1, .int j), (2, .int t), (3, .int x)]) hx hb dX8_fewestLadles_118 hl (k := 1) rfl e95 (by decide) rfl (fun ls hl => ?_)
                refine lv_goto (tgt := 33) hx hb dX8_fewestLadles_121 (by decide) ?_
                exact ih31  z94 L28  _ _ _ (by omega) (by omega)  (by omega) h (lv_sub hl [0, 2, 3, 4, 5, 6] rfl)
    exact hloop29 129 (0 : Int32) ((-1) : Int32)  _ _ _ (by have q0 : (0 : Int32).toInt = 0 := rfl; have q1 : ((-1) : Int32).toInt = (-1) := rfl; omega) (by have q0 : (0 : Int32).toInt = 0 := rfl; have q1 : ((-1) : Int32).toInt = (-1) := rfl; omega)  (by have q0 : (0 : Int32).toInt = 0 := rfl; have q1 : ((-1) : Int32).toInt = (-1) := rfl; omega) h (lv_sub hl [0, 1, 2, 3, 4, 5] rfl)
  · have hc26 : ¬ (v23).toInt ≤ 0 := i_nle hc26 rfl rfl
    refine lv_aload_n hx hb dX8_fewestLadles_12 rfl (lv_at hl 0 rfl) ?_
    refine r_get kc8 X h 0 0 (by decide) rfl f7 (by decide) kv_172 rfl dX8_fewestLadles_13 ?_
    refine r_get kc2 X h 1 10 (by decide) rfl f18 (by decide) kv_202 rfl dX8_fewestLadles_16 ?_
    refine lv_iload_n hx hb dX8_fewestLadles_19 rfl (lv_at hl 1 rfl) ?_
    obtain ⟨g98, f97, p99⟩ := (show sA cI 4 (anyA) (w 7) from ok 7 (by decide))
    have f100 : w 7 = .inl (cI, 4, .inl g98) := f97
    obtain ⟨v101, e102⟩ : ∃ z : Int32, g98 (j).toNatClampNeg = z := ⟨_, rfl⟩
    refine o_iald (v := v101) X h 7 0 (by decide) rfl f100 rfl (in_of (by omega) (by omega)) e102 dX8_fewestLadles_20 ?_
    refine lv_iload_n hx hb dX8_fewestLadles_21 rfl (lv_at hl 2 rfl) ?_
    refine lv_icmp_eq (tgt := 27) hx hb dX8_fewestLadles_22 (by decide) (fun hc104 => ?_) (fun hc104 => ?_)
    · have hc104 : (v101).toInt = (t).toInt := i_eq hc104 rfl rfl
      refine lv_iconst (v := (-1)) hx hb dX8_fewestLadles_27 (by decide) ?_
      refine lv_istore (lv' := [(4, .int (-1)), (0, .ref (ad 0)), (1, .int j), (2, .int t), (3, .int x)]) hx hb dX8_fewestLadles_28 hl (by decide) rfl (fun ls hl => ?_)
      refine lv_iconst (v := 0) hx hb dX8_fewestLadles_30 (by decide) ?_
      refine lv_istore (lv' := [(5, .int 0), (4, .int (-1)), (0, .ref (ad 0)), (1, .int j), (2, .int t), (3, .int x)]) hx hb dX8_fewestLadles_31 hl (by decide) rfl (fun ls hl => ?_)
      have hloop107 : ∀ (d108 : Nat) (L105 : Int32) (L106 : Int32) (H : Heap) (locs : List Loc) (ls : Array Slot), 0 ≤ L105.toInt → L105.toInt ≤ 128 → 128 - L105.toInt < (d108 : Int) → St G 74 ad (wA 74 ad s.heap.size) s.heap w H locs → lv_has ls 7 [(5, .int L105), (4, .int L106), (0, .ref (ad 0)), (1, .int j), (2, .int t), (3, .int x)] → W p l e { frames := 4, cells := 0, slots := 0, locals := 90 } s m [.ref (ad 0), .int j, .int t, .int x].toArray below meth c H locs 0 0 (MQ below (va_Qi (fun r w1 => w = w1 ∧ True) (Aft G 74 ad) (wA 74 ad s.heap.size)) [.ref (ad 0), .int j, .int t, .int x].toArray s 0 0 (wA 74 ad s.heap.size)) (F0 m 33 ls []) := by
        intro d108
        induction d108 with
        | zero => intro L105 L106 H locs ls hi111 hi112 hm110 h hl; exfalso; omega
        | succ d108 ih109 =>
          intro L105 L106 H locs ls hi111 hi112 hm110 h hl
          refine lv_iload hx hb dX8_fewestLadles_33 (lv_at hl 0 rfl) ?_
          refine lv_iconst (v := 1) hx hb dX8_fewestLadles_35 (by decide) ?_
          refine lv_aload_n hx hb dX8_fewestLadles_36 rfl (lv_at hl 2 rfl) ?_
          refine r_get kc8 X h 0 0 (by decide) rfl f7 (by decide) kv_172 rfl dX8_fewestLadles_37 ?_
          refine r_get kc2 X h 1 3 (by decide) rfl f18 (by decide) kv_173 rfl dX8_fewestLadles_40 ?_
          obtain ⟨z118, e116, t117, t117b⟩ := x_shl7 (i := q12) (by omega) (by omega)
          refine o_ishl (z := z118) hx hb dX8_fewestLadles_43 e116 ?_
          refine lv_icmp_ge (tgt := 124) hx hb dX8_fewestLadles_44 (by decide) (fun hc119 => ?_) (fun hc119 => ?_)
          · have hc119 : (z118).toInt ≤ (L105).toInt := i_le hc119 rfl rfl
            refine lv_iload hx hb dX8_fewestLadles_124 (lv_at hl 1 rfl) ?_
            exact e_i X h hr hlk dX8_fewestLadles_126 ⟨rfl, trivial⟩
          · have hc119 : ¬ (z118).toInt ≤ (L105).toInt := i_nle hc119 rfl rfl
            refine lv_iload hx hb dX8_fewestLadles_47 (lv_at hl 1 rfl) ?_
            refine lv_iconst (v := (-1)) hx hb dX8_fewestLadles_49 (by decide) ?_
            refine lv_icmp_eq (tgt := 66) hx hb dX8_fewestLadles_50 (by decide) (fun hc120 => ?_) (fun hc120 => ?_)
            · have hc120 : (L106).toInt = (-1) := i_eq hc120 rfl rfl
              refine lv_iconst (v := 1) hx hb dX8_fewestLadles_66 (by decide) ?_
              refine lv_goto (tgt := 71) hx hb dX8_fewestLadles_67 (by decide) ?_
              refine lv_istore (lv' := [(6, .int 1), (5, .int L105), (4, .int L106), (0, .ref (ad 0)), (1, .int j), (2, .int t), (3, .int x)]) hx hb dX8_fewestLadles_71 hl (by decide) rfl (fun ls hl => ?_)
              refine lv_iload hx hb dX8_fewestLadles_73 (lv_at hl 0 rfl) ?_
              refine lv_if_eq (tgt := 118) hx hb dX8_fewestLadles_75 (by decide) (fun hc => absurd hc (by decide)) (fun _ => ?_)
              refine lv_aload_n hx hb dX8_fewestLadles_78 rfl (lv_at hl 3 rfl) ?_
              refine r_get kc8 X h 0 0 (by decide) rfl f7 (by decide) kv_172 rfl dX8_fewestLadles_79 ?_
              refine lv_iload hx hb dX8_fewestLadles_82 (lv_at hl 1 rfl) ?_
              refine lv_iload_n hx hb dX8_fewestLadles_84 rfl (lv_at hl 5 rfl) ?_
              refine n_Vi (na := 2) (As := [.int L105, .int t]) (rest := []) X hD hN h rfl (c_mayDraw l G cI cB cZ cO ad w 1 (Or.inl rfl) ok L105 t  ) ⟨kv_194, kv_195, kv_196, kv_37, kv_197⟩ rfl ⟨by decide, by decide, by decide⟩ ⟨Nat.le_of_ble_eq_true rfl, Nat.le_of_ble_eq_true rfl⟩ ⟨Nat.zero_le _, Nat.zero_le _⟩ (by decide) f18 rfl rfl hl.1 rfl (Nat.le_of_ble_eq_true rfl) dX8_fewestLadles_85 (fun r121 w122 H locs hp123 h => ?_)
              obtain ⟨rfl, hr124⟩ := hp123
              rcases hr124 with rfl | rfl
              · refine lv_if_eq (tgt := 118) hx hb dX8_fewestLadles_88 (by decide) (fun hc => absurd hc (by decide)) (fun _ => ?_)
                refine lv_aload_n hx hb dX8_fewestLadles_91 rfl (lv_at hl 3 rfl) ?_
                refine r_get kc8 X h 0 0 (by decide) rfl f7 (by decide) kv_172 rfl dX8_fewestLadles_92 ?_
                refine r_get kc2 X h 1 9 (by decide) rfl f18 (by decide) kv_193 rfl dX8_fewestLadles_95 ?_
                refine lv_iload_n hx hb dX8_fewestLadles_98 rfl (lv_at hl 4 rfl) ?_
                refine o_iald (v := v23) X h 6 0 (by decide) rfl f22 rfl (in_of (by omega) (by omega)) e24 dX8_fewestLadles_99 ?_
                refine lv_aload_n hx hb dX8_fewestLadles_100 rfl (lv_at hl 3 rfl) ?_
                refine r_get kc8 X h 0 0 (by decide) rfl f7 (by decide) kv_172 rfl dX8_fewestLadles_101 ?_
                refine lv_iload hx hb dX8_fewestLadles_104 (lv_at hl 1 rfl) ?_
                refine n_Vi (na := 1) (As := [.int L105]) (rest := [.int v23]) X hD hN h rfl (c_givenBy l G cI cB cZ cO ad w 1 (Or.inl rfl) ok L105  ) ⟨kv_198, kv_199, kv_200, kv_37, kv_201⟩ rfl ⟨by decide, by decide, by decide⟩ ⟨Nat.le_of_ble_eq_true rfl, Nat.le_of_ble_eq_true rfl⟩ ⟨Nat.zero_le _, Nat.zero_le _⟩ (by decide) f18 rfl rfl hl.1 rfl (Nat.le_of_ble_eq_true rfl) dX8_fewestLadles_106 (fun r125 w126 H locs hp127 h => ?_)
                obtain ⟨rfl, hr128⟩ := hp127
                obtain ⟨z131, e129⟩ : ∃ z : Int32, v23 + r125 = z := ⟨_, rfl⟩
                refine o_iadd (z := z131) hx hb dX8_fewestLadles_109 e129 ?_
                refine lv_iload_n hx hb dX8_fewestLadles_110 rfl (lv_at hl 6 rfl) ?_
                refine lv_icmp_lt (tgt := 118) hx hb dX8_fewestLadles_111 (by decide) (fun hc132 => ?_) (fun hc132 => ?_)
                · have hc132 : (z131).toInt < (x).toInt := i_lt hc132 rfl rfl
                  obtain ⟨z133, e134, t135⟩ := x_add (x := L105) (y := 1) (a := L105.toInt) (b := 1) rfl rfl (by omega) (by omega)
                  refine lv_iinc (v := z133) (lv' := [(5, .int z133), (6, .int 1), (4, .int L106), (0, .ref (ad 0)), (1, .int j), (2, .int t), (3, .int x)]) hx hb dX8_fewestLadles_118 hl (k := 1) rfl e134 (by decide) rfl (fun ls hl => ?_)
                  refine lv_goto (tgt := 33) hx hb dX8_fewestLadles_121 (by decide) ?_
                  exact ih109  z133 L106  _ _ _ (by omega) (by omega)  (by omega) h (lv_sub hl [0, 2, 3, 4, 5, 6] rfl)
                · have hc132 : ¬ (z131).toInt < (x).toInt := i_nlt hc132 rfl rfl
                  refine lv_iload hx hb dX8_fewestLadles_114 (lv_at hl 1 rfl) ?_
                  refine lv_istore (lv' := [(4, .int L105), (6, .int 1), (5, .int L105), (0, .ref (ad 0)), (1, .int j), (2, .int t), (3, .int x)]) hx hb dX8_fewestLadles_116 hl (by decide) rfl (fun ls hl => ?_)
                  obtain ⟨z136, e137, t138⟩ := x_add (x := L105) (y := 1) (a := L105.toInt) (b := 1) rfl rfl (by omega) (by omega)
                  refine lv_iinc (v := z136) (lv' := [(5, .int z136), (4, .int L105), (6, .int 1), (0, .ref (ad 0)), (1, .int j), (2, .int t), (3, .int x)]) hx hb dX8_fewestLadles_118 hl (k := 2) rfl e137 (by decide) rfl (fun ls hl => ?_)
                  refine lv_goto (tgt := 33) hx hb dX8_fewestLadles_121 (by decide) ?_
                  exact ih109  z136 L105  _ _ _ (by omega) (by omega)  (by omega) h (lv_sub hl [0, 1, 3, 4, 5, 6] rfl)
              · refine lv_if_eq (tgt := 118) hx hb dX8_fewestLadles_88 (by decide) (fun _ => ?_) (fun hc => absurd (by decide) hc)
                obtain ⟨z139, e140, t141⟩ := x_add (x := L105) (y := 1) (a := L105.toInt) (b := 1) rfl rfl (by omega) (by omega)
                refine lv_iinc (v := z139) (lv' := [(5, .int z139), (6, .int 1), (4, .int L106), (0, .ref (ad 0)), (1, .int j), (2, .int t), (3, .int x)]) hx hb dX8_fewestLadles_118 hl (k := 1) rfl e140 (by decide) rfl (fun ls hl => ?_)
                refine lv_goto (tgt := 33) hx hb dX8_fewestLadles_121 (by decide) ?_
                exact ih109  z139 L106  _ _ _ (by omega) (by omega)  (by omega) h (lv_sub hl [0, 2, 3, 4, 5, 6] rfl)
            · have hc120 : ¬ (L106).toInt = (-1) := i_ne hc120 rfl rfl
              refine lv_iload hx hb dX8_fewestLadles_53 (lv_at hl 0 rfl) ?_
              refine n_Si (na := 1) (As := [.int L105]) (rest := []) X hD hN h (c_bitCount l G cI cB cZ cO ad w   L105  ) ⟨kv_181, kv_182, kv_183, kv_184⟩ ⟨by decide, by decide, by decide⟩ ⟨Nat.le_of_ble_eq_true rfl, Nat.le_of_ble_eq_true rfl⟩ ⟨Nat.zero_le _, Nat.zero_le _⟩ rfl hl.1 rfl (Nat.le_of_ble_eq_true rfl) dX8_fewestLadles_55 (fun r142 w143 H locs hp144 h => ?_)
              obtain ⟨rfl, hr145⟩ := hp144
              refine lv_iload hx hb dX8_fewestLadles_58 (lv_at hl 1 rfl) ?_
              refine n_Si (na := 1) (As := [.int L106]) (rest := [.int r142]) X hD hN h (c_bitCount l G cI cB cZ cO ad w   L106  ) ⟨kv_181, kv_182, kv_183, kv_184⟩ ⟨by decide, by decide, by decide⟩ ⟨Nat.le_of_ble_eq_true rfl, Nat.le_of_ble_eq_true rfl⟩ ⟨Nat.zero_le _, Nat.zero_le _⟩ rfl hl.1 rfl (Nat.le_of_ble_eq_true rfl) dX8_fewestLadles_60 (fun r146 w147 H locs hp148 h => ?_)
              obtain ⟨rfl, hr149⟩ := hp148
              refine lv_icmp_ge (tgt := 70) hx hb dX8_fewestLadles_63 (by decide) (fun hc150 => ?_) (fun hc150 => ?_)
              · have hc150 : (r146).toInt ≤ (r142).toInt := i_le hc150 rfl rfl
                refine lv_iconst (v := 0) hx hb dX8_fewestLadles_70 (by decide) ?_
                refine lv_istore (lv' := [(6, .int 0), (5, .int L105), (4, .int L106), (0, .ref (ad 0)), (1, .int j), (2, .int t), (3, .int x)]) hx hb dX8_fewestLadles_71 hl (by decide) rfl (fun ls hl => ?_)
                refine lv_iload hx hb dX8_fewestLadles_73 (lv_at hl 0 rfl) ?_
                refine lv_if_eq (tgt := 118) hx hb dX8_fewestLadles_75 (by decide) (fun _ => ?_) (fun hc => absurd (by decide) hc)
                obtain ⟨z151, e152, t153⟩ := x_add (x := L105) (y := 1) (a := L105.toInt) (b := 1) rfl rfl (by omega) (by omega)
                refine lv_iinc (v := z151) (lv' := [(5, .int z151), (6, .int 0), (4, .int L106), (0, .ref (ad 0)), (1, .int j), (2, .int t), (3, .int x)]) hx hb dX8_fewestLadles_118 hl (k := 1) rfl e152 (by decide) rfl (fun ls hl => ?_)
                refine lv_goto (tgt := 33) hx hb dX8_fewestLadles_121 (by decide) ?_
                exact ih109  z151 L106  _ _ _ (by omega) (by omega)  (by omega) h (lv_sub hl [0, 2, 3, 4, 5, 6] rfl)
              · have hc150 : ¬ (r146).toInt ≤ (r142).toInt := i_nle hc150 rfl rfl
                refine lv_iconst (v := 1) hx hb dX8_fewestLadles_66 (by decide) ?_
                refine lv_goto (tgt := 71) hx hb dX8_fewestLadles_67 (by decide) ?_
                refine lv_istore (lv' := [(6, .int 1), (5, .int L105), (4, .int L106), (0, .ref (ad 0)), (1, .int j), (2, .int t), (3, .int x)]) hx hb dX8_fewestLadles_71 hl (by decide) rfl (fun ls hl => ?_)
                refine lv_iload hx hb dX8_fewestLadles_73 (lv_at hl 0 rfl) ?_
                refine lv_if_eq (tgt := 118) hx hb dX8_fewestLadles_75 (by decide) (fun hc => absurd hc (by decide)) (fun _ => ?_)
                refine lv_aload_n hx hb dX8_fewestLadles_78 rfl (lv_at hl 3 rfl) ?_
                refine r_get kc8 X h 0 0 (by decide) rfl f7 (by decide) kv_172 rfl dX8_fewestLadles_79 ?_
                refine lv_iload hx hb dX8_fewestLadles_82 (lv_at hl 1 rfl) ?_
                refine lv_iload_n hx hb dX8_fewestLadles_84 rfl (lv_at hl 5 rfl) ?_
                refine n_Vi (na := 2) (As := [.int L105, .int t]) (rest := []) X hD hN h rfl (c_mayDraw l G cI cB cZ cO ad w 1 (Or.inl rfl) ok L105 t  ) ⟨kv_194, kv_195, kv_196, kv_37, kv_197⟩ rfl ⟨by decide, by decide, by decide⟩ ⟨Nat.le_of_ble_eq_true rfl, Nat.le_of_ble_eq_true rfl⟩ ⟨Nat.zero_le _, Nat.zero_le _⟩ (by decide) f18 rfl rfl hl.1 rfl (Nat.le_of_ble_eq_true rfl) dX8_fewestLadles_85 (fun r154 w155 H locs hp156 h => ?_)
                obtain ⟨rfl, hr157⟩ := hp156
                rcases hr157 with rfl | rfl
                · refine lv_if_eq (tgt := 118) hx hb dX8_fewestLadles_88 (by decide) (fun hc => absurd hc (by decide)) (fun _ => ?_)
                  refine lv_aload_n hx hb dX8_fewestLadles_91 rfl (lv_at hl 3 rfl) ?_
                  refine r_get kc8 X h 0 0 (by decide) rfl f7 (by decide) kv_172 rfl dX8_fewestLadles_92 ?_
                  refine r_get kc2 X h 1 9 (by decide) rfl f18 (by decide) kv_193 rfl dX8_fewestLadles_95 ?_
                  refine lv_iload_n hx hb dX8_fewestLadles_98 rfl (lv_at hl 4 rfl) ?_
                  refine o_iald (v := v23) X h 6 0 (by decide) rfl f22 rfl (in_of (by omega) (by omega)) e24 dX8_fewestLadles_99 ?_
                  refine lv_aload_n hx hb dX8_fewestLadles_100 rfl (lv_at hl 3 rfl) ?_
                  refine r_get kc8 X h 0 0 (by decide) rfl f7 (by decide) kv_172 rfl dX8_fewestLadles_101 ?_
                  refine lv_iload hx hb dX8_fewestLadles_104 (lv_at hl 1 rfl) ?_
                  refine n_Vi (na := 1) (As := [.int L105]) (rest := [.int v23]) X hD hN h rfl (c_givenBy l G cI cB cZ cO ad w 1 (Or.inl rfl) ok L105  ) ⟨kv_198, kv_199, kv_200, kv_37, kv_201⟩ rfl ⟨by decide, by decide, by decide⟩ ⟨Nat.le_of_ble_eq_true rfl, Nat.le_of_ble_eq_true rfl⟩ ⟨Nat.zero_le _, Nat.zero_le _⟩ (by decide) f18 rfl rfl hl.1 rfl (Nat.le_of_ble_eq_true rfl) dX8_fewestLadles_106 (fun r158 w159 H locs hp160 h => ?_)
                  obtain ⟨rfl, hr161⟩ := hp160
                  obtain ⟨z164, e162⟩ : ∃ z : Int32, v23 + r158 = z := ⟨_, rfl⟩
                  refine o_iadd (z := z164) hx hb dX8_fewestLadles_109 e162 ?_
                  refine lv_iload_n hx hb dX8_fewestLadles_110 rfl (lv_at hl 6 rfl) ?_
                  refine lv_icmp_lt (tgt := 118) hx hb dX8_fewestLadles_111 (by decide) (fun hc165 => ?_) (fun hc165 => ?_)
                  · have hc165 : (z164).toInt < (x).toInt := i_lt hc165 rfl rfl
                    obtain ⟨z166, e167, t168⟩ := x_add (x := L105) (y := 1) (a := L105.toInt) (b := 1) rfl rfl (by omega) (by omega)
                    refine lv_iinc (v := z166) (lv' := [(5, .int z166), (6, .int 1), (4, .int L106), (0, .ref (ad 0)), (1, .int j), (2, .int t), (3, .int x)]) hx hb dX8_fewestLadles_118 hl (k := 1) rfl e167 (by decide) rfl (fun ls hl => ?_)
                    refine lv_goto (tgt := 33) hx hb dX8_fewestLadles_121 (by decide) ?_
                    exact ih109  z166 L106  _ _ _ (by omega) (by omega)  (by omega) h (lv_sub hl [0, 2, 3, 4, 5, 6] rfl)
                  · have hc165 : ¬ (z164).toInt < (x).toInt := i_nlt hc165 rfl rfl
                    refine lv_iload hx hb dX8_fewestLadles_114 (lv_at hl 1 rfl) ?_
                    refine lv_istore (lv' := [(4, .int L105), (6, .int 1), (5, .int L105), (0, .ref (ad 0)), (1, .int j), (2, .int t), (3, .int x)]) hx hb dX8_fewestLadles_116 hl (by decide) rfl (fun ls hl => ?_)
                    obtain ⟨z169, e170, t171⟩ := x_add (x := L105) (y := 1) (a := L105.toInt) (b := 1) rfl rfl (by omega) (by omega)
                    refine lv_iinc (v := z169) (lv' := [(5, .int z169), (4, .int L105), (6, .int 1), (0, .ref (ad 0)), (1, .int j), (2, .int t), (3, .int x)]) hx hb dX8_fewestLadles_118 hl (k := 2) rfl e170 (by decide) rfl (fun ls hl => ?_)
                    refine lv_goto (tgt := 33) hx hb dX8_fewestLadles_121 (by decide) ?_
                    exact ih109  z169 L105  _ _ _ (by omega) (by omega)  (by omega) h (lv_sub hl [0, 1, 3, 4, 5, 6] rfl)
                · refine lv_if_eq (tgt := 118) hx hb dX8_fewestLadles_88 (by decide) (fun _ => ?_) (fun hc => absurd (by decide) hc)
                  obtain ⟨z172, e173, t174⟩ := x_add (x := L105) (y := 1) (a := L105.toInt) (b := 1) rfl rfl (by omega) (by omega)
                  refine lv_iinc (v := z172) (lv' := [(5, .int z172), (6, .int 1), (4, .int L106), (0, .ref (ad 0)), (1, .int j), (2, .int t), (3, .int x)]) hx hb dX8_fewestLadles_118 hl (k := 1) rfl e173 (by decide) rfl (fun ls hl => ?_)
                  refine lv_goto (tgt := 33) hx hb dX8_fewestLadles_121 (by decide) ?_
                  exact ih109  z172 L106  _ _ _ (by omega) (by omega)  (by omega) h (lv_sub hl [0, 2, 3, 4, 5, 6] rfl)
      exact hloop107 129 (0 : Int32) ((-1) : Int32)  _ _ _ (by have q0 : (0 : Int32).toInt = 0 := rfl; have q1 : ((-1) : Int32).toInt = (-1) := rfl; omega) (by have q0 : (0 : Int32).toInt = 0 := rfl; have q1 : ((-1) : Int32).toInt = (-1) := rfl; omega)  (by have q0 : (0 : Int32).toInt = 0 := rfl; have q1 : ((-1) : Int32).toInt = (-1) := rfl; omega) h (lv_sub hl [0, 1, 2, 3, 4, 5] rfl)
    · have hc104 : ¬ (v101).toInt = (t).toInt := i_ne hc104 rfl rfl
      refine lv_iconst (v := (-1)) hx hb dX8_fewestLadles_25 (by decide) ?_
      exact e_i X h hr hlk dX8_fewestLadles_26 ⟨rfl, trivial⟩

set_option maxHeartbeats 4000000 in
set_option maxRecDepth 100000 in
theorem c_pouredBehind (l : Launch) (G : va_G) (cI cB cZ cO : ClassId) (ad : Nat → Nat) (w : Nat → va_E)  (ok : OK cI cB cZ cO ad w) (j : Int32) (k : Int32) (n : Int32) (hl_j : 0 ≤ j.toInt) (hh_j : j.toInt ≤ 3) (hl_k : 0 ≤ k.toInt) (hh_k : k.toInt ≤ 3) (hl_n : 0 ≤ n.toInt) (hh_n : n.toInt ≤ 60)  : NI l G (tyq cI cB cZ cO) yX8_pouredBehind cX8_pouredBehind 5 (some .int) 3 72 74 ad w [.ref (ad 0), .int j, .int k, .int n] (fun r w1 => w = w1 ∧ True) := by
  refine nk_i (own := "NoonShade") rfl (by decide) (Nat.le_of_ble_eq_true rfl) ?_
  intro p e s m below meth c ls X hD hN hr hlk h hl
  have hx := X.1.1
  have hb := X.1.2.1
  have hown := X.1.2.2.2.1
  have hts := X.1.2.2.2.2
  have hl : lv_has ls 5 [(0, .ref (ad 0)), (1, .int j), (2, .int k), (3, .int n)] := hl
  refine lv_aload_n hx hb dX8_pouredBehind_0 rfl (lv_at hl 0 rfl) ?_
  obtain ⟨x2, x3, q4, q5, q6, f1⟩ := (show sN ad (w 0) from ok 0 (by decide))
  have f7 : w 0 = .inr (6, [.ref (ad 1), .ref (ad 14), .ref (ad 27), .ref (ad 54), .ref (ad 55), .ref (ad 58), .ref (ad 62), .long x2, .long x3, .int q4, .int q5, .int q6]) := f1
  refine r_get kc8 X h 0 0 (by decide) rfl f7 (by decide) kv_172 rfl dX8_pouredBehind_1 ?_
  obtain ⟨q9, q10, q11, q12, q13, f8, h14, h15, h16, h17⟩ := (show sI ad 1 (w 1) from ok 1 (by decide))
  have f18 : w 1 = .inr (1, [.int q9, .int q10, .int q11, .int q12, .int q13, .ref (ad 2), .ref (ad 3), .ref (ad 4), .ref (ad 5), .ref (ad 6), .ref (ad 7), .ref (ad 8), .ref (ad 10), .ref (ad 12)]) := f8
  refine r_get kc2 X h 1 9 (by decide) rfl f18 (by decide) kv_193 rfl dX8_pouredBehind_4 ?_
  refine lv_iload_n hx hb dX8_pouredBehind_7 rfl (lv_at hl 1 rfl) ?_
  obtain ⟨g20, f19, p21⟩ := (show sA cI 4 (rgA 0 60) (w 6) from ok 6 (by decide))
  have f22 : w 6 = .inl (cI, 4, .inl g20) := f19
  obtain ⟨v23, e24⟩ : ∃ z : Int32, g20 (j).toNatClampNeg = z := ⟨_, rfl⟩
  have h25 := rgA_rd p21 e24
  refine o_iald (v := v23) X h 6 0 (by decide) rfl f22 rfl (in_of (by omega) (by omega)) e24 dX8_pouredBehind_8 ?_
  refine lv_bipush (v := 60) hx hb dX8_pouredBehind_9 (by decide) ?_
  refine lv_aload_n hx hb dX8_pouredBehind_11 rfl (lv_at hl 0 rfl) ?_
  refine r_get kc8 X h 0 0 (by decide) rfl f7 (by decide) kv_172 rfl dX8_pouredBehind_12 ?_
  refine r_get kc2 X h 1 9 (by decide) rfl f18 (by decide) kv_193 rfl dX8_pouredBehind_15 ?_
  refine lv_iload_n hx hb dX8_pouredBehind_18 rfl (lv_at hl 2 rfl) ?_
  obtain ⟨v26, e27⟩ : ∃ z : Int32, g20 (k).toNatClampNeg = z := ⟨_, rfl⟩
  have h28 := rgA_rd p21 e27
  refine o_iald (v := v26) X h 6 0 (by decide) rfl f22 rfl (in_of (by omega) (by omega)) e27 dX8_pouredBehind_19 ?_
  obtain ⟨z31, e29, t30⟩ := x_sub (x := (60 : Int32)) (y := v26) (a := 60) (b := (v26).toInt) rfl rfl (by omega) (by omega)
  refine o_isub (z := z31) hx hb dX8_pouredBehind_20 e29 ?_
  obtain ⟨z32, e33, t34, t35, t36⟩ := x_min v23 z31
  refine o_mmin X hl.1 kv_203 kv_5 kv_2 kv_6 ⟨Nat.le_of_ble_eq_true rfl, Nat.le_of_ble_eq_true rfl⟩ (Nat.le_of_ble_eq_true rfl) ⟨Nat.zero_le _, Nat.zero_le _⟩ e33 dX8_pouredBehind_21 ?_
  refine lv_istore (lv' := [(4, .int z32), (0, .ref (ad 0)), (1, .int j), (2, .int k), (3, .int n)]) hx hb dX8_pouredBehind_24 hl (by decide) rfl (fun ls hl => ?_)
  refine lv_aload_n hx hb dX8_pouredBehind_26 rfl (lv_at hl 1 rfl) ?_
  refine r_get kc8 X h 0 0 (by decide) rfl f7 (by decide) kv_172 rfl dX8_pouredBehind_27 ?_
  refine r_get kc2 X h 1 8 (by decide) rfl f18 (by decide) kv_204 rfl dX8_pouredBehind_30 ?_
  refine lv_iload_n hx hb dX8_pouredBehind_33 rfl (lv_at hl 2 rfl) ?_
  obtain ⟨g38, f37, p39⟩ := (show sA cI 4 (anyA) (w 5) from ok 5 (by decide))
  have f40 : w 5 = .inl (cI, 4, .inl g38) := f37
  obtain ⟨v41, e42⟩ : ∃ z : Int32, g38 (j).toNatClampNeg = z := ⟨_, rfl⟩
  refine o_iald (v := v41) X h 5 0 (by decide) rfl f40 rfl (in_of (by omega) (by omega)) e42 dX8_pouredBehind_34 ?_
  refine lv_aload_n hx hb dX8_pouredBehind_35 rfl (lv_at hl 1 rfl) ?_
  refine r_get kc8 X h 0 0 (by decide) rfl f7 (by decide) kv_172 rfl dX8_pouredBehind_36 ?_
  refine r_get kc2 X h 1 9 (by decide) rfl f18 (by decide) kv_193 rfl dX8_pouredBehind_39 ?_
  refine lv_iload_n hx hb dX8_pouredBehind_42 rfl (lv_at hl 2 rfl) ?_
  refine o_iald (v := v23) X h 6 0 (by decide) rfl f22 rfl (in_of (by omega) (by omega)) e24 dX8_pouredBehind_43 ?_
  refine lv_iload hx hb dX8_pouredBehind_44 (lv_at hl 0 rfl) ?_
  obtain ⟨z46, e44, t45⟩ := x_sub (x := v23) (y := z32) (a := (v23).toInt) (b := (z32).toInt) rfl rfl (by omega) (by omega)
  refine o_isub (z := z46) hx hb dX8_pouredBehind_46 e44 ?_
  refine lv_aload_n hx hb dX8_pouredBehind_47 rfl (lv_at hl 1 rfl) ?_
  refine r_get kc8 X h 0 0 (by decide) rfl f7 (by decide) kv_172 rfl dX8_pouredBehind_48 ?_
  refine r_get kc2 X h 1 0 (by decide) rfl f18 (by decide) kv_179 rfl dX8_pouredBehind_51 ?_
  refine lv_iload_n hx hb dX8_pouredBehind_54 rfl (lv_at hl 4 rfl) ?_
  refine n_Si (na := 4) (As := [.int v41, .int z46, .int q9, .int n]) (rest := []) X hD hN h (c_keptBehind l G cI cB cZ cO ad w   v41 z46 q9 n (by omega) (by omega) (by omega) (by omega) ) ⟨kv_205, kv_32, kv_9, kv_33⟩ ⟨by decide, by decide, by decide⟩ ⟨Nat.le_of_ble_eq_true rfl, Nat.le_of_ble_eq_true rfl⟩ ⟨Nat.zero_le _, Nat.zero_le _⟩ rfl hl.1 rfl (Nat.le_of_ble_eq_true rfl) dX8_pouredBehind_55 (fun r47 w48 H locs hp49 h => ?_)
  obtain ⟨rfl, hr50⟩ := hp49
  obtain ⟨h51, h52⟩ := hr50
  refine lv_aload_n hx hb dX8_pouredBehind_58 rfl (lv_at hl 1 rfl) ?_
  refine r_get kc8 X h 0 0 (by decide) rfl f7 (by decide) kv_172 rfl dX8_pouredBehind_59 ?_
  refine r_get kc2 X h 1 8 (by decide) rfl f18 (by decide) kv_204 rfl dX8_pouredBehind_62 ?_
  refine lv_iload_n hx hb dX8_pouredBehind_65 rfl (lv_at hl 3 rfl) ?_
  obtain ⟨v53, e54⟩ : ∃ z : Int32, g38 (k).toNatClampNeg = z := ⟨_, rfl⟩
  refine o_iald (v := v53) X h 5 0 (by decide) rfl f40 rfl (in_of (by omega) (by omega)) e54 dX8_pouredBehind_66 ?_
  refine lv_aload_n hx hb dX8_pouredBehind_67 rfl (lv_at hl 1 rfl) ?_
  refine r_get kc8 X h 0 0 (by decide) rfl f7 (by decide) kv_172 rfl dX8_pouredBehind_68 ?_
  refine r_get kc2 X h 1 9 (by decide) rfl f18 (by decide) kv_193 rfl dX8_pouredBehind_71 ?_
  refine lv_iload_n hx hb dX8_pouredBehind_74 rfl (lv_at hl 3 rfl) ?_
  refine o_iald (v := v26) X h 6 0 (by decide) rfl f22 rfl (in_of (by omega) (by omega)) e27 dX8_pouredBehind_75 ?_
  refine lv_iload hx hb dX8_pouredBehind_76 (lv_at hl 0 rfl) ?_
  obtain ⟨z58, e56, t57⟩ := x_add (x := v26) (y := z32) (a := (v26).toInt) (b := (z32).toInt) rfl rfl (by omega) (by omega)
  refine o_iadd (z := z58) hx hb dX8_pouredBehind_78 e56 ?_
  refine lv_aload_n hx hb dX8_pouredBehind_79 rfl (lv_at hl 1 rfl) ?_
  refine r_get kc8 X h 0 0 (by decide) rfl f7 (by decide) kv_172 rfl dX8_pouredBehind_80 ?_
  refine r_get kc2 X h 1 0 (by decide) rfl f18 (by decide) kv_179 rfl dX8_pouredBehind_83 ?_
  refine lv_iload_n hx hb dX8_pouredBehind_86 rfl (lv_at hl 4 rfl) ?_
  refine n_Si (na := 4) (As := [.int v53, .int z58, .int q9, .int n]) (rest := [.int r47]) X hD hN h (c_keptBehind l G cI cB cZ cO ad w   v53 z58 q9 n (by omega) (by omega) (by omega) (by omega) ) ⟨kv_205, kv_32, kv_9, kv_33⟩ ⟨by decide, by decide, by decide⟩ ⟨Nat.le_of_ble_eq_true rfl, Nat.le_of_ble_eq_true rfl⟩ ⟨Nat.zero_le _, Nat.zero_le _⟩ rfl hl.1 rfl (Nat.le_of_ble_eq_true rfl) dX8_pouredBehind_87 (fun r59 w60 H locs hp61 h => ?_)
  obtain ⟨rfl, hr62⟩ := hp61
  obtain ⟨h63, h64⟩ := hr62
  obtain ⟨z67, e65, t66⟩ := x_add (x := r47) (y := r59) (a := (r47).toInt) (b := (r59).toInt) rfl rfl (by omega) (by omega)
  refine o_iadd (z := z67) hx hb dX8_pouredBehind_90 e65 ?_
  exact e_i X h hr hlk dX8_pouredBehind_91 ⟨rfl, trivial⟩

set_option maxHeartbeats 4000000 in
set_option maxRecDepth 100000 in
theorem c_share (l : Launch) (G : va_G) (cI cB cZ cO : ClassId) (ad : Nat → Nat) (w : Nat → va_E)  (ok : OK cI cB cZ cO ad w) (i : Int32) (j : Int32) (hl_i : 0 ≤ i.toInt) (hh_i : i.toInt ≤ 6) (hl_j : 0 ≤ j.toInt) (hh_j : j.toInt ≤ 6)  : NI l G (tyq cI cB cZ cO) yX8_share cX8_share 4 (some .int) 3 67 74 ad w [.ref (ad 0), .int i, .int j] (fun r w1 => w = w1 ∧ True) := by
  refine nk_i (own := "NoonShade") rfl (by decide) (Nat.le_of_ble_eq_true rfl) ?_
  intro p e s m below meth c ls X hD hN hr hlk h hl
  have hx := X.1.1
  have hb := X.1.2.1
  have hown := X.1.2.2.2.1
  have hts := X.1.2.2.2.2
  have hl : lv_has ls 4 [(0, .ref (ad 0)), (1, .int i), (2, .int j)] := hl
  refine lv_aload_n hx hb dX8_share_0 rfl (lv_at hl 0 rfl) ?_
  obtain ⟨x2, x3, q4, q5, q6, f1⟩ := (show sN ad (w 0) from ok 0 (by decide))
  have f7 : w 0 = .inr (6, [.ref (ad 1), .ref (ad 14), .ref (ad 27), .ref (ad 54), .ref (ad 55), .ref (ad 58), .ref (ad 62), .long x2, .long x3, .int q4, .int q5, .int q6]) := f1
  refine r_get kc8 X h 0 0 (by decide) rfl f7 (by decide) kv_172 rfl dX8_share_1 ?_
  refine lv_iload_n hx hb dX8_share_4 rfl (lv_at hl 1 rfl) ?_
  refine lv_iconst (v := 0) hx hb dX8_share_5 (by decide) ?_
  obtain ⟨q12, q13, q14, q15, q16, f11, h17, h18, h19, h20⟩ := (show sI ad 1 (w 1) from ok 1 (by decide))
  have f21 : w 1 = .inr (1, [.int q12, .int q13, .int q14, .int q15, .int q16, .ref (ad 2), .ref (ad 3), .ref (ad 4), .ref (ad 5), .ref (ad 6), .ref (ad 7), .ref (ad 8), .ref (ad 10), .ref (ad 12)]) := f11
  refine n_Vi (na := 2) (As := [.int i, .int 0]) (rest := []) X hD hN h rfl (c_givenBehind l G cI cB cZ cO ad w 1 (Or.inl rfl) ok i (0 : Int32) (by omega) (by omega) ) ⟨kv_206, kv_40, kv_41, kv_37, kv_42⟩ rfl ⟨by decide, by decide, by decide⟩ ⟨Nat.le_of_ble_eq_true rfl, Nat.le_of_ble_eq_true rfl⟩ ⟨Nat.zero_le _, Nat.zero_le _⟩ (by decide) f21 rfl rfl hl.1 rfl (Nat.le_of_ble_eq_true rfl) dX8_share_6 (fun r8 w9 H locs hp10 h => ?_)
  obtain ⟨rfl, hr22⟩ := hp10
  obtain ⟨h23, h24⟩ := hr22
  refine lv_istore_n (lv' := [(3, .int r8), (0, .ref (ad 0)), (1, .int i), (2, .int j)]) hx hb dX8_share_9 rfl hl (by decide) rfl (fun ls hl => ?_)
  refine lv_iload_n hx hb dX8_share_10 rfl (lv_at hl 2 rfl) ?_
  refine lv_iload_n hx hb dX8_share_11 rfl (lv_at hl 3 rfl) ?_
  refine lv_icmp_ne (tgt := 21) hx hb dX8_share_12 (by decide) (fun hc25 => ?_) (fun hc25 => ?_)
  · have hc25 : ¬ (i).toInt = (j).toInt := i_ne hc25 rfl rfl
    refine lv_aload_n hx hb dX8_share_21 rfl (lv_at hl 1 rfl) ?_
    refine r_get kc8 X h 0 0 (by decide) rfl f7 (by decide) kv_172 rfl dX8_share_22 ?_
    refine r_get kc2 X h 1 7 (by decide) rfl f21 (by decide) kv_207 rfl dX8_share_25 ?_
    refine lv_iload_n hx hb dX8_share_28 rfl (lv_at hl 2 rfl) ?_
    obtain ⟨g27, f26, p28⟩ := (show sA cI 7 (anyA) (w 4) from ok 4 (by decide))
    have f29 : w 4 = .inl (cI, 7, .inl g27) := f26
    obtain ⟨v30, e31⟩ : ∃ z : Int32, g27 (i).toNatClampNeg = z := ⟨_, rfl⟩
    refine o_iald (v := v30) X h 4 0 (by decide) rfl f29 rfl (in_of (by omega) (by omega)) e31 dX8_share_29 ?_
    refine lv_aload_n hx hb dX8_share_30 rfl (lv_at hl 1 rfl) ?_
    refine r_get kc8 X h 0 0 (by decide) rfl f7 (by decide) kv_172 rfl dX8_share_31 ?_
    refine r_get kc2 X h 1 7 (by decide) rfl f21 (by decide) kv_207 rfl dX8_share_34 ?_
    refine lv_iload_n hx hb dX8_share_37 rfl (lv_at hl 3 rfl) ?_
    obtain ⟨v33, e34⟩ : ∃ z : Int32, g27 (j).toNatClampNeg = z := ⟨_, rfl⟩
    refine o_iald (v := v33) X h 4 0 (by decide) rfl f29 rfl (in_of (by omega) (by omega)) e34 dX8_share_38 ?_
    refine lv_icmp_ne (tgt := 46) hx hb dX8_share_39 (by decide) (fun hc36 => ?_) (fun hc36 => ?_)
    · have hc36 : ¬ (v30).toInt = (v33).toInt := i_ne hc36 rfl rfl
      refine lv_iload_n hx hb dX8_share_46 rfl (lv_at hl 0 rfl) ?_
      refine lv_iconst (v := 2) hx hb dX8_share_47 (by decide) ?_
      obtain ⟨z39, e37, t38⟩ := x_add (x := r8) (y := (2 : Int32)) (a := (r8).toInt) (b := 2) rfl rfl (by omega) (by omega)
      refine o_iadd (z := z39) hx hb dX8_share_48 e37 ?_
      exact e_i X h hr hlk dX8_share_49 ⟨rfl, trivial⟩
    · have hc36 : (v30).toInt = (v33).toInt := i_eq hc36 rfl rfl
      refine lv_iload_n hx hb dX8_share_42 rfl (lv_at hl 0 rfl) ?_
      refine lv_goto (tgt := 49) hx hb dX8_share_43 (by decide) ?_
      exact e_i X h hr hlk dX8_share_49 ⟨rfl, trivial⟩
  · have hc25 : (i).toInt = (j).toInt := i_eq hc25 rfl rfl
    refine lv_iload_n hx hb dX8_share_15 rfl (lv_at hl 0 rfl) ?_
    refine lv_iconst (v := 2) hx hb dX8_share_16 (by decide) ?_
    obtain ⟨z42, e40, t41⟩ := x_div (x := r8) (y := (2 : Int32)) (a := (r8).toInt) (b := 2) rfl rfl (by omega) (by omega)
    refine o_idiv (z := z42) hx hb dX8_share_17 (by decide) e40 ?_
    refine lv_iconst (v := 1) hx hb dX8_share_18 (by decide) ?_
    obtain ⟨z45, e43, t44⟩ := x_sub (x := z42) (y := (1 : Int32)) (a := (z42).toInt) (b := 1) rfl rfl (by omega) (by omega)
    refine o_isub (z := z45) hx hb dX8_share_19 e43 ?_
    exact e_i X h hr hlk dX8_share_20 ⟨rfl, trivial⟩

set_option maxHeartbeats 4000000 in
set_option maxRecDepth 100000 in
theorem c_rests (l : Launch) (G : va_G) (cI cB cZ cO : ClassId) (ad : Nat → Nat) (w : Nat → va_E)  (ok : OK cI cB cZ cO ad w) (i : Int32) (j : Int32) (hl_i : 0 ≤ i.toInt) (hh_i : i.toInt ≤ 6) (hl_j : 0 ≤ j.toInt) (hh_j : j.toInt ≤ 6)  : NI l G (tyq cI cB cZ cO) yX8_rests cX8_rests 6 (some .boolean) 4 90 74 ad w [.ref (ad 0), .int i, .int j] (fun r w1 => w = w1 ∧ (r = 1 ∨ r = 0)) := by
  refine nk_i (own := "NoonShade") rfl (by decide) (Nat.le_of_ble_eq_true rfl) ?_
  intro p e s m below meth c ls X hD hN hr hlk h hl
  have hx := X.1.1
  have hb := X.1.2.1
  have hown := X.1.2.2.2.1
  have hts := X.1.2.2.2.2
  have hl : lv_has ls 6 [(0, .ref (ad 0)), (1, .int i), (2, .int j)] := hl
  refine lv_aload_n hx hb dX8_rests_0 rfl (lv_at hl 0 rfl) ?_
  obtain ⟨x2, x3, q4, q5, q6, f1⟩ := (show sN ad (w 0) from ok 0 (by decide))
  have f7 : w 0 = .inr (6, [.ref (ad 1), .ref (ad 14), .ref (ad 27), .ref (ad 54), .ref (ad 55), .ref (ad 58), .ref (ad 62), .long x2, .long x3, .int q4, .int q5, .int q6]) := f1
  refine r_get kc8 X h 0 0 (by decide) rfl f7 (by decide) kv_172 rfl dX8_rests_1 ?_
  refine lv_iload_n hx hb dX8_rests_4 rfl (lv_at hl 1 rfl) ?_
  obtain ⟨q12, q13, q14, q15, q16, f11, h17, h18, h19, h20⟩ := (show sI ad 1 (w 1) from ok 1 (by decide))
  have f21 : w 1 = .inr (1, [.int q12, .int q13, .int q14, .int q15, .int q16, .ref (ad 2), .ref (ad 3), .ref (ad 4), .ref (ad 5), .ref (ad 6), .ref (ad 7), .ref (ad 8), .ref (ad 10), .ref (ad 12)]) := f11
  refine n_Vi (na := 1) (As := [.int i]) (rest := []) X hD hN h rfl (c_isMilked l G cI cB cZ cO ad w 1 (Or.inl rfl) ok i  ) ⟨kv_208, kv_35, kv_36, kv_37, kv_38⟩ rfl ⟨by decide, by decide, by decide⟩ ⟨Nat.le_of_ble_eq_true rfl, Nat.le_of_ble_eq_true rfl⟩ ⟨Nat.zero_le _, Nat.zero_le _⟩ (by decide) f21 rfl rfl hl.1 rfl (Nat.le_of_ble_eq_true rfl) dX8_rests_5 (fun r8 w9 H locs hp10 h => ?_)
  obtain ⟨rfl, hr22⟩ := hp10
  rcases hr22 with rfl | rfl
  · refine lv_if_ne (tgt := 22) hx hb dX8_rests_8 (by decide) (fun _ => ?_) (fun hc => absurd hc (by decide))
    refine lv_iconst (v := 0) hx hb dX8_rests_22 (by decide) ?_
    exact e_n X h hr hlk rfl dX8_rests_23 ⟨rfl, Or.inr rfl⟩
  · refine lv_if_ne (tgt := 22) hx hb dX8_rests_8 (by decide) (fun hc => absurd (by decide) hc) (fun _ => ?_)
    refine lv_aload_n hx hb dX8_rests_11 rfl (lv_at hl 0 rfl) ?_
    refine r_get kc8 X h 0 0 (by decide) rfl f7 (by decide) kv_172 rfl dX8_rests_12 ?_
    refine lv_iload_n hx hb dX8_rests_15 rfl (lv_at hl 2 rfl) ?_
    refine n_Vi (na := 1) (As := [.int j]) (rest := []) X hD hN h rfl (c_isMilked l G cI cB cZ cO ad w 1 (Or.inl rfl) ok j  ) ⟨kv_208, kv_35, kv_36, kv_37, kv_38⟩ rfl ⟨by decide, by decide, by decide⟩ ⟨Nat.le_of_ble_eq_true rfl, Nat.le_of_ble_eq_true rfl⟩ ⟨Nat.zero_le _, Nat.zero_le _⟩ (by decide) f21 rfl rfl hl.1 rfl (Nat.le_of_ble_eq_true rfl) dX8_rests_16 (fun r23 w24 H locs hp25 h => ?_)
    obtain ⟨rfl, hr26⟩ := hp25
    rcases hr26 with rfl | rfl
    · refine lv_if_eq (tgt := 24) hx hb dX8_rests_19 (by decide) (fun hc => absurd hc (by decide)) (fun _ => ?_)
      refine lv_iconst (v := 0) hx hb dX8_rests_22 (by decide) ?_
      exact e_n X h hr hlk rfl dX8_rests_23 ⟨rfl, Or.inr rfl⟩
    · refine lv_if_eq (tgt := 24) hx hb dX8_rests_19 (by decide) (fun _ => ?_) (fun hc => absurd (by decide) hc)
      refine lv_aload_n hx hb dX8_rests_24 rfl (lv_at hl 0 rfl) ?_
      refine lv_iload_n hx hb dX8_rests_25 rfl (lv_at hl 1 rfl) ?_
      refine lv_iload_n hx hb dX8_rests_26 rfl (lv_at hl 2 rfl) ?_
      refine n_Vi (na := 2) (As := [.int i, .int j]) (rest := []) X hD hN h rfl (c_share l G cI cB cZ cO ad w  ok i j (by omega) (by omega) (by omega) (by omega) ) ⟨kv_209, kv_210, kv_211, kv_212, kv_213⟩ rfl ⟨by decide, by decide, by decide⟩ ⟨Nat.le_of_ble_eq_true rfl, Nat.le_of_ble_eq_true rfl⟩ ⟨Nat.zero_le _, Nat.zero_le _⟩ (by decide) f7 rfl rfl hl.1 rfl (Nat.le_of_ble_eq_true rfl) dX8_rests_27 (fun r27 w28 H locs hp29 h => ?_)
      obtain ⟨rfl, hr30⟩ := hp29
      refine lv_istore_n (lv' := [(3, .int r27), (0, .ref (ad 0)), (1, .int i), (2, .int j)]) hx hb dX8_rests_30 rfl hl (by decide) rfl (fun ls hl => ?_)
      refine lv_aload_n hx hb dX8_rests_31 rfl (lv_at hl 1 rfl) ?_
      refine lv_iload_n hx hb dX8_rests_32 rfl (lv_at hl 3 rfl) ?_
      refine lv_iload_n hx hb dX8_rests_33 rfl (lv_at hl 2 rfl) ?_
      refine n_Vi (na := 2) (As := [.int j, .int i]) (rest := []) X hD hN h rfl (c_share l G cI cB cZ cO ad w  ok j i (by omega) (by omega) (by omega) (by omega) ) ⟨kv_209, kv_210, kv_211, kv_212, kv_213⟩ rfl ⟨by decide, by decide, by decide⟩ ⟨Nat.le_of_ble_eq_true rfl, Nat.le_of_ble_eq_true rfl⟩ ⟨Nat.zero_le _, Nat.zero_le _⟩ (by decide) f7 rfl rfl hl.1 rfl (Nat.le_of_ble_eq_true rfl) dX8_rests_34 (fun r31 w32 H locs hp33 h => ?_)
      obtain ⟨rfl, hr34⟩ := hp33
      refine lv_istore (lv' := [(4, .int r31), (3, .int r27), (0, .ref (ad 0)), (1, .int i), (2, .int j)]) hx hb dX8_rests_37 hl (by decide) rfl (fun ls hl => ?_)
      refine lv_iconst (v := 0) hx hb dX8_rests_39 (by decide) ?_
      refine lv_istore (lv' := [(5, .int 0), (4, .int r31), (3, .int r27), (0, .ref (ad 0)), (1, .int i), (2, .int j)]) hx hb dX8_rests_40 hl (by decide) rfl (fun ls hl => ?_)
      have hloop36 : ∀ (d37 : Nat) (L35 : Int32) (H : Heap) (locs : List Loc) (ls : Array Slot), 0 ≤ L35.toInt → L35.toInt ≤ 7 → 7 - L35.toInt < (d37 : Int) → St G 74 ad (wA 74 ad s.heap.size) s.heap w H locs → lv_has ls 6 [(5, .int L35), (4, .int r31), (3, .int r27), (0, .ref (ad 0)), (1, .int i), (2, .int j)] → W p l e { frames := 4, cells := 0, slots := 0, locals := 90 } s m [.ref (ad 0), .int i, .int j].toArray below meth c H locs 0 0 (MQ below (va_Qi (fun r w1 => w = w1 ∧ (r = 1 ∨ r = 0)) (Aft G 74 ad) (wA 74 ad s.heap.size)) [.ref (ad 0), .int i, .int j].toArray s 0 0 (wA 74 ad s.heap.size)) (F0 m 42 ls []) := by
        intro d37
        induction d37 with
        | zero => intro L35 H locs ls hi40 hi41 hm39 h hl; exfalso; omega
        | succ d37 ih38 =>
          intro L35 H locs ls hi40 hi41 hm39 h hl
          refine lv_iload hx hb dX8_rests_42 (lv_at hl 0 rfl) ?_
          refine lv_aload_n hx hb dX8_rests_44 rfl (lv_at hl 3 rfl) ?_
          refine r_get kc8 X h 0 0 (by decide) rfl f7 (by decide) kv_172 rfl dX8_rests_45 ?_
          refine r_get kc2 X h 1 3 (by decide) rfl f21 (by decide) kv_173 rfl dX8_rests_48 ?_
          refine lv_icmp_ge (tgt := 97) hx hb dX8_rests_51 (by decide) (fun hc45 => ?_) (fun hc45 => ?_)
          · have hc45 : (q15).toInt ≤ (L35).toInt := i_le hc45 rfl rfl
            refine lv_iconst (v := 1) hx hb dX8_rests_97 (by decide) ?_
            exact e_n X h hr hlk rfl dX8_rests_98 ⟨rfl, Or.inl rfl⟩
          · have hc45 : ¬ (q15).toInt ≤ (L35).toInt := i_nle hc45 rfl rfl
            refine lv_aload_n hx hb dX8_rests_54 rfl (lv_at hl 3 rfl) ?_
            refine r_get kc8 X h 0 0 (by decide) rfl f7 (by decide) kv_172 rfl dX8_rests_55 ?_
            refine lv_iload hx hb dX8_rests_58 (lv_at hl 0 rfl) ?_
            refine n_Vi (na := 1) (As := [.int L35]) (rest := []) X hD hN h rfl (c_isMilked l G cI cB cZ cO ad w 1 (Or.inl rfl) ok L35  ) ⟨kv_208, kv_35, kv_36, kv_37, kv_38⟩ rfl ⟨by decide, by decide, by decide⟩ ⟨Nat.le_of_ble_eq_true rfl, Nat.le_of_ble_eq_true rfl⟩ ⟨Nat.zero_le _, Nat.zero_le _⟩ (by decide) f21 rfl rfl hl.1 rfl (Nat.le_of_ble_eq_true rfl) dX8_rests_60 (fun r46 w47 H locs hp48 h => ?_)
            obtain ⟨rfl, hr49⟩ := hp48
            rcases hr49 with rfl | rfl
            · refine lv_if_ne (tgt := 91) hx hb dX8_rests_63 (by decide) (fun _ => ?_) (fun hc => absurd hc (by decide))
              obtain ⟨z50, e51, t52⟩ := x_add (x := L35) (y := 1) (a := L35.toInt) (b := 1) rfl rfl (by omega) (by omega)
              refine lv_iinc (v := z50) (lv' := [(5, .int z50), (4, .int r31), (3, .int r27), (0, .ref (ad 0)), (1, .int i), (2, .int j)]) hx hb dX8_rests_91 hl (k := 0) rfl e51 (by decide) rfl (fun ls hl => ?_)
              refine lv_goto (tgt := 42) hx hb dX8_rests_94 (by decide) ?_
              exact ih38  z50  _ _ _ (by omega) (by omega)  (by omega) h (lv_sub hl [0, 1, 2, 3, 4, 5] rfl)
            · refine lv_if_ne (tgt := 91) hx hb dX8_rests_63 (by decide) (fun hc => absurd (by decide) hc) (fun _ => ?_)
              refine lv_aload_n hx hb dX8_rests_66 rfl (lv_at hl 3 rfl) ?_
              refine lv_iload hx hb dX8_rests_67 (lv_at hl 0 rfl) ?_
              refine lv_iload_n hx hb dX8_rests_69 rfl (lv_at hl 5 rfl) ?_
              refine n_Vi (na := 2) (As := [.int L35, .int j]) (rest := []) X hD hN h rfl (c_share l G cI cB cZ cO ad w  ok L35 j (by omega) (by omega) (by omega) (by omega) ) ⟨kv_209, kv_210, kv_211, kv_212, kv_213⟩ rfl ⟨by decide, by decide, by decide⟩ ⟨Nat.le_of_ble_eq_true rfl, Nat.le_of_ble_eq_true rfl⟩ ⟨Nat.zero_le _, Nat.zero_le _⟩ (by decide) f7 rfl rfl hl.1 rfl (Nat.le_of_ble_eq_true rfl) dX8_rests_70 (fun r53 w54 H locs hp55 h => ?_)
              obtain ⟨rfl, hr56⟩ := hp55
              refine lv_iload_n hx hb dX8_rests_73 rfl (lv_at hl 2 rfl) ?_
              refine lv_icmp_gt (tgt := 89) hx hb dX8_rests_74 (by decide) (fun hc57 => ?_) (fun hc57 => ?_)
              · have hc57 : (r27).toInt < (r53).toInt := i_lt hc57 rfl rfl
                refine lv_iconst (v := 0) hx hb dX8_rests_89 (by decide) ?_
                exact e_n X h hr hlk rfl dX8_rests_90 ⟨rfl, Or.inr rfl⟩
              · have hc57 : ¬ (r27).toInt < (r53).toInt := i_nlt hc57 rfl rfl
                refine lv_aload_n hx hb dX8_rests_77 rfl (lv_at hl 3 rfl) ?_
                refine lv_iload hx hb dX8_rests_78 (lv_at hl 0 rfl) ?_
                refine lv_iload_n hx hb dX8_rests_80 rfl (lv_at hl 4 rfl) ?_
                refine n_Vi (na := 2) (As := [.int L35, .int i]) (rest := []) X hD hN h rfl (c_share l G cI cB cZ cO ad w  ok L35 i (by omega) (by omega) (by omega) (by omega) ) ⟨kv_209, kv_210, kv_211, kv_212, kv_213⟩ rfl ⟨by decide, by decide, by decide⟩ ⟨Nat.le_of_ble_eq_true rfl, Nat.le_of_ble_eq_true rfl⟩ ⟨Nat.zero_le _, Nat.zero_le _⟩ (by decide) f7 rfl rfl hl.1 rfl (Nat.le_of_ble_eq_true rfl) dX8_rests_81 (fun r58 w59 H locs hp60 h => ?_)
                obtain ⟨rfl, hr61⟩ := hp60
                refine lv_iload hx hb dX8_rests_84 (lv_at hl 1 rfl) ?_
                refine lv_icmp_le (tgt := 91) hx hb dX8_rests_86 (by decide) (fun hc62 => ?_) (fun hc62 => ?_)
                · have hc62 : (r58).toInt ≤ (r31).toInt := i_le hc62 rfl rfl
                  obtain ⟨z63, e64, t65⟩ := x_add (x := L35) (y := 1) (a := L35.toInt) (b := 1) rfl rfl (by omega) (by omega)
                  refine lv_iinc (v := z63) (lv' := [(5, .int z63), (4, .int r31), (3, .int r27), (0, .ref (ad 0)), (1, .int i), (2, .int j)]) hx hb dX8_rests_91 hl (k := 0) rfl e64 (by decide) rfl (fun ls hl => ?_)
                  refine lv_goto (tgt := 42) hx hb dX8_rests_94 (by decide) ?_
                  exact ih38  z63  _ _ _ (by omega) (by omega)  (by omega) h (lv_sub hl [0, 1, 2, 3, 4, 5] rfl)
                · have hc62 : ¬ (r58).toInt ≤ (r31).toInt := i_nle hc62 rfl rfl
                  refine lv_iconst (v := 0) hx hb dX8_rests_89 (by decide) ?_
                  exact e_n X h hr hlk rfl dX8_rests_90 ⟨rfl, Or.inr rfl⟩
      exact hloop36 8 (0 : Int32)  _ _ _ (by have q0 : (0 : Int32).toInt = 0 := rfl; omega) (by have q0 : (0 : Int32).toInt = 0 := rfl; omega)  (by have q0 : (0 : Int32).toInt = 0 := rfl; omega) h (lv_sub hl [0, 1, 2, 3, 4, 5] rfl)

set_option maxHeartbeats 4000000 in
set_option maxRecDepth 100000 in
theorem c_greatestDivisor (l : Launch) (G : va_G) (cI cB cZ cO : ClassId) (ad : Nat → Nat) (w : Nat → va_E)   (x : Int64) (y : Int64)   : NL l G (tyq cI cB cZ cO) yX8_greatestDivisor cX8_greatestDivisor 7 (some .long) 0 0 74 ad w [.long x, .long y] (fun r w1 => w = w1 ∧ True) := by
  refine nk_l (own := "NoonShade") rfl (by decide) (Nat.le_of_ble_eq_true rfl) ?_
  intro p e s m below meth c ls X hD hN hr hlk h hl
  have hx := X.1.1
  have hb := X.1.2.1
  have hown := X.1.2.2.2.1
  have hts := X.1.2.2.2.2
  have hl : lv_has ls 7 [(0, .long x), (2, .long y)] := hl
  refine lv_iconst (v := 0) hx hb dX8_greatestDivisor_0 (by decide) ?_
  refine lv_istore (lv' := [(4, .int 0), (0, .long x), (2, .long y)]) hx hb dX8_greatestDivisor_1 hl (by decide) rfl (fun ls hl => ?_)
  have hloop4 : ∀ (d5 : Nat) (L1 : Int32) (L2 : Int64) (L3 : Int64) (H : Heap) (locs : List Loc) (ls : Array Slot), 0 ≤ L1.toInt → L1.toInt ≤ 128 → 128 - L1.toInt < (d5 : Int) → St G 74 ad (wA 74 ad s.heap.size) s.heap w H locs → lv_has ls 7 [(4, .int L1), (0, .long L2), (2, .long L3)] → W p l e { frames := 0, cells := 0, slots := 0, locals := 0 } s m [.long x, .long y].toArray below meth c H locs 0 0 (MQ below (va_Ql (fun r w1 => w = w1 ∧ True) (Aft G 74 ad) (wA 74 ad s.heap.size)) [.long x, .long y].toArray s 0 0 (wA 74 ad s.heap.size)) (F0 m 3 ls []) := by
    intro d5
    induction d5 with
    | zero => intro L1 L2 L3 H locs ls hi8 hi9 hm7 h hl; exfalso; omega
    | succ d5 ih6 =>
      intro L1 L2 L3 H locs ls hi8 hi9 hm7 h hl
      refine lv_iload hx hb dX8_greatestDivisor_3 (lv_at hl 0 rfl) ?_
      refine lv_sipush (v := 128) hx hb dX8_greatestDivisor_5 (by decide) ?_
      refine lv_icmp_ge (tgt := 33) hx hb dX8_greatestDivisor_8 (by decide) (fun hc13 => ?_) (fun hc13 => ?_)
      · have hc13 : 128 ≤ (L1).toInt := i_le hc13 rfl rfl
        refine lv_lload_n hx hb dX8_greatestDivisor_33 rfl (lv_at hl 1 rfl) ?_
        exact e_l X h hr hlk dX8_greatestDivisor_34 ⟨rfl, trivial⟩
      · have hc13 : ¬ 128 ≤ (L1).toInt := i_nle hc13 rfl rfl
        refine lv_lload_n hx hb dX8_greatestDivisor_11 rfl (lv_at hl 2 rfl) ?_
        refine lv_lconst (v := 0) hx hb dX8_greatestDivisor_12 (by decide) ?_
        refine W.lcmp hx hb dX8_greatestDivisor_13 ?_
        refine lv_if_eq (tgt := 33) hx hb dX8_greatestDivisor_14 (by decide) (fun hc14 => ?_) (fun hc14 => ?_)
        · have hc14 : (L3).toInt = 0 := lcm_eq hc14 rfl rfl
          refine lv_lload_n hx hb dX8_greatestDivisor_33 rfl (lv_at hl 1 rfl) ?_
          exact e_l X h hr hlk dX8_greatestDivisor_34 ⟨rfl, trivial⟩
        · have hc14 : ¬ (L3).toInt = 0 := lcm_ne hc14 rfl rfl
          refine lv_lload_n hx hb dX8_greatestDivisor_17 rfl (lv_at hl 1 rfl) ?_
          refine lv_lload_n hx hb dX8_greatestDivisor_18 rfl (lv_at hl 2 rfl) ?_
          obtain ⟨z16, e15⟩ : ∃ z : Int64, L2 - L2 / L3 * L3 = z := ⟨_, rfl⟩
          refine o_lrem (z := z16) hx hb dX8_greatestDivisor_19 (ne0L (by omega)) e15 ?_
          refine lv_lstore (lv' := [(5, .long z16), (4, .int L1), (0, .long L2), (2, .long L3)]) hx hb dX8_greatestDivisor_20 hl (by decide) rfl (fun ls hl => ?_)
          refine lv_lload_n hx hb dX8_greatestDivisor_22 rfl (lv_at hl 3 rfl) ?_
          refine lv_lstore_n (lv' := [(0, .long L3), (5, .long z16), (4, .int L1), (2, .long L3)]) hx hb dX8_greatestDivisor_23 rfl hl (by decide) rfl (fun ls hl => ?_)
          refine lv_lload hx hb dX8_greatestDivisor_24 (lv_at hl 1 rfl) ?_
          refine lv_lstore_n (lv' := [(2, .long z16), (0, .long L3), (5, .long z16), (4, .int L1)]) hx hb dX8_greatestDivisor_26 rfl hl (by decide) rfl (fun ls hl => ?_)
          obtain ⟨z17, e18, t19⟩ := x_add (x := L1) (y := 1) (a := L1.toInt) (b := 1) rfl rfl (by omega) (by omega)
          refine lv_iinc (v := z17) (lv' := [(4, .int z17), (2, .long z16), (0, .long L3), (5, .long z16)]) hx hb dX8_greatestDivisor_27 hl (k := 3) rfl e18 (by decide) rfl (fun ls hl => ?_)
          refine lv_goto (tgt := 3) hx hb dX8_greatestDivisor_30 (by decide) ?_
          exact ih6  z17 L3 z16  _ _ _ (by omega) (by omega)  (by omega) h (lv_sub hl [0, 2, 1] rfl)
  exact hloop4 129 (0 : Int32) x y  _ _ _ (by have q0 : (0 : Int32).toInt = 0 := rfl; omega) (by have q0 : (0 : Int32).toInt = 0 := rfl; omega)  (by have q0 : (0 : Int32).toInt = 0 := rfl; omega) h (lv_sub hl [0, 1, 2] rfl)

set_option maxHeartbeats 4000000 in
set_option maxRecDepth 100000 in
theorem c_setFraction (l : Launch) (G : va_G) (cI cB cZ cO : ClassId) (ad : Nat → Nat) (w : Nat → va_E)  (ok : OK cI cB cZ cO ad w) (x : Int64) (y : Int64)   : NV l G (tyq cI cB cZ cO) yX8_setFraction cX8_setFraction 7 1 26 74 ad w [.ref (ad 0), .long x, .long y] (fun w1 => OK cI cB cZ cO ad w1 ∧ KX w w1 ∧ True) := by
  refine nk_v (own := "NoonShade") rfl (by decide) (Nat.le_of_ble_eq_true rfl) ?_
  intro p e s m below meth c ls X hD hN hr hlk h hl
  have hx := X.1.1
  have hb := X.1.2.1
  have hown := X.1.2.2.2.1
  have hts := X.1.2.2.2.2
  have hl : lv_has ls 7 [(0, .ref (ad 0)), (1, .long x), (3, .long y)] := hl
  refine lv_lload_n hx hb dX8_setFraction_0 rfl (lv_at hl 1 rfl) ?_
  refine lv_lload_n hx hb dX8_setFraction_1 rfl (lv_at hl 2 rfl) ?_
  refine n_Sl (na := 2) (As := [.long x, .long y]) (rest := []) X hD hN h (c_greatestDivisor l G cI cB cZ cO ad w   x y  ) ⟨kv_214, kv_215, kv_212, kv_216⟩ ⟨by decide, by decide, by decide⟩ ⟨Nat.le_of_ble_eq_true rfl, Nat.le_of_ble_eq_true rfl⟩ ⟨Nat.zero_le _, Nat.zero_le _⟩ rfl hl.1 rfl (Nat.le_of_ble_eq_true rfl) dX8_setFraction_2 (fun r1 w2 H locs hp3 h => ?_)
  obtain ⟨rfl, hr4⟩ := hp3
  refine lv_lstore (lv' := [(5, .long r1), (0, .ref (ad 0)), (1, .long x), (3, .long y)]) hx hb dX8_setFraction_5 hl (by decide) rfl (fun ls hl => ?_)
  refine lv_lload hx hb dX8_setFraction_7 (lv_at hl 0 rfl) ?_
  refine lv_lconst (v := 0) hx hb dX8_setFraction_9 (by decide) ?_
  refine W.lcmp hx hb dX8_setFraction_10 ?_
  refine lv_if_le (tgt := 30) hx hb dX8_setFraction_11 (by decide) (fun hc5 => ?_) (fun hc5 => ?_)
  · have hc5 : ¬ 0 < (r1).toInt := lcm_ngt (Int32.not_lt.mpr hc5) rfl rfl
    exact e_v X h hr hlk dX8_setFraction_30 ⟨ok, KX.rf, trivial⟩
  · have hc5 : 0 < (r1).toInt := lcm_gt (Int32.not_le.mp hc5) rfl rfl
    refine lv_aload_n hx hb dX8_setFraction_14 rfl (lv_at hl 1 rfl) ?_
    refine lv_lload_n hx hb dX8_setFraction_15 rfl (lv_at hl 2 rfl) ?_
    refine lv_lload hx hb dX8_setFraction_16 (lv_at hl 0 rfl) ?_
    obtain ⟨z7, e6⟩ : ∃ z : Int64, x / r1 = z := ⟨_, rfl⟩
    refine o_ldiv (z := z7) hx hb dX8_setFraction_18 (ne0L (by omega)) e6 ?_
    obtain ⟨x9, x10, q11, q12, q13, f8⟩ := (show sN ad (w 0) from ok 0 (by decide))
    have f14 : w 0 = .inr (6, [.ref (ad 1), .ref (ad 14), .ref (ad 27), .ref (ad 54), .ref (ad 55), .ref (ad 58), .ref (ad 62), .long x9, .long x10, .int q11, .int q12, .int q13]) := f8
    refine r_put kc8 X hD h 0 7 (by decide) rfl f14 (by decide) kv_217 rfl rfl rfl (Nat.le_of_ble_eq_true rfl) dX8_setFraction_19 (fun H locs w15 e16 h => ?_)
    have f17 : w15 0 = .inr (6, [.ref (ad 1), .ref (ad 14), .ref (ad 27), .ref (ad 54), .ref (ad 55), .ref (ad 58), .ref (ad 62), .long z7, .long x10, .int q11, .int q12, .int q13]) := (congrFun e16 _).trans (va_up_self _ _ _)
    have ok18 : OK cI cB cZ cO ad w15 := OK.up ok e16 sN_mk
    have kx19 : KX w w15 := KX.up KX.rf e16 f14 rfl
    refine lv_aload_n hx hb dX8_setFraction_22 rfl (lv_at hl 1 rfl) ?_
    refine lv_lload_n hx hb dX8_setFraction_23 rfl (lv_at hl 3 rfl) ?_
    refine lv_lload hx hb dX8_setFraction_24 (lv_at hl 0 rfl) ?_
    obtain ⟨z21, e20⟩ : ∃ z : Int64, y / r1 = z := ⟨_, rfl⟩
    refine o_ldiv (z := z21) hx hb dX8_setFraction_26 (ne0L (by omega)) e20 ?_
    refine r_put kc8 X hD h 0 8 (by decide) rfl f17 (by decide) kv_218 rfl rfl rfl (Nat.le_of_ble_eq_true rfl) dX8_setFraction_27 (fun H locs w22 e23 h => ?_)
    have f24 : w22 0 = .inr (6, [.ref (ad 1), .ref (ad 14), .ref (ad 27), .ref (ad 54), .ref (ad 55), .ref (ad 58), .ref (ad 62), .long z7, .long z21, .int q11, .int q12, .int q13]) := (congrFun e23 _).trans (va_up_self _ _ _)
    have ok25 : OK cI cB cZ cO ad w22 := OK.up ok18 e23 sN_mk
    have kx26 : KX w w22 := KX.up kx19 e23 f17 rfl
    exact e_v X h hr hlk dX8_setFraction_30 ⟨ok25, kx26, trivial⟩
