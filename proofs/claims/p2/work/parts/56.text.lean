set_option maxHeartbeats 4000000 in
set_option maxRecDepth 100000 in
theorem c_S_coder (l : Launch) (G : va_G) (cI cB cZ cO : ClassId) (ad : Nat → Nat) (w : Nat → va_E) (i : Nat) (hi : i < 6)     : NI l G (tyq cI cB cZ cO) yJ0_coder_7d493 cJ0_coder_7d493 1 (some .byte) 0 0 74 ad w [.ref (ad (100 + i))] (fun r w1 => w = w1 ∧ 0 = r) := by
  refine nk_i (own := "java/lang/String") rfl (by decide) (Nat.le_of_ble_eq_true rfl) ?_
  intro p e s m below meth c ls X hD hN hr hlk h hl
  have hx := X.1.1
  have hb := X.1.2.1
  have hown := X.1.2.2.2.1
  have hts := X.1.2.2.2.2
  have hl : lv_has ls 1 [(0, .ref (ad (100 + i)))] := hl
  refine va_gets hx hb hN.2.2.2.1 h.2 hown (hts _ kv_350) (fun _ h9 => h9) dJ0_coder_7d493_0 ?_
  refine lv_if_eq (tgt := 13) hx hb dJ0_coder_7d493_3 (by decide) (fun hc => absurd hc (by decide)) (fun _ => ?_)
  refine lv_aload_n hx hb dJ0_coder_7d493_6 rfl (lv_at hl 0 rfl) ?_
  refine vk_getf hx hb (hN.2.1.1 i hi).2.1 h.2 hown (hts _ kv_351) (fun _ h9 => h9) dJ0_coder_7d493_7 ?_
  refine lv_goto (tgt := 14) hx hb dJ0_coder_7d493_10 (by decide) ?_
  exact e_n X h hr hlk rfl dJ0_coder_7d493_14 ⟨rfl, rfl⟩

set_option maxHeartbeats 4000000 in
set_option maxRecDepth 100000 in
theorem c_S_isLatin1 (l : Launch) (G : va_G) (cI cB cZ cO : ClassId) (ad : Nat → Nat) (w : Nat → va_E) (i : Nat) (hi : i < 6)     : NI l G (tyq cI cB cZ cO) yJ0_isLatin1_aae02 cJ0_isLatin1_aae02 1 (some .boolean) 0 0 74 ad w [.ref (ad (100 + i))] (fun r w1 => w = w1 ∧ 1 = r) := by
  refine nk_i (own := "java/lang/String") rfl (by decide) (Nat.le_of_ble_eq_true rfl) ?_
  intro p e s m below meth c ls X hD hN hr hlk h hl
  have hx := X.1.1
  have hb := X.1.2.1
  have hown := X.1.2.2.2.1
  have hts := X.1.2.2.2.2
  have hl : lv_has ls 1 [(0, .ref (ad (100 + i)))] := hl
  refine va_gets hx hb hN.2.2.2.1 h.2 hown (hts _ kv_350) (fun _ h9 => h9) dJ0_isLatin1_aae02_0 ?_
  refine lv_if_eq (tgt := 17) hx hb dJ0_isLatin1_aae02_3 (by decide) (fun hc => absurd hc (by decide)) (fun _ => ?_)
  refine lv_aload_n hx hb dJ0_isLatin1_aae02_6 rfl (lv_at hl 0 rfl) ?_
  refine vk_getf hx hb (hN.2.1.1 i hi).2.1 h.2 hown (hts _ kv_351) (fun _ h9 => h9) dJ0_isLatin1_aae02_7 ?_
  refine lv_if_ne (tgt := 17) hx hb dJ0_isLatin1_aae02_10 (by decide) (fun hc => absurd (by decide) hc) (fun _ => ?_)
  refine lv_iconst (v := 1) hx hb dJ0_isLatin1_aae02_13 (by decide) ?_
  refine lv_goto (tgt := 18) hx hb dJ0_isLatin1_aae02_14 (by decide) ?_
  exact e_n X h hr hlk rfl dJ0_isLatin1_aae02_18 ⟨rfl, rfl⟩

set_option maxHeartbeats 4000000 in
set_option maxRecDepth 100000 in
theorem c_S_length (l : Launch) (G : va_G) (cI cB cZ cO : ClassId) (ad : Nat → Nat) (w : Nat → va_E) (i : Nat) (hi : i < 6)     : NI l G (tyq cI cB cZ cO) yJ0_length_8abf5 cJ0_length_8abf5 1 (some .int) 1 20 74 ad w [.ref (ad (100 + i))] (fun r w1 => w = w1 ∧ nI (slen.getD i 0) = r) := by
  refine nk_i (own := "java/lang/String") rfl (by decide) (Nat.le_of_ble_eq_true rfl) ?_
  intro p e s m below meth c ls X hD hN hr hlk h hl
  have hx := X.1.1
  have hb := X.1.2.1
  have hown := X.1.2.2.2.1
  have hts := X.1.2.2.2.2
  have hl : lv_has ls 1 [(0, .ref (ad (100 + i)))] := hl
  obtain ⟨sl, hsl, hs0, hs6, hsi, hsh⟩ := sl_ex i hi
  refine lv_aload_n hx hb dJ0_length_8abf5_0 rfl (lv_at hl 0 rfl) ?_
  refine vk_getf hx hb (hN.2.1.1 i hi).2.2.1 h.2 hown (hts _ kv_352) (fun _ h9 => h9) dJ0_length_8abf5_1 ?_
  refine va_tlen hx hb (hN.2.1.1 i hi).2.2.2 h.2 (v := sl) hsl dJ0_length_8abf5_4 ?_
  refine lv_aload_n hx hb dJ0_length_8abf5_5 rfl (lv_at hl 0 rfl) ?_
  refine n_Ki (na := 0) (As := []) (rest := [.int sl]) X hD hN h rfl hi (c_S_coder l G cI cB cZ cO ad w i hi    ) ⟨kv_353, kv_354, kv_355, kv_356, kv_357⟩ rfl ⟨by decide, by decide, by decide⟩ ⟨Nat.le_of_ble_eq_true rfl, Nat.le_of_ble_eq_true rfl⟩ ⟨Nat.zero_le _, Nat.zero_le _⟩ rfl hl.1 rfl (Nat.le_of_ble_eq_true rfl) dJ0_length_8abf5_6 (fun r1 w2 H locs hp3 h => ?_)
  obtain ⟨rfl, hr4⟩ := hp3
  subst hr4
  refine o_ishr (z := sl) hx hb dJ0_length_8abf5_9 hsh ?_
  exact e_i X h hr hlk dJ0_length_8abf5_10 ⟨rfl, hsl⟩

set_option maxHeartbeats 4000000 in
set_option maxRecDepth 100000 in
theorem c_P_checkN (l : Launch) (G : va_G) (cI cB cZ cO : ClassId) (ad : Nat → Nat) (w : Nat → va_E)   (x : Int32) (y : Int32) (hl_x : 0 ≤ x.toInt) (hxy : x.toInt < y.toInt) : NI l G (tyq cI cB cZ cO) yJ3_checkIndex_8e157 cJ3_checkIndex_8e157 3 (some .int) 0 0 74 ad w [.int x, .int y, .null] (fun r w1 => w = w1 ∧ x = r) := by
  refine nk_i (own := "jdk/internal/util/Preconditions") rfl (by decide) (Nat.le_of_ble_eq_true rfl) ?_
  intro p e s m below meth c ls X hD hN hr hlk h hl
  have hx := X.1.1
  have hb := X.1.2.1
  have hown := X.1.2.2.2.1
  have hts := X.1.2.2.2.2
  have hl : lv_has ls 3 [(0, .int x), (1, .int y), (2, .null)] := hl
  refine lv_iload_n hx hb dJ3_checkIndex_8e157_0 rfl (lv_at hl 0 rfl) ?_
  refine lv_if_lt (tgt := 9) hx hb dJ3_checkIndex_8e157_1 (by decide) (fun hc1 => ?_) (fun hc1 => ?_)
  · have hc1 : (x).toInt < 0 := i_lt hc1 rfl rfl
    exfalso; omega
  · have hc1 : ¬ (x).toInt < 0 := i_nlt hc1 rfl rfl
    refine lv_iload_n hx hb dJ3_checkIndex_8e157_4 rfl (lv_at hl 0 rfl) ?_
    refine lv_iload_n hx hb dJ3_checkIndex_8e157_5 rfl (lv_at hl 1 rfl) ?_
    refine lv_icmp_lt (tgt := 16) hx hb dJ3_checkIndex_8e157_6 (by decide) (fun hc2 => ?_) (fun hc2 => ?_)
    · have hc2 : (x).toInt < (y).toInt := i_lt hc2 rfl rfl
      refine lv_iload_n hx hb dJ3_checkIndex_8e157_16 rfl (lv_at hl 0 rfl) ?_
      exact e_i X h hr hlk dJ3_checkIndex_8e157_17 ⟨rfl, rfl⟩
    · have hc2 : ¬ (x).toInt < (y).toInt := i_nlt hc2 rfl rfl
      exfalso; omega

set_option maxHeartbeats 4000000 in
set_option maxRecDepth 100000 in
theorem c_P_checkR (l : Launch) (G : va_G) (cI cB cZ cO : ClassId) (ad : Nat → Nat) (w : Nat → va_E) (t : Nat)  (x : Int32) (y : Int32) (hl_x : 0 ≤ x.toInt) (hxy : x.toInt < y.toInt) : NI l G (tyq cI cB cZ cO) yJ3_checkIndex_8e157 cJ3_checkIndex_8e157 3 (some .int) 0 0 74 ad w [.int x, .int y, .ref t] (fun r w1 => w = w1 ∧ x = r) := by
  refine nk_i (own := "jdk/internal/util/Preconditions") rfl (by decide) (Nat.le_of_ble_eq_true rfl) ?_
  intro p e s m below meth c ls X hD hN hr hlk h hl
  have hx := X.1.1
  have hb := X.1.2.1
  have hown := X.1.2.2.2.1
  have hts := X.1.2.2.2.2
  have hl : lv_has ls 3 [(0, .int x), (1, .int y), (2, .ref t)] := hl
  refine lv_iload_n hx hb dJ3_checkIndex_8e157_0 rfl (lv_at hl 0 rfl) ?_
  refine lv_if_lt (tgt := 9) hx hb dJ3_checkIndex_8e157_1 (by decide) (fun hc1 => ?_) (fun hc1 => ?_)
  · have hc1 : (x).toInt < 0 := i_lt hc1 rfl rfl
    exfalso; omega
  · have hc1 : ¬ (x).toInt < 0 := i_nlt hc1 rfl rfl
    refine lv_iload_n hx hb dJ3_checkIndex_8e157_4 rfl (lv_at hl 0 rfl) ?_
    refine lv_iload_n hx hb dJ3_checkIndex_8e157_5 rfl (lv_at hl 1 rfl) ?_
    refine lv_icmp_lt (tgt := 16) hx hb dJ3_checkIndex_8e157_6 (by decide) (fun hc2 => ?_) (fun hc2 => ?_)
    · have hc2 : (x).toInt < (y).toInt := i_lt hc2 rfl rfl
      refine lv_iload_n hx hb dJ3_checkIndex_8e157_16 rfl (lv_at hl 0 rfl) ?_
      exact e_i X h hr hlk dJ3_checkIndex_8e157_17 ⟨rfl, rfl⟩
    · have hc2 : ¬ (x).toInt < (y).toInt := i_nlt hc2 rfl rfl
      exfalso; omega

set_option maxHeartbeats 4000000 in
set_option maxRecDepth 100000 in
theorem c_S_check (l : Launch) (G : va_G) (cI cB cZ cO : ClassId) (ad : Nat → Nat) (w : Nat → va_E)   (x : Int32) (y : Int32) (hl_x : 0 ≤ x.toInt) (hxy : x.toInt < y.toInt) : NV l G (tyq cI cB cZ cO) yJ0_checkIndex_df160 cJ0_checkIndex_df160 2 1 22 74 ad w [.int x, .int y] (fun w1 => w = w1 ∧ True) := by
  refine nk_v (own := "java/lang/String") rfl (by decide) (Nat.le_of_ble_eq_true rfl) ?_
  intro p e s m below meth c ls X hD hN hr hlk h hl
  have hx := X.1.1
  have hb := X.1.2.1
  have hown := X.1.2.2.2.1
  have hts := X.1.2.2.2.2
  have hl : lv_has ls 2 [(0, .int x), (1, .int y)] := hl
  refine lv_iload_n hx hb dJ0_checkIndex_df160_0 rfl (lv_at hl 0 rfl) ?_
  refine lv_iload_n hx hb dJ0_checkIndex_df160_1 rfl (lv_at hl 1 rfl) ?_
  rcases hN.2.2.2.2 with hz1 | ⟨t2, hz1⟩
  · refine va_gets hx hb hz1 h.2 hown (hts _ kv_358) (fun _ h9 => h9) dJ0_checkIndex_df160_2 ?_
    refine n_Si (na := 3) (As := [.int x, .int y, .null]) (rest := []) X hD hN h (c_P_checkN l G cI cB cZ cO ad w   x y (by omega) (by first | decide | omega)) ⟨kv_359, kv_360, kv_361, kv_362⟩ ⟨by decide, by decide, by decide⟩ ⟨Nat.le_of_ble_eq_true rfl, Nat.le_of_ble_eq_true rfl⟩ ⟨Nat.zero_le _, Nat.zero_le _⟩ rfl hl.1 rfl (Nat.le_of_ble_eq_true rfl) dJ0_checkIndex_df160_5 (fun r3 w4 H locs hp5 h => ?_)
    obtain ⟨rfl, hr6⟩ := hp5
    subst hr6
    refine lv_pop hx hb dJ0_checkIndex_df160_8 rfl ?_
    exact e_v X h hr hlk dJ0_checkIndex_df160_9 ⟨rfl, trivial⟩
  · refine va_gets hx hb hz1 h.2 hown (hts _ kv_358) (fun _ h9 => h9) dJ0_checkIndex_df160_2 ?_
    refine n_Si (na := 3) (As := [.int x, .int y, .ref t2]) (rest := []) X hD hN h (c_P_checkR l G cI cB cZ cO ad w t2  x y (by omega) (by first | decide | omega)) ⟨kv_359, kv_360, kv_361, kv_362⟩ ⟨by decide, by decide, by decide⟩ ⟨Nat.le_of_ble_eq_true rfl, Nat.le_of_ble_eq_true rfl⟩ ⟨Nat.zero_le _, Nat.zero_le _⟩ rfl hl.1 rfl (Nat.le_of_ble_eq_true rfl) dJ0_checkIndex_df160_5 (fun r7 w8 H locs hp9 h => ?_)
    obtain ⟨rfl, hr10⟩ := hp9
    subst hr10
    refine lv_pop hx hb dJ0_checkIndex_df160_8 rfl ?_
    exact e_v X h hr hlk dJ0_checkIndex_df160_9 ⟨rfl, trivial⟩

set_option maxHeartbeats 4000000 in
set_option maxRecDepth 100000 in
theorem c_L1_charAt (l : Launch) (G : va_G) (cI cB cZ cO : ClassId) (ad : Nat → Nat) (w : Nat → va_E) (i : Nat) (hi : i < 6)  (k : Int32) (hl_k : 0 ≤ k.toInt) (hh_k : k.toInt ≤ 5) (hk6 : k.toInt < (slen.getD i 0 : Nat)) : NI l G (tyq cI cB cZ cO) yJ1_charAt_3b067 cJ1_charAt_3b067 2 (some .char) 2 43 74 ad w [.ref (ad (110 + i)), .int k] (fun r w1 => w = w1 ∧ (sbyt.getD i []).getD k.toNatClampNeg 0 = r) := by
  refine nk_i (own := "java/lang/StringLatin1") rfl (by decide) (Nat.le_of_ble_eq_true rfl) ?_
  intro p e s m below meth c ls X hD hN hr hlk h hl
  have hx := X.1.1
  have hb := X.1.2.1
  have hown := X.1.2.2.2.1
  have hts := X.1.2.2.2.2
  have hl : lv_has ls 2 [(0, .ref (ad (110 + i))), (1, .int k)] := hl
  obtain ⟨sl, hsl, hs0, hs6, hsi, hsh⟩ := sl_ex i hi
  refine lv_iload_n hx hb dJ1_charAt_3b067_0 rfl (lv_at hl 1 rfl) ?_
  refine lv_aload_n hx hb dJ1_charAt_3b067_1 rfl (lv_at hl 0 rfl) ?_
  refine va_tlen hx hb (hN.2.1.1 i hi).2.2.2 h.2 (v := sl) hsl dJ1_charAt_3b067_2 ?_
  refine n_Sv (na := 2) (As := [.int k, .int sl]) (rest := []) X hD hN h (c_S_check l G cI cB cZ cO ad w   k sl (by omega) (by first | decide | omega)) ⟨kv_363, kv_364, kv_356, kv_365⟩ ⟨by decide, by decide, by decide⟩ ⟨Nat.le_of_ble_eq_true rfl, Nat.le_of_ble_eq_true rfl⟩ ⟨Nat.zero_le _, Nat.zero_le _⟩ rfl hl.1 rfl (Nat.le_of_ble_eq_true rfl) dJ1_charAt_3b067_3 (fun w2 H locs hp3 h => ?_)
  obtain ⟨rfl, hr4⟩ := hp3
  refine lv_aload_n hx hb dJ1_charAt_3b067_6 rfl (lv_at hl 0 rfl) ?_
  refine lv_iload_n hx hb dJ1_charAt_3b067_7 rfl (lv_at hl 1 rfl) ?_
  refine va_tb hx hb (hN.2.1.1 i hi).2.2.2 h.2 (v := .int ((sbyt.getD i []).getD k.toNatClampNeg 0)) (in_of (by omega) (by omega)) rfl dJ1_charAt_3b067_8 ?_
  refine lv_sipush (v := 255) hx hb dJ1_charAt_3b067_9 (by decide) ?_
  obtain ⟨z5, e6⟩ : ∃ z : Int32, ((sbyt.getD i []).getD k.toNatClampNeg 0) &&& (255 : Int32) = z := ⟨_, rfl⟩
  refine o_iand (z := z5) hx hb dJ1_charAt_3b067_12 e6 ?_
  obtain ⟨z7, e8⟩ : ∃ z : Int32, (z5.toUInt32 % 65536).toInt32 = z := ⟨_, rfl⟩
  refine lv_i2c (v := z7) hx hb dJ1_charAt_3b067_13 e8 ?_
  exact e_n X h hr hlk (by rw [← e8]; exact pk_nc _) dJ1_charAt_3b067_14 ⟨rfl, ((sch i hi k.toNatClampNeg (by have := cl_of (x := k) (by omega); omega)).symm.trans (by rw [e6]; exact e8))⟩

set_option maxHeartbeats 4000000 in
set_option maxRecDepth 100000 in
theorem c_S_charAt (l : Launch) (G : va_G) (cI cB cZ cO : ClassId) (ad : Nat → Nat) (w : Nat → va_E) (i : Nat) (hi : i < 6)  (k : Int32) (hl_k : 0 ≤ k.toInt) (hh_k : k.toInt ≤ 5) (hk6 : k.toInt < (slen.getD i 0 : Nat)) : NI l G (tyq cI cB cZ cO) yJ0_charAt_5068e cJ0_charAt_5068e 2 (some .char) 3 64 74 ad w [.ref (ad (100 + i)), .int k] (fun r w1 => w = w1 ∧ (sbyt.getD i []).getD k.toNatClampNeg 0 = r) := by
  refine nk_i (own := "java/lang/String") rfl (by decide) (Nat.le_of_ble_eq_true rfl) ?_
  intro p e s m below meth c ls X hD hN hr hlk h hl
  have hx := X.1.1
  have hb := X.1.2.1
  have hown := X.1.2.2.2.1
  have hts := X.1.2.2.2.2
  have hl : lv_has ls 2 [(0, .ref (ad (100 + i))), (1, .int k)] := hl
  refine lv_aload_n hx hb dJ0_charAt_5068e_0 rfl (lv_at hl 0 rfl) ?_
  refine n_Ki (na := 0) (As := []) (rest := []) X hD hN h rfl hi (c_S_isLatin1 l G cI cB cZ cO ad w i hi    ) ⟨kv_366, kv_367, kv_368, kv_356, kv_369⟩ rfl ⟨by decide, by decide, by decide⟩ ⟨Nat.le_of_ble_eq_true rfl, Nat.le_of_ble_eq_true rfl⟩ ⟨Nat.zero_le _, Nat.zero_le _⟩ rfl hl.1 rfl (Nat.le_of_ble_eq_true rfl) dJ0_charAt_5068e_1 (fun r1 w2 H locs hp3 h => ?_)
  obtain ⟨rfl, hr4⟩ := hp3
  subst hr4
  refine lv_if_eq (tgt := 16) hx hb dJ0_charAt_5068e_4 (by decide) (fun hc => absurd hc (by decide)) (fun _ => ?_)
  refine lv_aload_n hx hb dJ0_charAt_5068e_7 rfl (lv_at hl 0 rfl) ?_
  refine vk_getf hx hb (hN.2.1.1 i hi).2.2.1 h.2 hown (hts _ kv_352) (fun _ h9 => h9) dJ0_charAt_5068e_8 ?_
  refine lv_iload_n hx hb dJ0_charAt_5068e_11 rfl (lv_at hl 1 rfl) ?_
  refine n_Si (na := 2) (As := [.ref (ad (110 + i)), .int k]) (rest := []) X hD hN h (c_L1_charAt l G cI cB cZ cO ad w i hi  k (by omega) (by omega) hk6) ⟨kv_370, kv_371, kv_372, kv_373⟩ ⟨by decide, by decide, by decide⟩ ⟨Nat.le_of_ble_eq_true rfl, Nat.le_of_ble_eq_true rfl⟩ ⟨Nat.zero_le _, Nat.zero_le _⟩ rfl hl.1 rfl (Nat.le_of_ble_eq_true rfl) dJ0_charAt_5068e_12 (fun r5 w6 H locs hp7 h => ?_)
  obtain ⟨rfl, hr8⟩ := hp7
  exact e_n X h hr hlk (by rw [← hr8, ← sch i hi _ (by have := cl_of (x := k) (by omega); omega)]; exact pk_nc _) dJ0_charAt_5068e_15 ⟨rfl, hr8⟩

set_option maxHeartbeats 4000000 in
set_option maxRecDepth 100000 in
theorem c_isLetter (l : Launch) (G : va_G) (cI cB cZ cO : ClassId) (ad : Nat → Nat) (w : Nat → va_E)   (x : Int32)   : NI l G (tyq cI cB cZ cO) yX7_isLetter cX7_isLetter 1 (some .boolean) 0 0 74 ad w [.int x] (fun r w1 => w = w1 ∧ ((97 ≤ x.toInt ∧ x.toInt ≤ 122 ∧ r = 1) ∨ (¬ (97 ≤ x.toInt ∧ x.toInt ≤ 122) ∧ r = 0))) := by
  refine nk_i (own := "NoonShade$Text") rfl (by decide) (Nat.le_of_ble_eq_true rfl) ?_
  intro p e s m below meth c ls X hD hN hr hlk h hl
  have hx := X.1.1
  have hb := X.1.2.1
  have hown := X.1.2.2.2.1
  have hts := X.1.2.2.2.2
  have hl : lv_has ls 1 [(0, .int x)] := hl
  refine lv_iload_n hx hb dX7_isLetter_0 rfl (lv_at hl 0 rfl) ?_
  refine lv_bipush (v := 97) hx hb dX7_isLetter_1 (by decide) ?_
  refine lv_icmp_lt (tgt := 16) hx hb dX7_isLetter_3 (by decide) (fun hc1 => ?_) (fun hc1 => ?_)
  · have hc1 : (x).toInt < 97 := i_lt hc1 rfl rfl
    refine lv_iconst (v := 0) hx hb dX7_isLetter_16 (by decide) ?_
    exact e_n X h hr hlk rfl dX7_isLetter_17 ⟨rfl, Or.inr ⟨by omega, rfl⟩⟩
  · have hc1 : ¬ (x).toInt < 97 := i_nlt hc1 rfl rfl
    refine lv_iload_n hx hb dX7_isLetter_6 rfl (lv_at hl 0 rfl) ?_
    refine lv_bipush (v := 122) hx hb dX7_isLetter_7 (by decide) ?_
    refine lv_icmp_gt (tgt := 16) hx hb dX7_isLetter_9 (by decide) (fun hc2 => ?_) (fun hc2 => ?_)
    · have hc2 : 122 < (x).toInt := i_lt hc2 rfl rfl
      refine lv_iconst (v := 0) hx hb dX7_isLetter_16 (by decide) ?_
      exact e_n X h hr hlk rfl dX7_isLetter_17 ⟨rfl, Or.inr ⟨by omega, rfl⟩⟩
    · have hc2 : ¬ 122 < (x).toInt := i_nlt hc2 rfl rfl
      refine lv_iconst (v := 1) hx hb dX7_isLetter_12 (by decide) ?_
      refine lv_goto (tgt := 17) hx hb dX7_isLetter_13 (by decide) ?_
      exact e_n X h hr hlk rfl dX7_isLetter_17 ⟨rfl, Or.inl ⟨by omega, by omega, rfl⟩⟩

set_option maxHeartbeats 4000000 in
set_option maxRecDepth 100000 in
theorem c_isFigure (l : Launch) (G : va_G) (cI cB cZ cO : ClassId) (ad : Nat → Nat) (w : Nat → va_E)   (x : Int32)   : NI l G (tyq cI cB cZ cO) yX7_isFigure cX7_isFigure 1 (some .boolean) 0 0 74 ad w [.int x] (fun r w1 => w = w1 ∧ ((48 ≤ x.toInt ∧ x.toInt ≤ 57 ∧ r = 1) ∨ (¬ (48 ≤ x.toInt ∧ x.toInt ≤ 57) ∧ r = 0))) := by
  refine nk_i (own := "NoonShade$Text") rfl (by decide) (Nat.le_of_ble_eq_true rfl) ?_
  intro p e s m below meth c ls X hD hN hr hlk h hl
  have hx := X.1.1
  have hb := X.1.2.1
  have hown := X.1.2.2.2.1
  have hts := X.1.2.2.2.2
  have hl : lv_has ls 1 [(0, .int x)] := hl
  refine lv_iload_n hx hb dX7_isFigure_0 rfl (lv_at hl 0 rfl) ?_
  refine lv_bipush (v := 48) hx hb dX7_isFigure_1 (by decide) ?_
  refine lv_icmp_lt (tgt := 16) hx hb dX7_isFigure_3 (by decide) (fun hc1 => ?_) (fun hc1 => ?_)
  · have hc1 : (x).toInt < 48 := i_lt hc1 rfl rfl
    refine lv_iconst (v := 0) hx hb dX7_isFigure_16 (by decide) ?_
    exact e_n X h hr hlk rfl dX7_isFigure_17 ⟨rfl, Or.inr ⟨by omega, rfl⟩⟩
  · have hc1 : ¬ (x).toInt < 48 := i_nlt hc1 rfl rfl
    refine lv_iload_n hx hb dX7_isFigure_6 rfl (lv_at hl 0 rfl) ?_
    refine lv_bipush (v := 57) hx hb dX7_isFigure_7 (by decide) ?_
    refine lv_icmp_gt (tgt := 16) hx hb dX7_isFigure_9 (by decide) (fun hc2 => ?_) (fun hc2 => ?_)
    · have hc2 : 57 < (x).toInt := i_lt hc2 rfl rfl
      refine lv_iconst (v := 0) hx hb dX7_isFigure_16 (by decide) ?_
      exact e_n X h hr hlk rfl dX7_isFigure_17 ⟨rfl, Or.inr ⟨by omega, rfl⟩⟩
    · have hc2 : ¬ 57 < (x).toInt := i_nlt hc2 rfl rfl
      refine lv_iconst (v := 1) hx hb dX7_isFigure_12 (by decide) ?_
      refine lv_goto (tgt := 17) hx hb dX7_isFigure_13 (by decide) ?_
      exact e_n X h hr hlk rfl dX7_isFigure_17 ⟨rfl, Or.inl ⟨by omega, by omega, rfl⟩⟩

set_option maxHeartbeats 4000000 in
set_option maxRecDepth 100000 in
theorem c_isWord (l : Launch) (G : va_G) (cI cB cZ cO : ClassId) (ad : Nat → Nat) (w : Nat → va_E) (i : Nat) (hi : i < 6) (z a b c0 d : Int32) (ok : OK cI cB cZ cO ad w)   (pf : w 55 = .inr (5, [.ref (ad 56), .ref (ad 57), .int z, .int a, .int b, .int c0, .int d])) (hz1 : z.toInt ≤ 150) (ha0 : 0 ≤ a.toInt) (hab : a.toInt ≤ b.toInt) (hbz : b.toInt ≤ z.toInt) : NI l G (tyq cI cB cZ cO) yX7_isWord cX7_isWord 3 (some .boolean) 4 85 74 ad w [.ref (ad 55), .ref (ad (100 + i))] (fun r w1 => w = w1 ∧ (r = 1 ∨ r = 0)) := by
  refine nk_i (own := "NoonShade$Text") rfl (by decide) (Nat.le_of_ble_eq_true rfl) ?_
  intro p e s m below meth c ls X hD hN hr hlk h hl
  have hx := X.1.1
  have hb := X.1.2.1
  have hown := X.1.2.2.2.1
  have hts := X.1.2.2.2.2
  have hl : lv_has ls 3 [(0, .ref (ad 55)), (1, .ref (ad (100 + i)))] := hl
  obtain ⟨sl, hsl, hs0, hs6, hsi, hsh⟩ := sl_ex i hi
  refine lv_aload_n hx hb dX7_isWord_0 rfl (lv_at hl 1 rfl) ?_
  refine n_Ki (na := 0) (As := []) (rest := []) X hD hN h rfl hi (c_S_length l G cI cB cZ cO ad w i hi    ) ⟨kv_374, kv_375, kv_376, kv_356, kv_377⟩ rfl ⟨by decide, by decide, by decide⟩ ⟨Nat.le_of_ble_eq_true rfl, Nat.le_of_ble_eq_true rfl⟩ ⟨Nat.zero_le _, Nat.zero_le _⟩ rfl hl.1 rfl (Nat.le_of_ble_eq_true rfl) dX7_isWord_1 (fun r1 w2 H locs hp3 h => ?_)
  obtain ⟨rfl, hr4⟩ := hp3
  have q5 : sl = r1 := hsl.symm.trans hr4
  subst q5
  refine lv_aload_n hx hb dX7_isWord_4 rfl (lv_at hl 0 rfl) ?_
  refine r_get kc7 X h 55 4 (by decide) rfl pf (by decide) kv_378 rfl dX7_isWord_5 ?_
  refine lv_aload_n hx hb dX7_isWord_8 rfl (lv_at hl 0 rfl) ?_
  refine r_get kc7 X h 55 3 (by decide) rfl pf (by decide) kv_379 rfl dX7_isWord_9 ?_
  obtain ⟨z8, e6, t7⟩ := x_sub (x := b) (y := a) (a := (b).toInt) (b := (a).toInt) rfl rfl (by omega) (by omega)
  refine o_isub (z := z8) hx hb dX7_isWord_12 e6 ?_
  refine lv_icmp_eq (tgt := 18) hx hb dX7_isWord_13 (by decide) (fun hc9 => ?_) (fun hc9 => ?_)
  · have hc9 : (sl).toInt = (z8).toInt := i_eq hc9 rfl rfl
    refine lv_iconst (v := 0) hx hb dX7_isWord_18 (by decide) ?_
    refine lv_istore_n (lv' := [(2, .int 0), (0, .ref (ad 55)), (1, .ref (ad (100 + i)))]) hx hb dX7_isWord_19 rfl hl (by decide) rfl (fun ls hl => ?_)
    have hloop11 : ∀ (d12 : Nat) (L10 : Int32) (H : Heap) (locs : List Loc) (ls : Array Slot), 0 ≤ L10.toInt → L10.toInt ≤ 6 → 6 - L10.toInt < (d12 : Int) → St G 74 ad (wA 74 ad s.heap.size) s.heap w H locs → lv_has ls 3 [(2, .int L10), (0, .ref (ad 55)), (1, .ref (ad (100 + i)))] → W p l e { frames := 4, cells := 0, slots := 0, locals := 85 } s m [.ref (ad 55), .ref (ad (100 + i))].toArray below meth c H locs 0 0 (MQ below (va_Qi (fun r w1 => w = w1 ∧ (r = 1 ∨ r = 0)) (Aft G 74 ad) (wA 74 ad s.heap.size)) [.ref (ad 55), .ref (ad (100 + i))].toArray s 0 0 (wA 74 ad s.heap.size)) (F0 m 20 ls []) := by
      intro d12
      induction d12 with
      | zero => intro L10 H locs ls hi15 hi16 hm14 h hl; exfalso; omega
      | succ d12 ih13 =>
        intro L10 H locs ls hi15 hi16 hm14 h hl
        refine lv_iload_n hx hb dX7_isWord_20 rfl (lv_at hl 0 rfl) ?_
        refine lv_aload_n hx hb dX7_isWord_21 rfl (lv_at hl 2 rfl) ?_
        refine n_Ki (na := 0) (As := []) (rest := [.int L10]) X hD hN h rfl hi (c_S_length l G cI cB cZ cO ad w i hi    ) ⟨kv_374, kv_375, kv_376, kv_356, kv_377⟩ rfl ⟨by decide, by decide, by decide⟩ ⟨Nat.le_of_ble_eq_true rfl, Nat.le_of_ble_eq_true rfl⟩ ⟨Nat.zero_le _, Nat.zero_le _⟩ rfl hl.1 rfl (Nat.le_of_ble_eq_true rfl) dX7_isWord_22 (fun r20 w21 H locs hp22 h => ?_)
        obtain ⟨rfl, hr23⟩ := hp22
        have q24 : sl = r20 := hsl.symm.trans hr23
        subst q24
        refine lv_icmp_ge (tgt := 55) hx hb dX7_isWord_25 (by decide) (fun hc25 => ?_) (fun hc25 => ?_)
        · have hc25 : (sl).toInt ≤ (L10).toInt := i_le hc25 rfl rfl
          refine lv_iconst (v := 1) hx hb dX7_isWord_55 (by decide) ?_
          exact e_n X h hr hlk rfl dX7_isWord_56 ⟨rfl, Or.inl rfl⟩
        · have hc25 : ¬ (sl).toInt ≤ (L10).toInt := i_nle hc25 rfl rfl
          refine lv_aload_n hx hb dX7_isWord_28 rfl (lv_at hl 1 rfl) ?_
          refine r_get kc7 X h 55 0 (by decide) rfl pf (by decide) kv_380 rfl dX7_isWord_29 ?_
          refine lv_aload_n hx hb dX7_isWord_32 rfl (lv_at hl 1 rfl) ?_
          refine r_get kc7 X h 55 3 (by decide) rfl pf (by decide) kv_379 rfl dX7_isWord_33 ?_
          refine lv_iload_n hx hb dX7_isWord_36 rfl (lv_at hl 0 rfl) ?_
          obtain ⟨z28, e26, t27⟩ := x_add (x := a) (y := L10) (a := (a).toInt) (b := (L10).toInt) rfl rfl (by omega) (by omega)
          refine o_iadd (z := z28) hx hb dX7_isWord_37 e26 ?_
          obtain ⟨g30, f29, p31⟩ := (show sA cB 150 (anyA) (w 56) from ok 56 (by decide))
          have f32 : w 56 = .inl (cB, 150, .inl g30) := f29
          obtain ⟨v33, e34⟩ : ∃ z : Int32, g30 (z28).toNatClampNeg = z := ⟨_, rfl⟩
          refine o_bald (v := v33) X h 56 1 (by decide) rfl f32 rfl (in_of (by omega) (by omega)) e34 dX7_isWord_38 ?_
          refine lv_aload_n hx hb dX7_isWord_39 rfl (lv_at hl 2 rfl) ?_
          refine lv_iload_n hx hb dX7_isWord_40 rfl (lv_at hl 0 rfl) ?_
          refine n_Ki (na := 1) (As := [.int L10]) (rest := [.int v33]) X hD hN h rfl hi (c_S_charAt l G cI cB cZ cO ad w i hi  L10 (by omega) (by omega) (by omega)) ⟨kv_381, kv_382, kv_383, kv_356, kv_384⟩ rfl ⟨by decide, by decide, by decide⟩ ⟨Nat.le_of_ble_eq_true rfl, Nat.le_of_ble_eq_true rfl⟩ ⟨Nat.zero_le _, Nat.zero_le _⟩ rfl hl.1 rfl (Nat.le_of_ble_eq_true rfl) dX7_isWord_41 (fun r36 w37 H locs hp38 h => ?_)
          obtain ⟨rfl, hr39⟩ := hp38
          refine lv_icmp_eq (tgt := 49) hx hb dX7_isWord_44 (by decide) (fun hc40 => ?_) (fun hc40 => ?_)
          · have hc40 : (v33).toInt = (r36).toInt := i_eq hc40 rfl rfl
            obtain ⟨z41, e42, t43⟩ := x_add (x := L10) (y := 1) (a := L10.toInt) (b := 1) rfl rfl (by omega) (by omega)
            refine lv_iinc (v := z41) (lv' := [(2, .int z41), (0, .ref (ad 55)), (1, .ref (ad (100 + i)))]) hx hb dX7_isWord_49 hl (k := 0) rfl e42 (by decide) rfl (fun ls hl => ?_)
            refine lv_goto (tgt := 20) hx hb dX7_isWord_52 (by decide) ?_
            exact ih13  z41  _ _ _ (by omega) (by omega)  (by omega) h (lv_sub hl [0, 1, 2] rfl)
          · have hc40 : ¬ (v33).toInt = (r36).toInt := i_ne hc40 rfl rfl
            refine lv_iconst (v := 0) hx hb dX7_isWord_47 (by decide) ?_
            exact e_n X h hr hlk rfl dX7_isWord_48 ⟨rfl, Or.inr rfl⟩
    exact hloop11 7 (0 : Int32)  _ _ _ (by have q0 : (0 : Int32).toInt = 0 := rfl; omega) (by have q0 : (0 : Int32).toInt = 0 := rfl; omega)  (by have q0 : (0 : Int32).toInt = 0 := rfl; omega) h (lv_sub hl [0, 1, 2] rfl)
  · have hc9 : ¬ (sl).toInt = (z8).toInt := i_ne hc9 rfl rfl
    refine lv_iconst (v := 0) hx hb dX7_isWord_16 (by decide) ?_
    exact e_n X h hr hlk rfl dX7_isWord_17 ⟨rfl, Or.inr rfl⟩

set_option maxHeartbeats 4000000 in
set_option maxRecDepth 100000 in
theorem c_wordNumber (l : Launch) (G : va_G) (cI cB cZ cO : ClassId) (ad : Nat → Nat) (w : Nat → va_E) (z a b c0 d : Int32) (ok : OK cI cB cZ cO ad w)   (pf : w 55 = .inr (5, [.ref (ad 56), .ref (ad 57), .int z, .int a, .int b, .int c0, .int d])) (hz1 : z.toInt ≤ 150) (ha0 : 0 ≤ a.toInt) (hab : a.toInt ≤ b.toInt) (hbz : b.toInt ≤ z.toInt) : NI l G (tyq cI cB cZ cO) yX7_wordNumber cX7_wordNumber 1 (some .int) 5 107 74 ad w [.ref (ad 55)] (fun r w1 => w = w1 ∧ (-1) ≤ r.toInt ∧ r.toInt ≤ 5) := by
  refine nk_i (own := "NoonShade$Text") rfl (by decide) (Nat.le_of_ble_eq_true rfl) ?_
  intro p e s m below meth c ls X hD hN hr hlk h hl
  have hx := X.1.1
  have hb := X.1.2.1
  have hown := X.1.2.2.2.1
  have hts := X.1.2.2.2.2
  have hl : lv_has ls 1 [(0, .ref (ad 55))] := hl
  refine lv_aload_n hx hb dX7_wordNumber_0 rfl (lv_at hl 0 rfl) ?_
  refine va_ldcS hx hb hown (hN.2.2.1 (128, "island", 0) (by decide)) dX7_wordNumber_1 ?_
  refine n_Vi (na := 1) (As := [.ref (ad 100)]) (rest := []) X hD hN h rfl (c_isWord l G cI cB cZ cO ad w 0 (by decide) z a b c0 d ok   pf (by first | omega | decide | (simp only [k00]; omega)) (by first | omega | decide | (simp only [k00]; omega)) (by first | omega | decide | (simp only [k00]; omega)) (by first | omega | decide | (simp only [k00]; omega))) ⟨kv_385, kv_386, kv_387, kv_388, kv_389⟩ rfl ⟨by decide, by decide, by decide⟩ ⟨Nat.le_of_ble_eq_true rfl, Nat.le_of_ble_eq_true rfl⟩ ⟨Nat.zero_le _, Nat.zero_le _⟩ (by decide) pf rfl rfl hl.1 rfl (Nat.le_of_ble_eq_true rfl) dX7_wordNumber_3 (fun r1 w2 H locs hp3 h => ?_)
  obtain ⟨rfl, hr4⟩ := hp3
  rcases hr4 with rfl | rfl
  · refine lv_if_eq (tgt := 11) hx hb dX7_wordNumber_6 (by decide) (fun hc => absurd hc (by decide)) (fun _ => ?_)
    refine lv_iconst (v := 0) hx hb dX7_wordNumber_9 (by decide) ?_
    exact e_i X h hr hlk dX7_wordNumber_10 ⟨rfl, ⟨by decide, by decide⟩⟩
  · refine lv_if_eq (tgt := 11) hx hb dX7_wordNumber_6 (by decide) (fun _ => ?_) (fun hc => absurd (by decide) hc)
    refine lv_aload_n hx hb dX7_wordNumber_11 rfl (lv_at hl 0 rfl) ?_
    refine va_ldcS hx hb hown (hN.2.2.1 (134, "caster", 1) (by decide)) dX7_wordNumber_12 ?_
    refine n_Vi (na := 1) (As := [.ref (ad 101)]) (rest := []) X hD hN h rfl (c_isWord l G cI cB cZ cO ad w 1 (by decide) z a b c0 d ok   pf (by first | omega | decide | (simp only [k00]; omega)) (by first | omega | decide | (simp only [k00]; omega)) (by first | omega | decide | (simp only [k00]; omega)) (by first | omega | decide | (simp only [k00]; omega))) ⟨kv_385, kv_386, kv_387, kv_388, kv_389⟩ rfl ⟨by decide, by decide, by decide⟩ ⟨Nat.le_of_ble_eq_true rfl, Nat.le_of_ble_eq_true rfl⟩ ⟨Nat.zero_le _, Nat.zero_le _⟩ (by decide) pf rfl rfl hl.1 rfl (Nat.le_of_ble_eq_true rfl) dX7_wordNumber_14 (fun r5 w6 H locs hp7 h => ?_)
    obtain ⟨rfl, hr8⟩ := hp7
    rcases hr8 with rfl | rfl
    · refine lv_if_eq (tgt := 22) hx hb dX7_wordNumber_17 (by decide) (fun hc => absurd hc (by decide)) (fun _ => ?_)
      refine lv_iconst (v := 1) hx hb dX7_wordNumber_20 (by decide) ?_
      exact e_i X h hr hlk dX7_wordNumber_21 ⟨rfl, ⟨by decide, by decide⟩⟩
    · refine lv_if_eq (tgt := 22) hx hb dX7_wordNumber_17 (by decide) (fun _ => ?_) (fun hc => absurd (by decide) hc)
      refine lv_aload_n hx hb dX7_wordNumber_22 rfl (lv_at hl 0 rfl) ?_
      refine va_ldcS hx hb hown (hN.2.2.1 (136, "jar", 2) (by decide)) dX7_wordNumber_23 ?_
      refine n_Vi (na := 1) (As := [.ref (ad 102)]) (rest := []) X hD hN h rfl (c_isWord l G cI cB cZ cO ad w 2 (by decide) z a b c0 d ok   pf (by first | omega | decide | (simp only [k00]; omega)) (by first | omega | decide | (simp only [k00]; omega)) (by first | omega | decide | (simp only [k00]; omega)) (by first | omega | decide | (simp only [k00]; omega))) ⟨kv_385, kv_386, kv_387, kv_388, kv_389⟩ rfl ⟨by decide, by decide, by decide⟩ ⟨Nat.le_of_ble_eq_true rfl, Nat.le_of_ble_eq_true rfl⟩ ⟨Nat.zero_le _, Nat.zero_le _⟩ (by decide) pf rfl rfl hl.1 rfl (Nat.le_of_ble_eq_true rfl) dX7_wordNumber_25 (fun r9 w10 H locs hp11 h => ?_)
      obtain ⟨rfl, hr12⟩ := hp11
      rcases hr12 with rfl | rfl
      · refine lv_if_eq (tgt := 33) hx hb dX7_wordNumber_28 (by decide) (fun hc => absurd hc (by decide)) (fun _ => ?_)
        refine lv_iconst (v := 2) hx hb dX7_wordNumber_31 (by decide) ?_
        exact e_i X h hr hlk dX7_wordNumber_32 ⟨rfl, ⟨by decide, by decide⟩⟩
      · refine lv_if_eq (tgt := 33) hx hb dX7_wordNumber_28 (by decide) (fun _ => ?_) (fun hc => absurd (by decide) hc)
        refine lv_aload_n hx hb dX7_wordNumber_33 rfl (lv_at hl 0 rfl) ?_
        refine va_ldcS hx hb hown (hN.2.2.1 (138, "ladle", 3) (by decide)) dX7_wordNumber_34 ?_
        refine n_Vi (na := 1) (As := [.ref (ad 103)]) (rest := []) X hD hN h rfl (c_isWord l G cI cB cZ cO ad w 3 (by decide) z a b c0 d ok   pf (by first | omega | decide | (simp only [k00]; omega)) (by first | omega | decide | (simp only [k00]; omega)) (by first | omega | decide | (simp only [k00]; omega)) (by first | omega | decide | (simp only [k00]; omega))) ⟨kv_385, kv_386, kv_387, kv_388, kv_389⟩ rfl ⟨by decide, by decide, by decide⟩ ⟨Nat.le_of_ble_eq_true rfl, Nat.le_of_ble_eq_true rfl⟩ ⟨Nat.zero_le _, Nat.zero_le _⟩ (by decide) pf rfl rfl hl.1 rfl (Nat.le_of_ble_eq_true rfl) dX7_wordNumber_36 (fun r13 w14 H locs hp15 h => ?_)
        obtain ⟨rfl, hr16⟩ := hp15
        rcases hr16 with rfl | rfl
        · refine lv_if_eq (tgt := 44) hx hb dX7_wordNumber_39 (by decide) (fun hc => absurd hc (by decide)) (fun _ => ?_)
          refine lv_iconst (v := 3) hx hb dX7_wordNumber_42 (by decide) ?_
          exact e_i X h hr hlk dX7_wordNumber_43 ⟨rfl, ⟨by decide, by decide⟩⟩
        · refine lv_if_eq (tgt := 44) hx hb dX7_wordNumber_39 (by decide) (fun _ => ?_) (fun hc => absurd (by decide) hc)
          refine lv_aload_n hx hb dX7_wordNumber_44 rfl (lv_at hl 0 rfl) ?_
          refine va_ldcS hx hb hown (hN.2.2.1 (140, "pour", 4) (by decide)) dX7_wordNumber_45 ?_
          refine n_Vi (na := 1) (As := [.ref (ad 104)]) (rest := []) X hD hN h rfl (c_isWord l G cI cB cZ cO ad w 4 (by decide) z a b c0 d ok   pf (by first | omega | decide | (simp only [k00]; omega)) (by first | omega | decide | (simp only [k00]; omega)) (by first | omega | decide | (simp only [k00]; omega)) (by first | omega | decide | (simp only [k00]; omega))) ⟨kv_385, kv_386, kv_387, kv_388, kv_389⟩ rfl ⟨by decide, by decide, by decide⟩ ⟨Nat.le_of_ble_eq_true rfl, Nat.le_of_ble_eq_true rfl⟩ ⟨Nat.zero_le _, Nat.zero_le _⟩ (by decide) pf rfl rfl hl.1 rfl (Nat.le_of_ble_eq_true rfl) dX7_wordNumber_47 (fun r17 w18 H locs hp19 h => ?_)
          obtain ⟨rfl, hr20⟩ := hp19
          rcases hr20 with rfl | rfl
          · refine lv_if_eq (tgt := 55) hx hb dX7_wordNumber_50 (by decide) (fun hc => absurd hc (by decide)) (fun _ => ?_)
            refine lv_iconst (v := 4) hx hb dX7_wordNumber_53 (by decide) ?_
            exact e_i X h hr hlk dX7_wordNumber_54 ⟨rfl, ⟨by decide, by decide⟩⟩
          · refine lv_if_eq (tgt := 55) hx hb dX7_wordNumber_50 (by decide) (fun _ => ?_) (fun hc => absurd (by decide) hc)
            refine lv_aload_n hx hb dX7_wordNumber_55 rfl (lv_at hl 0 rfl) ?_
            refine va_ldcS hx hb hown (hN.2.2.1 (141, "hours", 5) (by decide)) dX7_wordNumber_56 ?_
            refine n_Vi (na := 1) (As := [.ref (ad 105)]) (rest := []) X hD hN h rfl (c_isWord l G cI cB cZ cO ad w 5 (by decide) z a b c0 d ok   pf (by first | omega | decide | (simp only [k00]; omega)) (by first | omega | decide | (simp only [k00]; omega)) (by first | omega | decide | (simp only [k00]; omega)) (by first | omega | decide | (simp only [k00]; omega))) ⟨kv_385, kv_386, kv_387, kv_388, kv_389⟩ rfl ⟨by decide, by decide, by decide⟩ ⟨Nat.le_of_ble_eq_true rfl, Nat.le_of_ble_eq_true rfl⟩ ⟨Nat.zero_le _, Nat.zero_le _⟩ (by decide) pf rfl rfl hl.1 rfl (Nat.le_of_ble_eq_true rfl) dX7_wordNumber_58 (fun r21 w22 H locs hp23 h => ?_)
            obtain ⟨rfl, hr24⟩ := hp23
            rcases hr24 with rfl | rfl
            · refine lv_if_eq (tgt := 68) hx hb dX7_wordNumber_61 (by decide) (fun hc => absurd hc (by decide)) (fun _ => ?_)
              refine lv_iconst (v := 5) hx hb dX7_wordNumber_64 (by decide) ?_
              refine lv_goto (tgt := 69) hx hb dX7_wordNumber_65 (by decide) ?_
              exact e_i X h hr hlk dX7_wordNumber_69 ⟨rfl, ⟨by decide, by decide⟩⟩
            · refine lv_if_eq (tgt := 68) hx hb dX7_wordNumber_61 (by decide) (fun _ => ?_) (fun hc => absurd (by decide) hc)
              refine lv_iconst (v := (-1)) hx hb dX7_wordNumber_68 (by decide) ?_
              exact e_i X h hr hlk dX7_wordNumber_69 ⟨rfl, ⟨by decide, by decide⟩⟩

set_option maxHeartbeats 4000000 in
set_option maxRecDepth 100000 in
theorem c_takeNumber (l : Launch) (G : va_G) (cI cB cZ cO : ClassId) (ad : Nat → Nat) (w : Nat → va_E) (z a b c0 d : Int32) (ok : OK cI cB cZ cO ad w)   (pf : w 55 = .inr (5, [.ref (ad 56), .ref (ad 57), .int z, .int a, .int b, .int c0, .int d])) (hz1 : z.toInt ≤ 150) (ha0 : 0 ≤ a.toInt) (hab : a.toInt ≤ b.toInt) (hbz : b.toInt ≤ z.toInt) (hd0 : 0 ≤ d.toInt) (hd1 : d.toInt ≤ 99) : NV l G (tyq cI cB cZ cO) yX7_takeNumber cX7_takeNumber 1 1 20 74 ad w [.ref (ad 55)] (fun w1 => OK cI cB cZ cO ad w1 ∧ F5 w w1 ∧ ∃ a1 b1 c1 d1 : Int32, w1 55 = .inr (5, [.ref (ad 56), .ref (ad 57), .int z, .int a1, .int b1, .int c1, .int d1]) ∧ 0 ≤ a1.toInt ∧ a1.toInt ≤ b1.toInt ∧ b1.toInt ≤ z.toInt) := by
  refine nk_v (own := "NoonShade$Text") rfl (by decide) (Nat.le_of_ble_eq_true rfl) ?_
  intro p e s m below meth c ls X hD hN hr hlk h hl
  have hx := X.1.1
  have hb := X.1.2.1
  have hown := X.1.2.2.2.1
  have hts := X.1.2.2.2.2
  have hl : lv_has ls 1 [(0, .ref (ad 55))] := hl
  refine lv_aload_n hx hb dX7_takeNumber_0 rfl (lv_at hl 0 rfl) ?_
  refine lv_iconst (v := 0) hx hb dX7_takeNumber_1 (by decide) ?_
  refine r_put kc7 X hD h 55 6 (by decide) rfl pf (by decide) kv_390 rfl rfl rfl (Nat.le_of_ble_eq_true rfl) dX7_takeNumber_2 (fun H locs w1 e2 h => ?_)
  have f3 : w1 55 = .inr (5, [.ref (ad 56), .ref (ad 57), .int z, .int a, .int b, .int c0, .int 0]) := (congrFun e2 _).trans (va_up_self _ _ _)
  have ok4 : OK cI cB cZ cO ad w1 := OK.up ok e2 (sT_mk (by omega) (by omega) (by decide) (by decide))
  have kx5 : F5 w w1 := F5.up F5.rf e2
  have hloop9 : ∀ (d10 : Nat) (C7 : Int32) (C8 : Int32) (wL6 : Nat → va_E) (H : Heap) (locs : List Loc) (ls : Array Slot), b.toInt ≤ C7.toInt → C7.toInt ≤ z.toInt → 0 ≤ C7.toInt → C7.toInt ≤ 150 → 0 ≤ C8.toInt → C8.toInt ≤ 99 → OK cI cB cZ cO ad wL6 → F5 w wL6 → wL6 55 = .inr (5, [.ref (ad 56), .ref (ad 57), .int z, .int a, .int C7, .int c0, .int C8]) → z.toInt - C7.toInt < (d10 : Int) → St G 74 ad (wA 74 ad s.heap.size) s.heap wL6 H locs → lv_has ls 1 [(0, .ref (ad 55))] → W p l e { frames := 1, cells := 0, slots := 0, locals := 20 } s m [.ref (ad 55)].toArray below meth c H locs 0 0 (MQ below (va_Qv (fun w1 => OK cI cB cZ cO ad w1 ∧ F5 w w1 ∧ ∃ a1 b1 c1 d1 : Int32, w1 55 = .inr (5, [.ref (ad 56), .ref (ad 57), .int z, .int a1, .int b1, .int c1, .int d1]) ∧ 0 ≤ a1.toInt ∧ a1.toInt ≤ b1.toInt ∧ b1.toInt ≤ z.toInt) (Aft G 74 ad) (wA 74 ad s.heap.size)) [.ref (ad 55)].toArray s 0 0 (wA 74 ad s.heap.size)) (F0 m 5 ls []) := by
    intro d10
    induction d10 with
    | zero => intro C7 C8 wL6 H locs ls hi13 hi14 hi15 hi16 hi17 hi18 ok19 kx20 cf21 hm12 h hl; exfalso; omega
    | succ d10 ih11 =>
      intro C7 C8 wL6 H locs ls hi13 hi14 hi15 hi16 hi17 hi18 ok19 kx20 cf21 hm12 h hl
      refine lv_aload_n hx hb dX7_takeNumber_5 rfl (lv_at hl 0 rfl) ?_
      refine r_get kc7 X h 55 4 (by decide) rfl cf21 (by decide) kv_378 rfl dX7_takeNumber_6 ?_
      refine lv_aload_n hx hb dX7_takeNumber_9 rfl (lv_at hl 0 rfl) ?_
      refine r_get kc7 X h 55 2 (by decide) rfl cf21 (by decide) kv_391 rfl dX7_takeNumber_10 ?_
      refine lv_icmp_ge (tgt := 71) hx hb dX7_takeNumber_13 (by decide) (fun hc23 => ?_) (fun hc23 => ?_)
      · have hc23 : (z).toInt ≤ (C7).toInt := i_le hc23 rfl rfl
        refine lv_aload_n hx hb dX7_takeNumber_71 rfl (lv_at hl 0 rfl) ?_
        refine lv_aload_n hx hb dX7_takeNumber_72 rfl (lv_at hl 0 rfl) ?_
        refine r_get kc7 X h 55 4 (by decide) rfl cf21 (by decide) kv_378 rfl dX7_takeNumber_73 ?_
        refine lv_aload_n hx hb dX7_takeNumber_76 rfl (lv_at hl 0 rfl) ?_
        refine r_get kc7 X h 55 3 (by decide) rfl cf21 (by decide) kv_379 rfl dX7_takeNumber_77 ?_
        obtain ⟨z26, e24, t25⟩ := x_sub (x := C7) (y := a) (a := (C7).toInt) (b := (a).toInt) rfl rfl (by omega) (by omega)
        refine o_isub (z := z26) hx hb dX7_takeNumber_80 e24 ?_
        refine lv_iconst (v := 2) hx hb dX7_takeNumber_81 (by decide) ?_
        refine lv_icmp_gt (tgt := 89) hx hb dX7_takeNumber_82 (by decide) (fun hc27 => ?_) (fun hc27 => ?_)
        · have hc27 : 2 < (z26).toInt := i_lt hc27 rfl rfl
          refine lv_iconst (v := 4) hx hb dX7_takeNumber_89 (by decide) ?_
          refine r_put kc7 X hD h 55 5 (by decide) rfl cf21 (by decide) kv_392 rfl rfl rfl (Nat.le_of_ble_eq_true rfl) dX7_takeNumber_90 (fun H locs w28 e29 h => ?_)
          have f30 : w28 55 = .inr (5, [.ref (ad 56), .ref (ad 57), .int z, .int a, .int C7, .int 4, .int C8]) := (congrFun e29 _).trans (va_up_self _ _ _)
          have ok31 : OK cI cB cZ cO ad w28 := OK.up ok19 e29 (sT_mk (by omega) (by omega) (by omega) (by omega))
          have kx32 : F5 w w28 := F5.up kx20 e29
          exact e_v X h hr hlk dX7_takeNumber_93 ⟨ok31, kx32, ⟨_, _, _, _, f30, by omega, by omega, by omega⟩⟩
        · have hc27 : ¬ 2 < (z26).toInt := i_nlt hc27 rfl rfl
          refine lv_iconst (v := 2) hx hb dX7_takeNumber_85 (by decide) ?_
          refine lv_goto (tgt := 90) hx hb dX7_takeNumber_86 (by decide) ?_
          refine r_put kc7 X hD h 55 5 (by decide) rfl cf21 (by decide) kv_392 rfl rfl rfl (Nat.le_of_ble_eq_true rfl) dX7_takeNumber_90 (fun H locs w33 e34 h => ?_)
          have f35 : w33 55 = .inr (5, [.ref (ad 56), .ref (ad 57), .int z, .int a, .int C7, .int 2, .int C8]) := (congrFun e34 _).trans (va_up_self _ _ _)
          have ok36 : OK cI cB cZ cO ad w33 := OK.up ok19 e34 (sT_mk (by omega) (by omega) (by omega) (by omega))
          have kx37 : F5 w w33 := F5.up kx20 e34
          exact e_v X h hr hlk dX7_takeNumber_93 ⟨ok36, kx37, ⟨_, _, _, _, f35, by omega, by omega, by omega⟩⟩
      · have hc23 : ¬ (z).toInt ≤ (C7).toInt := i_nle hc23 rfl rfl
        refine lv_aload_n hx hb dX7_takeNumber_16 rfl (lv_at hl 0 rfl) ?_
        refine r_get kc7 X h 55 0 (by decide) rfl cf21 (by decide) kv_380 rfl dX7_takeNumber_17 ?_
        refine lv_aload_n hx hb dX7_takeNumber_20 rfl (lv_at hl 0 rfl) ?_
        refine r_get kc7 X h 55 4 (by decide) rfl cf21 (by decide) kv_378 rfl dX7_takeNumber_21 ?_
        obtain ⟨g39, f38, p40⟩ := (show sA cB 150 (anyA) (wL6 56) from ok19 56 (by decide))
        have f41 : wL6 56 = .inl (cB, 150, .inl g39) := f38
        obtain ⟨v42, e43⟩ : ∃ z : Int32, g39 (C7).toNatClampNeg = z := ⟨_, rfl⟩
        refine o_bald (v := v42) X h 56 1 (by decide) rfl f41 rfl (in_of (by omega) (by omega)) e43 dX7_takeNumber_24 ?_
        refine n_Si (na := 1) (As := [.int v42]) (rest := []) X hD hN h (c_isFigure l G cI cB cZ cO ad wL6   v42  ) ⟨kv_393, kv_394, kv_388, kv_395⟩ ⟨by decide, by decide, by decide⟩ ⟨Nat.le_of_ble_eq_true rfl, Nat.le_of_ble_eq_true rfl⟩ ⟨Nat.zero_le _, Nat.zero_le _⟩ rfl hl.1 rfl (Nat.le_of_ble_eq_true rfl) dX7_takeNumber_25 (fun r45 w46 H locs hp47 h => ?_)
        obtain ⟨rfl, hr48⟩ := hp47
        rcases hr48 with ⟨hq49, hq50, rfl⟩ | ⟨hq51, rfl⟩
        · refine lv_if_eq (tgt := 71) hx hb dX7_takeNumber_28 (by decide) (fun hc => absurd hc (by decide)) (fun _ => ?_)
          refine lv_aload_n hx hb dX7_takeNumber_31 rfl (lv_at hl 0 rfl) ?_
          refine lv_bipush (v := 10) hx hb dX7_takeNumber_32 (by decide) ?_
          refine lv_aload_n hx hb dX7_takeNumber_34 rfl (lv_at hl 0 rfl) ?_
          refine r_get kc7 X h 55 6 (by decide) rfl cf21 (by decide) kv_390 rfl dX7_takeNumber_35 ?_
          obtain ⟨z54, e52, t53⟩ := x_mul (x := (10 : Int32)) (y := C8) (a := 10) (b := (C8).toInt) rfl rfl (by omega) (by omega)
          refine o_imul (z := z54) hx hb dX7_takeNumber_38 e52 ?_
          refine lv_aload_n hx hb dX7_takeNumber_39 rfl (lv_at hl 0 rfl) ?_
          refine r_get kc7 X h 55 0 (by decide) rfl cf21 (by decide) kv_380 rfl dX7_takeNumber_40 ?_
          refine lv_aload_n hx hb dX7_takeNumber_43 rfl (lv_at hl 0 rfl) ?_
          refine r_get kc7 X h 55 4 (by decide) rfl cf21 (by decide) kv_378 rfl dX7_takeNumber_44 ?_
          refine o_bald (v := v42) X h 56 1 (by decide) rfl f41 rfl (in_of (by omega) (by omega)) e43 dX7_takeNumber_47 ?_
          obtain ⟨z57, e55, t56⟩ := x_add (x := z54) (y := v42) (a := (z54).toInt) (b := (v42).toInt) rfl rfl (by omega) (by omega)
          refine o_iadd (z := z57) hx hb dX7_takeNumber_48 e55 ?_
          refine lv_bipush (v := 48) hx hb dX7_takeNumber_49 (by decide) ?_
          obtain ⟨z60, e58, t59⟩ := x_sub (x := z57) (y := (48 : Int32)) (a := (z57).toInt) (b := 48) rfl rfl (by omega) (by omega)
          refine o_isub (z := z60) hx hb dX7_takeNumber_51 e58 ?_
          refine lv_bipush (v := 100) hx hb dX7_takeNumber_52 (by decide) ?_
          obtain ⟨z63, e61, t62⟩ := x_rem (x := z60) (y := (100 : Int32)) (a := (z60).toInt) (b := 100) rfl rfl (by omega) (by omega)
          refine o_irem (z := z63) hx hb dX7_takeNumber_54 (by decide) e61 ?_
          refine r_put kc7 X hD h 55 6 (by decide) rfl cf21 (by decide) kv_390 rfl rfl rfl (Nat.le_of_ble_eq_true rfl) dX7_takeNumber_55 (fun H locs w64 e65 h => ?_)
          have f66 : w64 55 = .inr (5, [.ref (ad 56), .ref (ad 57), .int z, .int a, .int C7, .int c0, .int z63]) := (congrFun e65 _).trans (va_up_self _ _ _)
          have ok67 : OK cI cB cZ cO ad w64 := OK.up ok19 e65 (sT_mk (by omega) (by omega) (by omega) (by omega))
          have kx68 : F5 w w64 := F5.up kx20 e65
          refine lv_aload_n hx hb dX7_takeNumber_58 rfl (lv_at hl 0 rfl) ?_
          refine lv_dup hx hb dX7_takeNumber_59 rfl ?_
          refine r_get kc7 X h 55 4 (by decide) rfl f66 (by decide) kv_378 rfl dX7_takeNumber_60 ?_
          refine lv_iconst (v := 1) hx hb dX7_takeNumber_63 (by decide) ?_
          obtain ⟨z71, e69, t70⟩ := x_add (x := C7) (y := (1 : Int32)) (a := (C7).toInt) (b := 1) rfl rfl (by omega) (by omega)
          refine o_iadd (z := z71) hx hb dX7_takeNumber_64 e69 ?_
          refine r_put kc7 X hD h 55 4 (by decide) rfl f66 (by decide) kv_378 rfl rfl rfl (Nat.le_of_ble_eq_true rfl) dX7_takeNumber_65 (fun H locs w72 e73 h => ?_)
          have f74 : w72 55 = .inr (5, [.ref (ad 56), .ref (ad 57), .int z, .int a, .int z71, .int c0, .int z63]) := (congrFun e73 _).trans (va_up_self _ _ _)
          have ok75 : OK cI cB cZ cO ad w72 := OK.up ok67 e73 (sT_mk (by omega) (by omega) (by omega) (by omega))
          have kx76 : F5 w w72 := F5.up kx68 e73
          refine lv_goto (tgt := 5) hx hb dX7_takeNumber_68 (by decide) ?_
          exact ih11  z71 z63 w72 _ _ _ (by omega) (by omega) (by omega) (by omega) (by omega) (by omega) ok75 kx76 f74 (by omega) h (lv_sub hl [0] rfl)
        · refine lv_if_eq (tgt := 71) hx hb dX7_takeNumber_28 (by decide) (fun _ => ?_) (fun hc => absurd (by decide) hc)
          refine lv_aload_n hx hb dX7_takeNumber_71 rfl (lv_at hl 0 rfl) ?_
          refine lv_aload_n hx hb dX7_takeNumber_72 rfl (lv_at hl 0 rfl) ?_
          refine r_get kc7 X h 55 4 (by decide) rfl cf21 (by decide) kv_378 rfl dX7_takeNumber_73 ?_
          refine lv_aload_n hx hb dX7_takeNumber_76 rfl (lv_at hl 0 rfl) ?_
          refine r_get kc7 X h 55 3 (by decide) rfl cf21 (by decide) kv_379 rfl dX7_takeNumber_77 ?_
          obtain ⟨z79, e77, t78⟩ := x_sub (x := C7) (y := a) (a := (C7).toInt) (b := (a).toInt) rfl rfl (by omega) (by omega)
          refine o_isub (z := z79) hx hb dX7_takeNumber_80 e77 ?_
          refine lv_iconst (v := 2) hx hb dX7_takeNumber_81 (by decide) ?_
          refine lv_icmp_gt (tgt := 89) hx hb dX7_takeNumber_82 (by decide) (fun hc80 => ?_) (fun hc80 => ?_)
          · have hc80 : 2 < (z79).toInt := i_lt hc80 rfl rfl
            refine lv_iconst (v := 4) hx hb dX7_takeNumber_89 (by decide) ?_
            refine r_put kc7 X hD h 55 5 (by decide) rfl cf21 (by decide) kv_392 rfl rfl rfl (Nat.le_of_ble_eq_true rfl) dX7_takeNumber_90 (fun H locs w81 e82 h => ?_)
            have f83 : w81 55 = .inr (5, [.ref (ad 56), .ref (ad 57), .int z, .int a, .int C7, .int 4, .int C8]) := (congrFun e82 _).trans (va_up_self _ _ _)
            have ok84 : OK cI cB cZ cO ad w81 := OK.up ok19 e82 (sT_mk (by omega) (by omega) (by omega) (by omega))
            have kx85 : F5 w w81 := F5.up kx20 e82
            exact e_v X h hr hlk dX7_takeNumber_93 ⟨ok84, kx85, ⟨_, _, _, _, f83, by omega, by omega, by omega⟩⟩
          · have hc80 : ¬ 2 < (z79).toInt := i_nlt hc80 rfl rfl
            refine lv_iconst (v := 2) hx hb dX7_takeNumber_85 (by decide) ?_
            refine lv_goto (tgt := 90) hx hb dX7_takeNumber_86 (by decide) ?_
            refine r_put kc7 X hD h 55 5 (by decide) rfl cf21 (by decide) kv_392 rfl rfl rfl (Nat.le_of_ble_eq_true rfl) dX7_takeNumber_90 (fun H locs w86 e87 h => ?_)
            have f88 : w86 55 = .inr (5, [.ref (ad 56), .ref (ad 57), .int z, .int a, .int C7, .int 2, .int C8]) := (congrFun e87 _).trans (va_up_self _ _ _)
            have ok89 : OK cI cB cZ cO ad w86 := OK.up ok19 e87 (sT_mk (by omega) (by omega) (by omega) (by omega))
            have kx90 : F5 w w86 := F5.up kx20 e87
            exact e_v X h hr hlk dX7_takeNumber_93 ⟨ok89, kx90, ⟨_, _, _, _, f88, by omega, by omega, by omega⟩⟩
  exact hloop9 151 b (0 : Int32) w1 _ _ _ (by have q0 : (0 : Int32).toInt = 0 := rfl; omega) (by have q0 : (0 : Int32).toInt = 0 := rfl; omega) (by have q0 : (0 : Int32).toInt = 0 := rfl; omega) (by have q0 : (0 : Int32).toInt = 0 := rfl; omega) (by have q0 : (0 : Int32).toInt = 0 := rfl; omega) (by have q0 : (0 : Int32).toInt = 0 := rfl; omega) ok4 kx5 f3 (by have q0 : (0 : Int32).toInt = 0 := rfl; omega) h (lv_sub hl [0] rfl)

set_option maxHeartbeats 4000000 in
set_option maxRecDepth 100000 in
theorem c_step (l : Launch) (G : va_G) (cI cB cZ cO : ClassId) (ad : Nat → Nat) (w : Nat → va_E) (z a b c0 d : Int32) (ok : OK cI cB cZ cO ad w)   (pf : w 55 = .inr (5, [.ref (ad 56), .ref (ad 57), .int z, .int a, .int b, .int c0, .int d])) (hz1 : z.toInt ≤ 150) (hb0 : 0 ≤ b.toInt) (hbz : b.toInt ≤ z.toInt) (hd0 : 0 ≤ d.toInt) (hd1 : d.toInt ≤ 99) : NV l G (tyq cI cB cZ cO) yX7_step cX7_step 1 2 40 74 ad w [.ref (ad 55)] (fun w1 => OK cI cB cZ cO ad w1 ∧ F5 w w1 ∧ ∃ a1 b1 c1 d1 : Int32, w1 55 = .inr (5, [.ref (ad 56), .ref (ad 57), .int z, .int a1, .int b1, .int c1, .int d1]) ∧ 0 ≤ a1.toInt ∧ a1.toInt ≤ b1.toInt ∧ b1.toInt ≤ z.toInt) := by
  refine nk_v (own := "NoonShade$Text") rfl (by decide) (Nat.le_of_ble_eq_true rfl) ?_
  intro p e s m below meth c ls X hD hN hr hlk h hl
  have hx := X.1.1
  have hb := X.1.2.1
  have hown := X.1.2.2.2.1
  have hts := X.1.2.2.2.2
  have hl : lv_has ls 1 [(0, .ref (ad 55))] := hl
  have hloop3 : ∀ (d4 : Nat) (C2 : Int32) (wL1 : Nat → va_E) (H : Heap) (locs : List Loc) (ls : Array Slot), C2.toInt ≤ z.toInt → 0 ≤ C2.toInt → C2.toInt ≤ 150 → OK cI cB cZ cO ad wL1 → F5 w wL1 → wL1 55 = .inr (5, [.ref (ad 56), .ref (ad 57), .int z, .int a, .int C2, .int c0, .int d]) → z.toInt - C2.toInt < (d4 : Int) → St G 74 ad (wA 74 ad s.heap.size) s.heap wL1 H locs → lv_has ls 1 [(0, .ref (ad 55))] → W p l e { frames := 2, cells := 0, slots := 0, locals := 40 } s m [.ref (ad 55)].toArray below meth c H locs 0 0 (MQ below (va_Qv (fun w1 => OK cI cB cZ cO ad w1 ∧ F5 w w1 ∧ ∃ a1 b1 c1 d1 : Int32, w1 55 = .inr (5, [.ref (ad 56), .ref (ad 57), .int z, .int a1, .int b1, .int c1, .int d1]) ∧ 0 ≤ a1.toInt ∧ a1.toInt ≤ b1.toInt ∧ b1.toInt ≤ z.toInt) (Aft G 74 ad) (wA 74 ad s.heap.size)) [.ref (ad 55)].toArray s 0 0 (wA 74 ad s.heap.size)) (F0 m 0 ls []) := by
    intro d4
    induction d4 with
    | zero => intro C2 wL1 H locs ls hi7 hi8 hi9 ok10 kx11 cf12 hm6 h hl; exfalso; omega
    | succ d4 ih5 =>
      intro C2 wL1 H locs ls hi7 hi8 hi9 ok10 kx11 cf12 hm6 h hl
      refine lv_aload_n hx hb dX7_step_0 rfl (lv_at hl 0 rfl) ?_
      refine r_get kc7 X h 55 4 (by decide) rfl cf12 (by decide) kv_378 rfl dX7_step_1 ?_
      refine lv_aload_n hx hb dX7_step_4 rfl (lv_at hl 0 rfl) ?_
      refine r_get kc7 X h 55 2 (by decide) rfl cf12 (by decide) kv_391 rfl dX7_step_5 ?_
      refine lv_icmp_ge (tgt := 38) hx hb dX7_step_8 (by decide) (fun hc14 => ?_) (fun hc14 => ?_)
      · have hc14 : (z).toInt ≤ (C2).toInt := i_le hc14 rfl rfl
        refine lv_aload_n hx hb dX7_step_38 rfl (lv_at hl 0 rfl) ?_
        refine lv_aload_n hx hb dX7_step_39 rfl (lv_at hl 0 rfl) ?_
        refine r_get kc7 X h 55 4 (by decide) rfl cf12 (by decide) kv_378 rfl dX7_step_40 ?_
        refine r_put kc7 X hD h 55 3 (by decide) rfl cf12 (by decide) kv_379 rfl rfl rfl (Nat.le_of_ble_eq_true rfl) dX7_step_43 (fun H locs w15 e16 h => ?_)
        have f17 : w15 55 = .inr (5, [.ref (ad 56), .ref (ad 57), .int z, .int C2, .int C2, .int c0, .int d]) := (congrFun e16 _).trans (va_up_self _ _ _)
        have ok18 : OK cI cB cZ cO ad w15 := OK.up ok10 e16 (sT_mk (by omega) (by omega) (by omega) (by omega))
        have kx19 : F5 w w15 := F5.up kx11 e16
        refine lv_aload_n hx hb dX7_step_46 rfl (lv_at hl 0 rfl) ?_
        refine r_get kc7 X h 55 4 (by decide) rfl f17 (by decide) kv_378 rfl dX7_step_47 ?_
        refine lv_aload_n hx hb dX7_step_50 rfl (lv_at hl 0 rfl) ?_
        refine r_get kc7 X h 55 2 (by decide) rfl f17 (by decide) kv_391 rfl dX7_step_51 ?_
        refine lv_icmp_lt (tgt := 65) hx hb dX7_step_54 (by decide) (fun hc20 => ?_) (fun hc20 => ?_)
        · have hc20 : (C2).toInt < (z).toInt := i_lt hc20 rfl rfl
          refine lv_aload_n hx hb dX7_step_65 rfl (lv_at hl 0 rfl) ?_
          refine r_get kc7 X h 55 0 (by decide) rfl f17 (by decide) kv_380 rfl dX7_step_66 ?_
          refine lv_aload_n hx hb dX7_step_69 rfl (lv_at hl 0 rfl) ?_
          refine r_get kc7 X h 55 4 (by decide) rfl f17 (by decide) kv_378 rfl dX7_step_70 ?_
          obtain ⟨g22, f21, p23⟩ := (show sA cB 150 (anyA) (w15 56) from ok18 56 (by decide))
          have f24 : w15 56 = .inl (cB, 150, .inl g22) := f21
          obtain ⟨v25, e26⟩ : ∃ z : Int32, g22 (C2).toNatClampNeg = z := ⟨_, rfl⟩
          refine o_bald (v := v25) X h 56 1 (by decide) rfl f24 rfl (in_of (by omega) (by omega)) e26 dX7_step_73 ?_
          refine n_Si (na := 1) (As := [.int v25]) (rest := []) X hD hN h (c_isLetter l G cI cB cZ cO ad w15   v25  ) ⟨kv_396, kv_397, kv_388, kv_398⟩ ⟨by decide, by decide, by decide⟩ ⟨Nat.le_of_ble_eq_true rfl, Nat.le_of_ble_eq_true rfl⟩ ⟨Nat.zero_le _, Nat.zero_le _⟩ rfl hl.1 rfl (Nat.le_of_ble_eq_true rfl) dX7_step_74 (fun r28 w29 H locs hp30 h => ?_)
          obtain ⟨rfl, hr31⟩ := hp30
          rcases hr31 with ⟨hq32, hq33, rfl⟩ | ⟨hq34, rfl⟩
          · refine lv_if_eq (tgt := 124) hx hb dX7_step_77 (by decide) (fun hc => absurd hc (by decide)) (fun _ => ?_)
            refine lv_aload_n hx hb dX7_step_80 rfl (lv_at hl 0 rfl) ?_
            refine lv_iconst (v := 1) hx hb dX7_step_81 (by decide) ?_
            refine r_put kc7 X hD h 55 5 (by decide) rfl f17 (by decide) kv_392 rfl rfl rfl (Nat.le_of_ble_eq_true rfl) dX7_step_82 (fun H locs w35 e36 h => ?_)
            have f37 : w35 55 = .inr (5, [.ref (ad 56), .ref (ad 57), .int z, .int C2, .int C2, .int 1, .int d]) := (congrFun e36 _).trans (va_up_self _ _ _)
            have ok38 : OK cI cB cZ cO ad w35 := OK.up ok18 e36 (sT_mk (by omega) (by omega) (by omega) (by omega))
            have kx39 : F5 w w35 := F5.up kx19 e36
            have hloop42 : ∀ (d43 : Nat) (C41 : Int32) (wL40 : Nat → va_E) (H : Heap) (locs : List Loc) (ls : Array Slot), C2.toInt ≤ C41.toInt → C41.toInt ≤ z.toInt → 0 ≤ C41.toInt → C41.toInt ≤ 150 → OK cI cB cZ cO ad wL40 → F5 w wL40 → wL40 55 = .inr (5, [.ref (ad 56), .ref (ad 57), .int z, .int C2, .int C41, .int 1, .int d]) → z.toInt - C41.toInt < (d43 : Int) → St G 74 ad (wA 74 ad s.heap.size) s.heap wL40 H locs → lv_has ls 1 [(0, .ref (ad 55))] → W p l e { frames := 2, cells := 0, slots := 0, locals := 40 } s m [.ref (ad 55)].toArray below meth c H locs 0 0 (MQ below (va_Qv (fun w1 => OK cI cB cZ cO ad w1 ∧ F5 w w1 ∧ ∃ a1 b1 c1 d1 : Int32, w1 55 = .inr (5, [.ref (ad 56), .ref (ad 57), .int z, .int a1, .int b1, .int c1, .int d1]) ∧ 0 ≤ a1.toInt ∧ a1.toInt ≤ b1.toInt ∧ b1.toInt ≤ z.toInt) (Aft G 74 ad) (wA 74 ad s.heap.size)) [.ref (ad 55)].toArray s 0 0 (wA 74 ad s.heap.size)) (F0 m 85 ls []) := by
              intro d43
              induction d43 with
              | zero => intro C41 wL40 H locs ls hi46 hi47 hi48 hi49 ok50 kx51 cf52 hm45 h hl; exfalso; omega
              | succ d43 ih44 =>
                intro C41 wL40 H locs ls hi46 hi47 hi48 hi49 ok50 kx51 cf52 hm45 h hl
                refine lv_aload_n hx hb dX7_step_85 rfl (lv_at hl 0 rfl) ?_
                refine r_get kc7 X h 55 4 (by decide) rfl cf52 (by decide) kv_378 rfl dX7_step_86 ?_
                refine lv_aload_n hx hb dX7_step_89 rfl (lv_at hl 0 rfl) ?_
                refine r_get kc7 X h 55 2 (by decide) rfl cf52 (by decide) kv_391 rfl dX7_step_90 ?_
                refine lv_icmp_ge (tgt := 179) hx hb dX7_step_93 (by decide) (fun hc54 => ?_) (fun hc54 => ?_)
                · have hc54 : (z).toInt ≤ (C41).toInt := i_le hc54 rfl rfl
                  exact e_v X h hr hlk dX7_step_179 ⟨ok50, kx51, ⟨_, _, _, _, cf52, by omega, by omega, by omega⟩⟩
                · have hc54 : ¬ (z).toInt ≤ (C41).toInt := i_nle hc54 rfl rfl
                  refine lv_aload_n hx hb dX7_step_96 rfl (lv_at hl 0 rfl) ?_
                  refine r_get kc7 X h 55 0 (by decide) rfl cf52 (by decide) kv_380 rfl dX7_step_97 ?_
                  refine lv_aload_n hx hb dX7_step_100 rfl (lv_at hl 0 rfl) ?_
                  refine r_get kc7 X h 55 4 (by decide) rfl cf52 (by decide) kv_378 rfl dX7_step_101 ?_
                  obtain ⟨g56, f55, p57⟩ := (show sA cB 150 (anyA) (wL40 56) from ok50 56 (by decide))
                  have f58 : wL40 56 = .inl (cB, 150, .inl g56) := f55
                  obtain ⟨v59, e60⟩ : ∃ z : Int32, g56 (C41).toNatClampNeg = z := ⟨_, rfl⟩
                  refine o_bald (v := v59) X h 56 1 (by decide) rfl f58 rfl (in_of (by omega) (by omega)) e60 dX7_step_104 ?_
                  refine n_Si (na := 1) (As := [.int v59]) (rest := []) X hD hN h (c_isLetter l G cI cB cZ cO ad wL40   v59  ) ⟨kv_396, kv_397, kv_388, kv_398⟩ ⟨by decide, by decide, by decide⟩ ⟨Nat.le_of_ble_eq_true rfl, Nat.le_of_ble_eq_true rfl⟩ ⟨Nat.zero_le _, Nat.zero_le _⟩ rfl hl.1 rfl (Nat.le_of_ble_eq_true rfl) dX7_step_105 (fun r62 w63 H locs hp64 h => ?_)
                  obtain ⟨rfl, hr65⟩ := hp64
                  rcases hr65 with ⟨hq66, hq67, rfl⟩ | ⟨hq68, rfl⟩
                  · refine lv_if_eq (tgt := 179) hx hb dX7_step_108 (by decide) (fun hc => absurd hc (by decide)) (fun _ => ?_)
                    refine lv_aload_n hx hb dX7_step_111 rfl (lv_at hl 0 rfl) ?_
                    refine lv_dup hx hb dX7_step_112 rfl ?_
                    refine r_get kc7 X h 55 4 (by decide) rfl cf52 (by decide) kv_378 rfl dX7_step_113 ?_
                    refine lv_iconst (v := 1) hx hb dX7_step_116 (by decide) ?_
                    obtain ⟨z71, e69, t70⟩ := x_add (x := C41) (y := (1 : Int32)) (a := (C41).toInt) (b := 1) rfl rfl (by omega) (by omega)
                    refine o_iadd (z := z71) hx hb dX7_step_117 e69 ?_
                    refine r_put kc7 X hD h 55 4 (by decide) rfl cf52 (by decide) kv_378 rfl rfl rfl (Nat.le_of_ble_eq_true rfl) dX7_step_118 (fun H locs w72 e73 h => ?_)
                    have f74 : w72 55 = .inr (5, [.ref (ad 56), .ref (ad 57), .int z, .int C2, .int z71, .int 1, .int d]) := (congrFun e73 _).trans (va_up_self _ _ _)
                    have ok75 : OK cI cB cZ cO ad w72 := OK.up ok50 e73 (sT_mk (by omega) (by omega) (by omega) (by omega))
                    have kx76 : F5 w w72 := F5.up kx51 e73
                    refine lv_goto (tgt := 85) hx hb dX7_step_121 (by decide) ?_
                    exact ih44  z71 w72 _ _ _ (by omega) (by omega) (by omega) (by omega) ok75 kx76 f74 (by omega) h (lv_sub hl [0] rfl)
                  · refine lv_if_eq (tgt := 179) hx hb dX7_step_108 (by decide) (fun _ => ?_) (fun hc => absurd (by decide) hc)
                    exact e_v X h hr hlk dX7_step_179 ⟨ok50, kx51, ⟨_, _, _, _, cf52, by omega, by omega, by omega⟩⟩
            exact hloop42 151 C2 w35 _ _ _ (by omega) (by omega) (by omega) (by omega) ok38 kx39 f37 (by omega) h (lv_sub hl [0] rfl)
          · refine lv_if_eq (tgt := 124) hx hb dX7_step_77 (by decide) (fun _ => ?_) (fun hc => absurd (by decide) hc)
            refine lv_aload_n hx hb dX7_step_124 rfl (lv_at hl 0 rfl) ?_
            refine r_get kc7 X h 55 0 (by decide) rfl f17 (by decide) kv_380 rfl dX7_step_125 ?_
            refine lv_aload_n hx hb dX7_step_128 rfl (lv_at hl 0 rfl) ?_
            refine r_get kc7 X h 55 4 (by decide) rfl f17 (by decide) kv_378 rfl dX7_step_129 ?_
            refine o_bald (v := v25) X h 56 1 (by decide) rfl f24 rfl (in_of (by omega) (by omega)) e26 dX7_step_132 ?_
            refine n_Si (na := 1) (As := [.int v25]) (rest := []) X hD hN h (c_isFigure l G cI cB cZ cO ad w15   v25  ) ⟨kv_393, kv_394, kv_388, kv_395⟩ ⟨by decide, by decide, by decide⟩ ⟨Nat.le_of_ble_eq_true rfl, Nat.le_of_ble_eq_true rfl⟩ ⟨Nat.zero_le _, Nat.zero_le _⟩ rfl hl.1 rfl (Nat.le_of_ble_eq_true rfl) dX7_step_133 (fun r77 w78 H locs hp79 h => ?_)
            obtain ⟨rfl, hr80⟩ := hp79
            rcases hr80 with ⟨hq81, hq82, rfl⟩ | ⟨hq83, rfl⟩
            · refine lv_if_eq (tgt := 146) hx hb dX7_step_136 (by decide) (fun hc => absurd hc (by decide)) (fun _ => ?_)
              refine lv_aload_n hx hb dX7_step_139 rfl (lv_at hl 0 rfl) ?_
              refine n_Vv (na := 0) (As := []) (rest := []) X hD hN h rfl (c_takeNumber l G cI cB cZ cO ad w15 z C2 C2 c0 d ok18 f17 (by first | omega | decide | (simp only [k00]; omega)) (by first | omega | decide | (simp only [k00]; omega)) (by first | omega | decide | (simp only [k00]; omega)) (by first | omega | decide | (simp only [k00]; omega)) (by first | omega | decide | (simp only [k00]; omega)) (by first | omega | decide | (simp only [k00]; omega))) ⟨kv_399, kv_400, kv_401, kv_388, kv_402⟩ rfl ⟨by decide, by decide, by decide⟩ ⟨Nat.le_of_ble_eq_true rfl, Nat.le_of_ble_eq_true rfl⟩ ⟨Nat.zero_le _, Nat.zero_le _⟩ (by decide) f17 rfl rfl hl.1 rfl (Nat.le_of_ble_eq_true rfl) dX7_step_140 (fun w85 H locs hp86 h => ?_)
              obtain ⟨ok87, kk88, hr89⟩ := hp86
              obtain ⟨y90, y91, y92, y93, h94, h95, h96, h97⟩ := hr89
              have q98 : 0 ≤ y93.toInt ∧ y93.toInt ≤ 99 := txd ok87 h94
              have kx99 : F5 w w85 := F5.tr kx19 kk88
              refine lv_goto (tgt := 179) hx hb dX7_step_143 (by decide) ?_
              exact e_v X h hr hlk dX7_step_179 ⟨ok87, kx99, ⟨_, _, _, _, h94, by omega, by omega, by omega⟩⟩
            · refine lv_if_eq (tgt := 146) hx hb dX7_step_136 (by decide) (fun _ => ?_) (fun hc => absurd (by decide) hc)
              refine lv_aload_n hx hb dX7_step_146 rfl (lv_at hl 0 rfl) ?_
              refine lv_aload_n hx hb dX7_step_147 rfl (lv_at hl 0 rfl) ?_
              refine r_get kc7 X h 55 0 (by decide) rfl f17 (by decide) kv_380 rfl dX7_step_148 ?_
              refine lv_aload_n hx hb dX7_step_151 rfl (lv_at hl 0 rfl) ?_
              refine r_get kc7 X h 55 4 (by decide) rfl f17 (by decide) kv_378 rfl dX7_step_152 ?_
              refine o_bald (v := v25) X h 56 1 (by decide) rfl f24 rfl (in_of (by omega) (by omega)) e26 dX7_step_155 ?_
              refine lv_bipush (v := 59) hx hb dX7_step_156 (by decide) ?_
              refine lv_icmp_ne (tgt := 165) hx hb dX7_step_158 (by decide) (fun hc100 => ?_) (fun hc100 => ?_)
              · have hc100 : ¬ (v25).toInt = 59 := i_ne hc100 rfl rfl
                refine lv_iconst (v := 4) hx hb dX7_step_165 (by decide) ?_
                refine r_put kc7 X hD h 55 5 (by decide) rfl f17 (by decide) kv_392 rfl rfl rfl (Nat.le_of_ble_eq_true rfl) dX7_step_166 (fun H locs w101 e102 h => ?_)
                have f103 : w101 55 = .inr (5, [.ref (ad 56), .ref (ad 57), .int z, .int C2, .int C2, .int 4, .int d]) := (congrFun e102 _).trans (va_up_self _ _ _)
                have ok104 : OK cI cB cZ cO ad w101 := OK.up ok18 e102 (sT_mk (by omega) (by omega) (by omega) (by omega))
                have kx105 : F5 w w101 := F5.up kx19 e102
                refine lv_aload_n hx hb dX7_step_169 rfl (lv_at hl 0 rfl) ?_
                refine lv_dup hx hb dX7_step_170 rfl ?_
                refine r_get kc7 X h 55 4 (by decide) rfl f103 (by decide) kv_378 rfl dX7_step_171 ?_
                refine lv_iconst (v := 1) hx hb dX7_step_174 (by decide) ?_
                obtain ⟨z108, e106, t107⟩ := x_add (x := C2) (y := (1 : Int32)) (a := (C2).toInt) (b := 1) rfl rfl (by omega) (by omega)
                refine o_iadd (z := z108) hx hb dX7_step_175 e106 ?_
                refine r_put kc7 X hD h 55 4 (by decide) rfl f103 (by decide) kv_378 rfl rfl rfl (Nat.le_of_ble_eq_true rfl) dX7_step_176 (fun H locs w109 e110 h => ?_)
                have f111 : w109 55 = .inr (5, [.ref (ad 56), .ref (ad 57), .int z, .int C2, .int z108, .int 4, .int d]) := (congrFun e110 _).trans (va_up_self _ _ _)
                have ok112 : OK cI cB cZ cO ad w109 := OK.up ok104 e110 (sT_mk (by omega) (by omega) (by omega) (by omega))
                have kx113 : F5 w w109 := F5.up kx105 e110
                exact e_v X h hr hlk dX7_step_179 ⟨ok112, kx113, ⟨_, _, _, _, f111, by omega, by omega, by omega⟩⟩
              · have hc100 : (v25).toInt = 59 := i_eq hc100 rfl rfl
                refine lv_iconst (v := 3) hx hb dX7_step_161 (by decide) ?_
                refine lv_goto (tgt := 166) hx hb dX7_step_162 (by decide) ?_
                refine r_put kc7 X hD h 55 5 (by decide) rfl f17 (by decide) kv_392 rfl rfl rfl (Nat.le_of_ble_eq_true rfl) dX7_step_166 (fun H locs w114 e115 h => ?_)
                have f116 : w114 55 = .inr (5, [.ref (ad 56), .ref (ad 57), .int z, .int C2, .int C2, .int 3, .int d]) := (congrFun e115 _).trans (va_up_self _ _ _)
                have ok117 : OK cI cB cZ cO ad w114 := OK.up ok18 e115 (sT_mk (by omega) (by omega) (by omega) (by omega))
                have kx118 : F5 w w114 := F5.up kx19 e115
                refine lv_aload_n hx hb dX7_step_169 rfl (lv_at hl 0 rfl) ?_
                refine lv_dup hx hb dX7_step_170 rfl ?_
                refine r_get kc7 X h 55 4 (by decide) rfl f116 (by decide) kv_378 rfl dX7_step_171 ?_
                refine lv_iconst (v := 1) hx hb dX7_step_174 (by decide) ?_
                obtain ⟨z121, e119, t120⟩ := x_add (x := C2) (y := (1 : Int32)) (a := (C2).toInt) (b := 1) rfl rfl (by omega) (by omega)
                refine o_iadd (z := z121) hx hb dX7_step_175 e119 ?_
                refine r_put kc7 X hD h 55 4 (by decide) rfl f116 (by decide) kv_378 rfl rfl rfl (Nat.le_of_ble_eq_true rfl) dX7_step_176 (fun H locs w122 e123 h => ?_)
                have f124 : w122 55 = .inr (5, [.ref (ad 56), .ref (ad 57), .int z, .int C2, .int z121, .int 3, .int d]) := (congrFun e123 _).trans (va_up_self _ _ _)
                have ok125 : OK cI cB cZ cO ad w122 := OK.up ok117 e123 (sT_mk (by omega) (by omega) (by omega) (by omega))
                have kx126 : F5 w w122 := F5.up kx118 e123
                exact e_v X h hr hlk dX7_step_179 ⟨ok125, kx126, ⟨_, _, _, _, f124, by omega, by omega, by omega⟩⟩
        · have hc20 : ¬ (C2).toInt < (z).toInt := i_nlt hc20 rfl rfl
          refine lv_aload_n hx hb dX7_step_57 rfl (lv_at hl 0 rfl) ?_
          refine lv_iconst (v := 0) hx hb dX7_step_58 (by decide) ?_
          refine r_put kc7 X hD h 55 5 (by decide) rfl f17 (by decide) kv_392 rfl rfl rfl (Nat.le_of_ble_eq_true rfl) dX7_step_59 (fun H locs w127 e128 h => ?_)
          have f129 : w127 55 = .inr (5, [.ref (ad 56), .ref (ad 57), .int z, .int C2, .int C2, .int 0, .int d]) := (congrFun e128 _).trans (va_up_self _ _ _)
          have ok130 : OK cI cB cZ cO ad w127 := OK.up ok18 e128 (sT_mk (by omega) (by omega) (by omega) (by omega))
          have kx131 : F5 w w127 := F5.up kx19 e128
          refine lv_goto (tgt := 179) hx hb dX7_step_62 (by decide) ?_
          exact e_v X h hr hlk dX7_step_179 ⟨ok130, kx131, ⟨_, _, _, _, f129, by omega, by omega, by omega⟩⟩
      · have hc14 : ¬ (z).toInt ≤ (C2).toInt := i_nle hc14 rfl rfl
        refine lv_aload_n hx hb dX7_step_11 rfl (lv_at hl 0 rfl) ?_
        refine r_get kc7 X h 55 0 (by decide) rfl cf12 (by decide) kv_380 rfl dX7_step_12 ?_
        refine lv_aload_n hx hb dX7_step_15 rfl (lv_at hl 0 rfl) ?_
        refine r_get kc7 X h 55 4 (by decide) rfl cf12 (by decide) kv_378 rfl dX7_step_16 ?_
        obtain ⟨g133, f132, p134⟩ := (show sA cB 150 (anyA) (wL1 56) from ok10 56 (by decide))
        have f135 : wL1 56 = .inl (cB, 150, .inl g133) := f132
        obtain ⟨v136, e137⟩ : ∃ z : Int32, g133 (C2).toNatClampNeg = z := ⟨_, rfl⟩
        refine o_bald (v := v136) X h 56 1 (by decide) rfl f135 rfl (in_of (by omega) (by omega)) e137 dX7_step_19 ?_
        refine lv_bipush (v := 32) hx hb dX7_step_20 (by decide) ?_
        refine lv_icmp_ne (tgt := 38) hx hb dX7_step_22 (by decide) (fun hc139 => ?_) (fun hc139 => ?_)
        · have hc139 : ¬ (v136).toInt = 32 := i_ne hc139 rfl rfl
          refine lv_aload_n hx hb dX7_step_38 rfl (lv_at hl 0 rfl) ?_
          refine lv_aload_n hx hb dX7_step_39 rfl (lv_at hl 0 rfl) ?_
          refine r_get kc7 X h 55 4 (by decide) rfl cf12 (by decide) kv_378 rfl dX7_step_40 ?_
          refine r_put kc7 X hD h 55 3 (by decide) rfl cf12 (by decide) kv_379 rfl rfl rfl (Nat.le_of_ble_eq_true rfl) dX7_step_43 (fun H locs w140 e141 h => ?_)
          have f142 : w140 55 = .inr (5, [.ref (ad 56), .ref (ad 57), .int z, .int C2, .int C2, .int c0, .int d]) := (congrFun e141 _).trans (va_up_self _ _ _)
          have ok143 : OK cI cB cZ cO ad w140 := OK.up ok10 e141 (sT_mk (by omega) (by omega) (by omega) (by omega))
          have kx144 : F5 w w140 := F5.up kx11 e141
          refine lv_aload_n hx hb dX7_step_46 rfl (lv_at hl 0 rfl) ?_
          refine r_get kc7 X h 55 4 (by decide) rfl f142 (by decide) kv_378 rfl dX7_step_47 ?_
          refine lv_aload_n hx hb dX7_step_50 rfl (lv_at hl 0 rfl) ?_
          refine r_get kc7 X h 55 2 (by decide) rfl f142 (by decide) kv_391 rfl dX7_step_51 ?_
          refine lv_icmp_lt (tgt := 65) hx hb dX7_step_54 (by decide) (fun hc145 => ?_) (fun hc145 => ?_)
          · have hc145 : (C2).toInt < (z).toInt := i_lt hc145 rfl rfl
            refine lv_aload_n hx hb dX7_step_65 rfl (lv_at hl 0 rfl) ?_
            refine r_get kc7 X h 55 0 (by decide) rfl f142 (by decide) kv_380 rfl dX7_step_66 ?_
            refine lv_aload_n hx hb dX7_step_69 rfl (lv_at hl 0 rfl) ?_
            refine r_get kc7 X h 55 4 (by decide) rfl f142 (by decide) kv_378 rfl dX7_step_70 ?_
            have f146 : w140 56 = .inl (cB, 150, .inl g133) := by rw [e141, va_up_ne _ _ (by decide)]; exact f135
            refine o_bald (v := v136) X h 56 1 (by decide) rfl f146 rfl (in_of (by omega) (by omega)) e137 dX7_step_73 ?_
            refine n_Si (na := 1) (As := [.int v136]) (rest := []) X hD hN h (c_isLetter l G cI cB cZ cO ad w140   v136  ) ⟨kv_396, kv_397, kv_388, kv_398⟩ ⟨by decide, by decide, by decide⟩ ⟨Nat.le_of_ble_eq_true rfl, Nat.le_of_ble_eq_true rfl⟩ ⟨Nat.zero_le _, Nat.zero_le _⟩ rfl hl.1 rfl (Nat.le_of_ble_eq_true rfl) dX7_step_74 (fun r147 w148 H locs hp149 h => ?_)
            obtain ⟨rfl, hr150⟩ := hp149
            rcases hr150 with ⟨hq151, hq152, rfl⟩ | ⟨hq153, rfl⟩
            · refine lv_if_eq (tgt := 124) hx hb dX7_step_77 (by decide) (fun hc => absurd hc (by decide)) (fun _ => ?_)
              refine lv_aload_n hx hb dX7_step_80 rfl (lv_at hl 0 rfl) ?_
              refine lv_iconst (v := 1) hx hb dX7_step_81 (by decide) ?_
              refine r_put kc7 X hD h 55 5 (by decide) rfl f142 (by decide) kv_392 rfl rfl rfl (Nat.le_of_ble_eq_true rfl) dX7_step_82 (fun H locs w154 e155 h => ?_)
              have f156 : w154 55 = .inr (5, [.ref (ad 56), .ref (ad 57), .int z, .int C2, .int C2, .int 1, .int d]) := (congrFun e155 _).trans (va_up_self _ _ _)
              have ok157 : OK cI cB cZ cO ad w154 := OK.up ok143 e155 (sT_mk (by omega) (by omega) (by omega) (by omega))
              have kx158 : F5 w w154 := F5.up kx144 e155
              have hloop161 : ∀ (d162 : Nat) (C160 : Int32) (wL159 : Nat → va_E) (H : Heap) (locs : List Loc) (ls : Array Slot), C2.toInt ≤ C160.toInt → C160.toInt ≤ z.toInt → 0 ≤ C160.toInt → C160.toInt ≤ 150 → OK cI cB cZ cO ad wL159 → F5 w wL159 → wL159 55 = .inr (5, [.ref (ad 56), .ref (ad 57), .int z, .int C2, .int C160, .int 1, .int d]) → z.toInt - C160.toInt < (d162 : Int) → St G 74 ad (wA 74 ad s.heap.size) s.heap wL159 H locs → lv_has ls 1 [(0, .ref (ad 55))] → W p l e { frames := 2, cells := 0, slots := 0, locals := 40 } s m [.ref (ad 55)].toArray below meth c H locs 0 0 (MQ below (va_Qv (fun w1 => OK cI cB cZ cO ad w1 ∧ F5 w w1 ∧ ∃ a1 b1 c1 d1 : Int32, w1 55 = .inr (5, [.ref (ad 56), .ref (ad 57), .int z, .int a1, .int b1, .int c1, .int d1]) ∧ 0 ≤ a1.toInt ∧ a1.toInt ≤ b1.toInt ∧ b1.toInt ≤ z.toInt) (Aft G 74 ad) (wA 74 ad s.heap.size)) [.ref (ad 55)].toArray s 0 0 (wA 74 ad s.heap.size)) (F0 m 85 ls []) := by
                intro d162
                induction d162 with
                | zero => intro C160 wL159 H locs ls hi165 hi166 hi167 hi168 ok169 kx170 cf171 hm164 h hl; exfalso; omega
                | succ d162 ih163 =>
                  intro C160 wL159 H locs ls hi165 hi166 hi167 hi168 ok169 kx170 cf171 hm164 h hl
                  refine lv_aload_n hx hb dX7_step_85 rfl (lv_at hl 0 rfl) ?_
                  refine r_get kc7 X h 55 4 (by decide) rfl cf171 (by decide) kv_378 rfl dX7_step_86 ?_
                  refine lv_aload_n hx hb dX7_step_89 rfl (lv_at hl 0 rfl) ?_
                  refine r_get kc7 X h 55 2 (by decide) rfl cf171 (by decide) kv_391 rfl dX7_step_90 ?_
                  refine lv_icmp_ge (tgt := 179) hx hb dX7_step_93 (by decide) (fun hc173 => ?_) (fun hc173 => ?_)
                  · have hc173 : (z).toInt ≤ (C160).toInt := i_le hc173 rfl rfl
                    exact e_v X h hr hlk dX7_step_179 ⟨ok169, kx170, ⟨_, _, _, _, cf171, by omega, by omega, by omega⟩⟩
                  · have hc173 : ¬ (z).toInt ≤ (C160).toInt := i_nle hc173 rfl rfl
                    refine lv_aload_n hx hb dX7_step_96 rfl (lv_at hl 0 rfl) ?_
                    refine r_get kc7 X h 55 0 (by decide) rfl cf171 (by decide) kv_380 rfl dX7_step_97 ?_
                    refine lv_aload_n hx hb dX7_step_100 rfl (lv_at hl 0 rfl) ?_
                    refine r_get kc7 X h 55 4 (by decide) rfl cf171 (by decide) kv_378 rfl dX7_step_101 ?_
                    obtain ⟨g175, f174, p176⟩ := (show sA cB 150 (anyA) (wL159 56) from ok169 56 (by decide))
                    have f177 : wL159 56 = .inl (cB, 150, .inl g175) := f174
                    obtain ⟨v178, e179⟩ : ∃ z : Int32, g175 (C160).toNatClampNeg = z := ⟨_, rfl⟩
                    refine o_bald (v := v178) X h 56 1 (by decide) rfl f177 rfl (in_of (by omega) (by omega)) e179 dX7_step_104 ?_
                    refine n_Si (na := 1) (As := [.int v178]) (rest := []) X hD hN h (c_isLetter l G cI cB cZ cO ad wL159   v178  ) ⟨kv_396, kv_397, kv_388, kv_398⟩ ⟨by decide, by decide, by decide⟩ ⟨Nat.le_of_ble_eq_true rfl, Nat.le_of_ble_eq_true rfl⟩ ⟨Nat.zero_le _, Nat.zero_le _⟩ rfl hl.1 rfl (Nat.le_of_ble_eq_true rfl) dX7_step_105 (fun r181 w182 H locs hp183 h => ?_)
                    obtain ⟨rfl, hr184⟩ := hp183
                    rcases hr184 with ⟨hq185, hq186, rfl⟩ | ⟨hq187, rfl⟩
                    · refine lv_if_eq (tgt := 179) hx hb dX7_step_108 (by decide) (fun hc => absurd hc (by decide)) (fun _ => ?_)
                      refine lv_aload_n hx hb dX7_step_111 rfl (lv_at hl 0 rfl) ?_
                      refine lv_dup hx hb dX7_step_112 rfl ?_
                      refine r_get kc7 X h 55 4 (by decide) rfl cf171 (by decide) kv_378 rfl dX7_step_113 ?_
                      refine lv_iconst (v := 1) hx hb dX7_step_116 (by decide) ?_
                      obtain ⟨z190, e188, t189⟩ := x_add (x := C160) (y := (1 : Int32)) (a := (C160).toInt) (b := 1) rfl rfl (by omega) (by omega)
                      refine o_iadd (z := z190) hx hb dX7_step_117 e188 ?_
                      refine r_put kc7 X hD h 55 4 (by decide) rfl cf171 (by decide) kv_378 rfl rfl rfl (Nat.le_of_ble_eq_true rfl) dX7_step_118 (fun H locs w191 e192 h => ?_)
                      have f193 : w191 55 = .inr (5, [.ref (ad 56), .ref (ad 57), .int z, .int C2, .int z190, .int 1, .int d]) := (congrFun e192 _).trans (va_up_self _ _ _)
                      have ok194 : OK cI cB cZ cO ad w191 := OK.up ok169 e192 (sT_mk (by omega) (by omega) (by omega) (by omega))
                      have kx195 : F5 w w191 := F5.up kx170 e192
                      refine lv_goto (tgt := 85) hx hb dX7_step_121 (by decide) ?_
                      exact ih163  z190 w191 _ _ _ (by omega) (by omega) (by omega) (by omega) ok194 kx195 f193 (by omega) h (lv_sub hl [0] rfl)
                    · refine lv_if_eq (tgt := 179) hx hb dX7_step_108 (by decide) (fun _ => ?_) (fun hc => absurd (by decide) hc)
                      exact e_v X h hr hlk dX7_step_179 ⟨ok169, kx170, ⟨_, _, _, _, cf171, by omega, by omega, by omega⟩⟩
              exact hloop161 151 C2 w154 _ _ _ (by omega) (by omega) (by omega) (by omega) ok157 kx158 f156 (by omega) h (lv_sub hl [0] rfl)
            · refine lv_if_eq (tgt := 124) hx hb dX7_step_77 (by decide) (fun _ => ?_) (fun hc => absurd (by decide) hc)
              refine lv_aload_n hx hb dX7_step_124 rfl (lv_at hl 0 rfl) ?_
              refine r_get kc7 X h 55 0 (by decide) rfl f142 (by decide) kv_380 rfl dX7_step_125 ?_
              refine lv_aload_n hx hb dX7_step_128 rfl (lv_at hl 0 rfl) ?_
              refine r_get kc7 X h 55 4 (by decide) rfl f142 (by decide) kv_378 rfl dX7_step_129 ?_
              refine o_bald (v := v136) X h 56 1 (by decide) rfl f146 rfl (in_of (by omega) (by omega)) e137 dX7_step_132 ?_
              refine n_Si (na := 1) (As := [.int v136]) (rest := []) X hD hN h (c_isFigure l G cI cB cZ cO ad w140   v136  ) ⟨kv_393, kv_394, kv_388, kv_395⟩ ⟨by decide, by decide, by decide⟩ ⟨Nat.le_of_ble_eq_true rfl, Nat.le_of_ble_eq_true rfl⟩ ⟨Nat.zero_le _, Nat.zero_le _⟩ rfl hl.1 rfl (Nat.le_of_ble_eq_true rfl) dX7_step_133 (fun r196 w197 H locs hp198 h => ?_)
              obtain ⟨rfl, hr199⟩ := hp198
              rcases hr199 with ⟨hq200, hq201, rfl⟩ | ⟨hq202, rfl⟩
              · refine lv_if_eq (tgt := 146) hx hb dX7_step_136 (by decide) (fun hc => absurd hc (by decide)) (fun _ => ?_)
                refine lv_aload_n hx hb dX7_step_139 rfl (lv_at hl 0 rfl) ?_
                refine n_Vv (na := 0) (As := []) (rest := []) X hD hN h rfl (c_takeNumber l G cI cB cZ cO ad w140 z C2 C2 c0 d ok143 f142 (by first | omega | decide | (simp only [k00]; omega)) (by first | omega | decide | (simp only [k00]; omega)) (by first | omega | decide | (simp only [k00]; omega)) (by first | omega | decide | (simp only [k00]; omega)) (by first | omega | decide | (simp only [k00]; omega)) (by first | omega | decide | (simp only [k00]; omega))) ⟨kv_399, kv_400, kv_401, kv_388, kv_402⟩ rfl ⟨by decide, by decide, by decide⟩ ⟨Nat.le_of_ble_eq_true rfl, Nat.le_of_ble_eq_true rfl⟩ ⟨Nat.zero_le _, Nat.zero_le _⟩ (by decide) f142 rfl rfl hl.1 rfl (Nat.le_of_ble_eq_true rfl) dX7_step_140 (fun w204 H locs hp205 h => ?_)
                obtain ⟨ok206, kk207, hr208⟩ := hp205
                obtain ⟨y209, y210, y211, y212, h213, h214, h215, h216⟩ := hr208
                have q217 : 0 ≤ y212.toInt ∧ y212.toInt ≤ 99 := txd ok206 h213
                have kx218 : F5 w w204 := F5.tr kx144 kk207
                refine lv_goto (tgt := 179) hx hb dX7_step_143 (by decide) ?_
                exact e_v X h hr hlk dX7_step_179 ⟨ok206, kx218, ⟨_, _, _, _, h213, by omega, by omega, by omega⟩⟩
              · refine lv_if_eq (tgt := 146) hx hb dX7_step_136 (by decide) (fun _ => ?_) (fun hc => absurd (by decide) hc)
                refine lv_aload_n hx hb dX7_step_146 rfl (lv_at hl 0 rfl) ?_
                refine lv_aload_n hx hb dX7_step_147 rfl (lv_at hl 0 rfl) ?_
                refine r_get kc7 X h 55 0 (by decide) rfl f142 (by decide) kv_380 rfl dX7_step_148 ?_
                refine lv_aload_n hx hb dX7_step_151 rfl (lv_at hl 0 rfl) ?_
                refine r_get kc7 X h 55 4 (by decide) rfl f142 (by decide) kv_378 rfl dX7_step_152 ?_
                refine o_bald (v := v136) X h 56 1 (by decide) rfl f146 rfl (in_of (by omega) (by omega)) e137 dX7_step_155 ?_
                refine lv_bipush (v := 59) hx hb dX7_step_156 (by decide) ?_
                refine lv_icmp_ne (tgt := 165) hx hb dX7_step_158 (by decide) (fun hc219 => ?_) (fun hc219 => ?_)
                · have hc219 : ¬ (v136).toInt = 59 := i_ne hc219 rfl rfl
                  refine lv_iconst (v := 4) hx hb dX7_step_165 (by decide) ?_
                  refine r_put kc7 X hD h 55 5 (by decide) rfl f142 (by decide) kv_392 rfl rfl rfl (Nat.le_of_ble_eq_true rfl) dX7_step_166 (fun H locs w220 e221 h => ?_)
                  have f222 : w220 55 = .inr (5, [.ref (ad 56), .ref (ad 57), .int z, .int C2, .int C2, .int 4, .int d]) := (congrFun e221 _).trans (va_up_self _ _ _)
                  have ok223 : OK cI cB cZ cO ad w220 := OK.up ok143 e221 (sT_mk (by omega) (by omega) (by omega) (by omega))
                  have kx224 : F5 w w220 := F5.up kx144 e221
                  refine lv_aload_n hx hb dX7_step_169 rfl (lv_at hl 0 rfl) ?_
                  refine lv_dup hx hb dX7_step_170 rfl ?_
                  refine r_get kc7 X h 55 4 (by decide) rfl f222 (by decide) kv_378 rfl dX7_step_171 ?_
                  refine lv_iconst (v := 1) hx hb dX7_step_174 (by decide) ?_
                  obtain ⟨z227, e225, t226⟩ := x_add (x := C2) (y := (1 : Int32)) (a := (C2).toInt) (b := 1) rfl rfl (by omega) (by omega)
                  refine o_iadd (z := z227) hx hb dX7_step_175 e225 ?_
                  refine r_put kc7 X hD h 55 4 (by decide) rfl f222 (by decide) kv_378 rfl rfl rfl (Nat.le_of_ble_eq_true rfl) dX7_step_176 (fun H locs w228 e229 h => ?_)
                  have f230 : w228 55 = .inr (5, [.ref (ad 56), .ref (ad 57), .int z, .int C2, .int z227, .int 4, .int d]) := (congrFun e229 _).trans (va_up_self _ _ _)
                  have ok231 : OK cI cB cZ cO ad w228 := OK.up ok223 e229 (sT_mk (by omega) (by omega) (by omega) (by omega))
                  have kx232 : F5 w w228 := F5.up kx224 e229
                  exact e_v X h hr hlk dX7_step_179 ⟨ok231, kx232, ⟨_, _, _, _, f230, by omega, by omega, by omega⟩⟩
                · have hc219 : (v136).toInt = 59 := i_eq hc219 rfl rfl
                  refine lv_iconst (v := 3) hx hb dX7_step_161 (by decide) ?_
                  refine lv_goto (tgt := 166) hx hb dX7_step_162 (by decide) ?_
                  refine r_put kc7 X hD h 55 5 (by decide) rfl f142 (by decide) kv_392 rfl rfl rfl (Nat.le_of_ble_eq_true rfl) dX7_step_166 (fun H locs w233 e234 h => ?_)
                  have f235 : w233 55 = .inr (5, [.ref (ad 56), .ref (ad 57), .int z, .int C2, .int C2, .int 3, .int d]) := (congrFun e234 _).trans (va_up_self _ _ _)
                  have ok236 : OK cI cB cZ cO ad w233 := OK.up ok143 e234 (sT_mk (by omega) (by omega) (by omega) (by omega))
                  have kx237 : F5 w w233 := F5.up kx144 e234
                  refine lv_aload_n hx hb dX7_step_169 rfl (lv_at hl 0 rfl) ?_
                  refine lv_dup hx hb dX7_step_170 rfl ?_
                  refine r_get kc7 X h 55 4 (by decide) rfl f235 (by decide) kv_378 rfl dX7_step_171 ?_
                  refine lv_iconst (v := 1) hx hb dX7_step_174 (by decide) ?_
                  obtain ⟨z240, e238, t239⟩ := x_add (x := C2) (y := (1 : Int32)) (a := (C2).toInt) (b := 1) rfl rfl (by omega) (by omega)
                  refine o_iadd (z := z240) hx hb dX7_step_175 e238 ?_
                  refine r_put kc7 X hD h 55 4 (by decide) rfl f235 (by decide) kv_378 rfl rfl rfl (Nat.le_of_ble_eq_true rfl) dX7_step_176 (fun H locs w241 e242 h => ?_)
                  have f243 : w241 55 = .inr (5, [.ref (ad 56), .ref (ad 57), .int z, .int C2, .int z240, .int 3, .int d]) := (congrFun e242 _).trans (va_up_self _ _ _)
                  have ok244 : OK cI cB cZ cO ad w241 := OK.up ok236 e242 (sT_mk (by omega) (by omega) (by omega) (by omega))
                  have kx245 : F5 w w241 := F5.up kx237 e242
                  exact e_v X h hr hlk dX7_step_179 ⟨ok244, kx245, ⟨_, _, _, _, f243, by omega, by omega, by omega⟩⟩
          · have hc145 : ¬ (C2).toInt < (z).toInt := i_nlt hc145 rfl rfl
            refine lv_aload_n hx hb dX7_step_57 rfl (lv_at hl 0 rfl) ?_
            refine lv_iconst (v := 0) hx hb dX7_step_58 (by decide) ?_
            refine r_put kc7 X hD h 55 5 (by decide) rfl f142 (by decide) kv_392 rfl rfl rfl (Nat.le_of_ble_eq_true rfl) dX7_step_59 (fun H locs w246 e247 h => ?_)
            have f248 : w246 55 = .inr (5, [.ref (ad 56), .ref (ad 57), .int z, .int C2, .int C2, .int 0, .int d]) := (congrFun e247 _).trans (va_up_self _ _ _)
            have ok249 : OK cI cB cZ cO ad w246 := OK.up ok143 e247 (sT_mk (by omega) (by omega) (by omega) (by omega))
            have kx250 : F5 w w246 := F5.up kx144 e247
            refine lv_goto (tgt := 179) hx hb dX7_step_62 (by decide) ?_
            exact e_v X h hr hlk dX7_step_179 ⟨ok249, kx250, ⟨_, _, _, _, f248, by omega, by omega, by omega⟩⟩
        · have hc139 : (v136).toInt = 32 := i_eq hc139 rfl rfl
          refine lv_aload_n hx hb dX7_step_25 rfl (lv_at hl 0 rfl) ?_
          refine lv_dup hx hb dX7_step_26 rfl ?_
          refine r_get kc7 X h 55 4 (by decide) rfl cf12 (by decide) kv_378 rfl dX7_step_27 ?_
          refine lv_iconst (v := 1) hx hb dX7_step_30 (by decide) ?_
          obtain ⟨z253, e251, t252⟩ := x_add (x := C2) (y := (1 : Int32)) (a := (C2).toInt) (b := 1) rfl rfl (by omega) (by omega)
          refine o_iadd (z := z253) hx hb dX7_step_31 e251 ?_
          refine r_put kc7 X hD h 55 4 (by decide) rfl cf12 (by decide) kv_378 rfl rfl rfl (Nat.le_of_ble_eq_true rfl) dX7_step_32 (fun H locs w254 e255 h => ?_)
          have f256 : w254 55 = .inr (5, [.ref (ad 56), .ref (ad 57), .int z, .int a, .int z253, .int c0, .int d]) := (congrFun e255 _).trans (va_up_self _ _ _)
          have ok257 : OK cI cB cZ cO ad w254 := OK.up ok10 e255 (sT_mk (by omega) (by omega) (by omega) (by omega))
          have kx258 : F5 w w254 := F5.up kx11 e255
          refine lv_goto (tgt := 0) hx hb dX7_step_35 (by decide) ?_
          exact ih5  z253 w254 _ _ _ (by omega) (by omega) (by omega) ok257 kx258 f256 (by omega) h (lv_sub hl [0] rfl)
  exact hloop3 151 b w _ _ _ (by omega) (by omega) (by omega) ok F5.rf pf (by omega) h (lv_sub hl [0] rfl)
