set_option maxHeartbeats 4000000 in
set_option maxRecDepth 100000 in
theorem c_S_coder (l : Launch) (G : va_G) (cI cB cZ cO : ClassId) (ad : Nat → Nat) (w : Nat → va_E) (i : Nat) (hi : i < 6)     : NI l G (tyq cI cB cZ cO) yJ0_coder_7d493 cJ0_coder_7d493 1 (some .byte) 0 0 74 ad w [.ref (ad (100 + i))] (fun r w1 => w = w1 ∧ 0 = r) := by
  refine nk_i (own := "java/lang/String") rfl (by decide) (Nat.le_of_ble_eq_true rfl) ?_
  intro p e s m below meth c ls X hD hN hr hlk h hl
  have hx := X.1.1
  have hb := X.1.2.1
  have hown := X.1.2.2.2.1
  have hts := X.1.2.2.2.2
  have hl : lv_has ls 1 [(0, .ref (ad (100 + i)))] := hl
  refine va_gets hx hb hN.2.2.2.1 h.2 hown (hts _ kv_350) (fun _ h9 => h9) dJ0_coder_7d493_0 ?_
  refine lv_if_eq (tgt := 13) hx hb dJ0_coder_7d493_3 (by decide) (fun hc => absurd hc (by decide)) (fun _ => ?_)
  refine lv_aload_n hx hb dJ0_coder_7d493_6 rfl (lv_at hl 0 rfl) ?_
  refine vk_getf hx hb (hN.2.1.1 i hi).2.1 h.2 hown (hts _ kv_351) (fun _ h9 => h9) dJ0_coder_7d493_7 ?_
  refine lv_goto (tgt := 14) hx hb dJ0_coder_7d493_10 (by decide) ?_
  exact e_n X h hr hlk rfl dJ0_coder_7d493_14 ⟨rfl, rfl⟩

set_option maxHeartbeats 4000000 in
set_option maxRecDepth 100000 in
theorem c_S_isLatin1 (l : Launch) (G : va_G) (cI cB cZ cO : ClassId) (ad : Nat → Nat) (w : Nat → va_E) (i : Nat) (hi : i < 6)     : NI l G (tyq cI cB cZ cO) yJ0_isLatin1_aae02 cJ0_isLatin1_aae02 1 (some .boolean) 0 0 74 ad w [.ref (ad (100 + i))] (fun r w1 => w = w1 ∧ 1 = r) := by
  refine nk_i (own := "java/lang/String") rfl (by decide) (Nat.le_of_ble_eq_true rfl) ?_
  intro p e s m below meth c ls X hD hN hr hlk h hl
  have hx := X.1.1
  have hb := X.1.2.1
  have hown := X.1.2.2.2.1
  have hts := X.1.2.2.2.2
  have hl : lv_has ls 1 [(0, .ref (ad (100 + i)))] := hl
  refine va_gets hx hb hN.2.2.2.1 h.2 hown (hts _ kv_350) (fun _ h9 => h9) dJ0_isLatin1_aae02_0 ?_
  refine lv_if_eq (tgt := 17) hx hb dJ0_isLatin1_aae02_3 (by decide) (fun hc => absurd hc (by decide)) (fun _ => ?_)
  refine lv_aload_n hx hb dJ0_isLatin1_aae02_6 rfl (lv_at hl 0 rfl) ?_
  refine vk_getf hx hb (hN.2.1.1 i hi).2.1 h.2 hown (hts _ kv_351) (fun _ h9 => h9) dJ0_isLatin1_aae02_7 ?_
  refine lv_if_ne (tgt := 17) hx hb dJ0_isLatin1_aae02_10 (by decide) (fun hc => absurd (by decide) hc) (fun _ => ?_)
  refine lv_iconst (v := 1) hx hb dJ0_isLatin1_aae02_13 (by decide) ?_
  refine lv_goto (tgt := 18) hx hb dJ0_isLatin1_aae02_14 (by decide) ?_
  exact e_n X h hr hlk rfl dJ0_isLatin1_aae02_18 ⟨rfl, rfl⟩

set_option maxHeartbeats 4000000 in
set_option maxRecDepth 100000 in
theorem c_S_length (l : Launch) (G : va_G) (cI cB cZ cO : ClassId) (ad : Nat → Nat) (w : Nat → va_E) (i : Nat) (hi : i < 6)     : NI l G (tyq cI cB cZ cO) yJ0_length_8abf5 cJ0_length_8abf5 1 (some .int) 1 20 74 ad w [.ref (ad (100 + i))] (fun r w1 => w = w1 ∧ nI (slen.getD i 0) = r) := by
  refine nk_i (own := "java/lang/String") rfl (by decide) (Nat.le_of_ble_eq_true rfl) ?_
  intro p e s m below meth c ls X hD hN hr hlk h hl
  have hx := X.1.1
  have hb := X.1.2.1
  have hown := X.1.2.2.2.1
  have hts := X.1.2.2.2.2
  have hl : lv_has ls 1 [(0, .ref (ad (100 + i)))] := hl
  obtain ⟨sl, hsl, hs0, hs6, hsi, hsh⟩ := sl_ex i hi
  refine lv_aload_n hx hb dJ0_length_8abf5_0 rfl (lv_at hl 0 rfl) ?_
  refine vk_getf hx hb (hN.2.1.1 i hi).2.2.1 h.2 hown (hts _ kv_352) (fun _ h9 => h9) dJ0_length_8abf5_1 ?_
  refine va_tlen hx hb (hN.2.1.1 i hi).2.2.2 h.2 (v := sl) hsl dJ0_length_8abf5_4 ?_
  refine lv_aload_n hx hb dJ0_length_8abf5_5 rfl (lv_at hl 0 rfl) ?_
  refine n_Ki (na := 0) (As := []) (rest := [.int sl]) X hD hN h rfl hi (c_S_coder l G cI cB cZ cO ad w i hi    ) ⟨kv_353, kv_354, kv_355, kv_356, kv_357⟩ rfl ⟨by decide, by decide, by decide⟩ ⟨Nat.le_of_ble_eq_true rfl, Nat.le_of_ble_eq_true rfl⟩ ⟨Nat.zero_le _, Nat.zero_le _⟩ rfl hl.1 rfl (Nat.le_of_ble_eq_true rfl) dJ0_length_8abf5_6 (fun r1 w2 H locs hp3 h => ?_)
  obtain ⟨rfl, hr4⟩ := hp3
  subst hr4
  refine o_ishr (z := sl) hx hb dJ0_length_8abf5_9 hsh ?_
  exact e_i X h hr hlk dJ0_length_8abf5_10 ⟨rfl, hsl⟩

set_option maxHeartbeats 4000000 in
set_option maxRecDepth 100000 in
theorem c_P_checkN (l : Launch) (G : va_G) (cI cB cZ cO : ClassId) (ad : Nat → Nat) (w : Nat → va_E)   (x : Int32) (y : Int32) (hl_x : 0 ≤ x.toInt) (hxy : x.toInt < y.toInt) : NI l G (tyq cI cB cZ cO) yJ3_checkIndex_8e157 cJ3_checkIndex_8e157 3 (some .int) 0 0 74 ad w [.int x, .int y, .null] (fun r w1 => w = w1 ∧ x = r) := by
  refine nk_i (own := "jdk/internal/util/Preconditions") rfl (by decide) (Nat.le_of_ble_eq_true rfl) ?_
  intro p e s m below meth c ls X hD hN hr hlk h hl
  have hx := X.1.1
  have hb := X.1.2.1
  have hown := X.1.2.2.2.1
  have hts := X.1.2.2.2.2
  have hl : lv_has ls 3 [(0, .int x), (1, .int y), (2, .null)] := hl
  refine lv_iload_n hx hb dJ3_checkIndex_8e157_0 rfl (lv_at hl 0 rfl) ?_
  refine lv_if_lt (tgt := 9) hx hb dJ3_checkIndex_8e157_1 (by decide) (fun hc1 => ?_) (fun hc1 => ?_)
  · have hc1 : (x).toInt < 0 := i_lt hc1 rfl rfl
    exfalso; omega
  · have hc1 : ¬ (x).toInt < 0 := i_nlt hc1 rfl rfl
    refine lv_iload_n hx hb dJ3_checkIndex_8e157_4 rfl (lv_at hl 0 rfl) ?_
    refine lv_iload_n hx hb dJ3_checkIndex_8e157_5 rfl (lv_at hl 1 rfl) ?_
    refine lv_icmp_lt (tgt := 16) hx hb dJ3_checkIndex_8e157_6 (by decide) (fun hc2 => ?_) (fun hc2 => ?_)
    · have hc2 : (x).toInt < (y).toInt := i_lt hc2 rfl rfl
      refine lv_iload_n hx hb dJ3_checkIndex_8e157_16 rfl (lv_at hl 0 rfl) ?_
      exact e_i X h hr hlk dJ3_checkIndex_8e157_17 ⟨rfl, rfl⟩
    · have hc2 : ¬ (x).toInt < (y).toInt := i_nlt hc2 rfl rfl
      exfalso; omega

set_option maxHeartbeats 4000000 in
set_option maxRecDepth 100000 in
theorem c_P_checkR (l : Launch) (G : va_G) (cI cB cZ cO : ClassId) (ad : Nat → Nat) (w : Nat → va_E) (t : Nat)  (x : Int32) (y : Int32) (hl_x : 0 ≤ x.toInt) (hxy : x.toInt < y.toInt) : NI l G (tyq cI cB cZ cO) yJ3_checkIndex_8e157 cJ3_checkIndex_8e157 3 (some .int) 0 0 74 ad w [.int x, .int y, .ref t] (fun r w1 => w = w1 ∧ x = r) := by
  refine nk_i (own := "jdk/internal/util/Preconditions") rfl (by decide) (Nat.le_of_ble_eq_true rfl) ?_
  intro p e s m below meth c ls X hD hN hr hlk h hl
  have hx := X.1.1
  have hb := X.1.2.1
  have hown := X.1.2.2.2.1
  have hts := X.1.2.2.2.2
  have hl : lv_has ls 3 [(0, .int x), (1, .int y), (2, .ref t)] := hl
  refine lv_iload_n hx hb dJ3_checkIndex_8e157_0 rfl (lv_at hl 0 rfl) ?_
  refine lv_if_lt (tgt := 9) hx hb dJ3_checkIndex_8e157_1 (by decide) (fun hc1 => ?_) (fun hc1 => ?_)
  · have hc1 : (x).toInt < 0 := i_lt hc1 rfl rfl
    exfalso; omega
  · have hc1 : ¬ (x).toInt < 0 := i_nlt hc1 rfl rfl
    refine lv_iload_n hx hb dJ3_checkIndex_8e157_4 rfl (lv_at hl 0 rfl) ?_
    refine lv_iload_n hx hb dJ3_checkIndex_8e157_5 rfl (lv_at hl 1 rfl) ?_
    refine lv_icmp_lt (tgt := 16) hx hb dJ3_checkIndex_8e157_6 (by decide) (fun hc2 => ?_) (fun hc2 => ?_)
    · have hc2 : (x).toInt < (y).toInt := i_lt hc2 rfl rfl
      refine lv_iload_n hx hb dJ3_checkIndex_8e157_16 rfl (lv_at hl 0 rfl) ?_
      exact e_i X h hr hlk dJ3_checkIndex_8e157_17 ⟨rfl, rfl⟩
    · have hc2 : ¬ (x).toInt < (y).toInt := i_nlt hc2 rfl rfl
      exfalso; omega

set_option maxHeartbeats 4000000 in
set_option maxRecDepth 100000 in
theorem c_S_check (l : Launch) (G : va_G) (cI cB cZ cO : ClassId) (ad : Nat → Nat) (w : Nat → va_E)   (x : Int32) (y : Int32) (hl_x : 0 ≤ x.toInt) (hxy : x.toInt < y.toInt) : NV l G (tyq cI cB cZ cO) yJ0_checkIndex_df160 cJ0_checkIndex_df160 2 1 22 74 ad w [.int x, .int y] (fun w1 => w = w1 ∧ True) := by
  refine nk_v (own := "java/lang/String") rfl (by decide) (Nat.le_of_ble_eq_true rfl) ?_
  intro p e s m below meth c ls X hD hN hr hlk h hl
  have hx := X.1.1
  have hb := X.1.2.1
  have hown := X.1.2.2.2.1
  have hts := X.1.2.2.2.2
  have hl : lv_has ls 2 [(0, .int x), (1, .int y)] := hl
  refine lv_iload_n hx hb dJ0_checkIndex_df160_0 rfl (lv_at hl 0 rfl) ?_
  refine lv_iload_n hx hb dJ0_checkIndex_df160_1 rfl (lv_at hl 1 rfl) ?_
  rcases hN.2.2.2.2 with hz1 | ⟨t2, hz1⟩
  · refine va_gets hx hb hz1 h.2 hown (hts _ kv_358) (fun _ h9 => h9) dJ0_checkIndex_df160_2 ?_
    refine n_Si (na := 3) (As := [.int x, .int y, .null]) (rest := []) X hD hN h (c_P_checkN l G cI cB cZ cO ad w   x y (by omega) (by first | decide | omega)) ⟨kv_359, kv_360, kv_361, kv_362⟩ ⟨by decide, by decide, by decide⟩ ⟨Nat.le_of_ble_eq_true rfl, Nat.le_of_ble_eq_true rfl⟩ ⟨Nat.zero_le _, Nat.zero_le _⟩ rfl hl.1 rfl (Nat.le_of_ble_eq_true rfl) dJ0_checkIndex_df160_5 (fun r3 w4 H locs hp5 h => ?_)
    obtain ⟨rfl, hr6⟩ := hp5
    subst hr6
    refine lv_pop hx hb dJ0_checkIndex_df160_8 rfl ?_
    exact e_v X h hr hlk dJ0_checkIndex_df160_9 ⟨rfl, trivial⟩
  · refine va_gets hx hb hz1 h.2 hown (hts _ kv_358) (fun _ h9 => h9) dJ0_checkIndex_df160_2 ?_
    refine n_Si (na := 3) (As := [.int x, .int y, .ref t2]) (rest := []) X hD hN h (c_P_checkR l G cI cB cZ cO ad w t2  x y (by omega) (by first | decide | omega)) ⟨kv_359, kv_360, kv_361, kv_362⟩ ⟨by decide, by decide, by decide⟩ ⟨Nat.le_of_ble_eq_true rfl, Nat.le_of_ble_eq_true rfl⟩ ⟨Nat.zero_le _, Nat.zero_le _⟩ rfl hl.1 rfl (Nat.le_of_ble_eq_true rfl) dJ0_checkIndex_df160_5 (fun r7 w8 H locs hp9 h => ?_)
    obtain ⟨rfl, hr10⟩ := hp9
    subst hr10
    refine lv_pop hx hb dJ0_checkIndex_df160_8 rfl ?_
    exact e_v X h hr hlk dJ0_checkIndex_df160_9 ⟨rfl, trivial⟩

set_option maxHeartbeats 4000000 in
set_option maxRecDepth 100000 in
theorem c_L1_charAt (l : Launch) (G : va_G) (cI cB cZ cO : ClassId) (ad : Nat → Nat) (w : Nat → va_E) (i : Nat) (hi : i < 6)  (k : Int32) (hl_k : 0 ≤ k.toInt) (hh_k : k.toInt ≤ 5) (hk6 : k.toInt < (slen.getD i 0 : Nat)) : NI l G (tyq cI cB cZ cO) yJ1_charAt_3b067 cJ1_charAt_3b067 2 (some .char) 2 43 74 ad w [.ref (ad (110 + i)), .int k] (fun r w1 => w = w1 ∧ (sbyt.getD i []).getD k.toNatClampNeg 0 = r) := by
  refine nk_i (own := "java/lang/StringLatin1") rfl (by decide) (Nat.le_of_ble_eq_true rfl) ?_
  intro p e s m below meth c ls X hD hN hr hlk h hl
  have hx := X.1.1
  have hb := X.1.2.1
  have hown := X.1.2.2.2.1
  have hts := X.1.2.2.2.2
  have hl : lv_has ls 2 [(0, .ref (ad (110 + i))), (1, .int k)] := hl
  obtain ⟨sl, hsl, hs0, hs6, hsi, hsh⟩ := sl_ex i hi
  refine lv_iload_n hx hb dJ1_charAt_3b067_0 rfl (lv_at hl 1 rfl) ?_
  refine lv_aload_n hx hb dJ1_charAt_3b067_1 rfl (lv_at hl 0 rfl) ?_
  refine va_tlen hx hb (hN.2.1.1 i hi).2.2.2 h.2 (v := sl) hsl dJ1_charAt_3b067_2 ?_
  refine n_Sv (na := 2) (As := [.int k, .int sl]) (rest := []) X hD hN h (c_S_check l G cI cB cZ cO ad w   k sl (by omega) (by first | decide | omega)) ⟨kv_363, kv_364, kv_356, kv_365⟩ ⟨by decide, by decide, by decide⟩ ⟨Nat.le_of_ble_eq_true rfl, Nat.le_of_ble_eq_true rfl⟩ ⟨Nat.zero_le _, Nat.zero_le _⟩ rfl hl.1 rfl (Nat.le_of_ble_eq_true rfl) dJ1_charAt_3b067_3 (fun w2 H locs hp3 h => ?_)
  obtain ⟨rfl, hr4⟩ := hp3
  refine lv_aload_n hx hb dJ1_charAt_3b067_6 rfl (lv_at hl 0 rfl) ?_
  refine lv_iload_n hx hb dJ1_charAt_3b067_7 rfl (lv_at hl 1 rfl) ?_
  refine va_tb hx hb (hN.2.1.1 i hi).2.2.2 h.2 (v := .int ((sbyt.getD i []).getD k.toNatClampNeg 0)) (in_of (by omega) (by omega)) rfl dJ1_charAt_3b067_8 ?_
  refine lv_sipush (v := 255) hx hb dJ1_charAt_3b067_9 (by decide) ?_
  obtain ⟨z5, e6⟩ : ∃ z : Int32, ((sbyt.getD i []).getD k.toNatClampNeg 0) &&& (255 : Int32) = z := ⟨_, rfl⟩
  refine o_iand (z := z5) hx hb dJ1_charAt_3b067_12 e6 ?_
  obtain ⟨z7, e8⟩ : ∃ z : Int32, (z5.toUInt32 % 65536).toInt32 = z := ⟨_, rfl⟩
  refine lv_i2c (v := z7) hx hb dJ1_charAt_3b067_13 e8 ?_
  exact e_n X h hr hlk (by rw [← e8]; exact pk_nc _) dJ1_charAt_3b067_14 ⟨rfl, ((sch i hi k.toNatClampNeg (by have := cl_of (x := k) (by omega); omega)).symm.trans (by rw [e6]; exact e8))⟩

set_option maxHeartbeats 4000000 in
set_option maxRecDepth 100000 in
theorem c_S_charAt (l : Launch) (G : va_G) (cI cB cZ cO : ClassId) (ad : Nat → Nat) (w : Nat → va_E) (i : Nat) (hi : i < 6)  (k : Int32) (hl_k : 0 ≤ k.toInt) (hh_k : k.toInt ≤ 5) (hk6 : k.toInt < (slen.getD i 0 : Nat)) : NI l G (tyq cI cB cZ cO) yJ0_charAt_5068e cJ0_charAt_5068e 2 (some .char) 3 64 74 ad w [.ref (ad (100 + i)), .int k] (fun r w1 => w = w1 ∧ (sbyt.getD i []).getD k.toNatClampNeg 0 = r) := by
  refine nk_i (own := "java/lang/String") rfl (by decide) (Nat.le_of_ble_eq_true rfl) ?_
  intro p e s m below meth c ls X hD hN hr hlk h hl
  have hx := X.1.1
  have hb := X.1.2.1
  have hown := X.1.2.2.2.1
  have hts := X.1.2.2.2.2
  have hl : lv_has ls 2 [(0, .ref (ad (100 + i))), (1, .int k)] := hl
  refine lv_aload_n hx hb dJ0_charAt_5068e_0 rfl (lv_at hl 0 rfl) ?_
  refine n_Ki (na := 0) (As := []) (rest := []) X hD hN h rfl hi (c_S_isLatin1 l G cI cB cZ cO ad w i hi    ) ⟨kv_366, kv_367, kv_368, kv_356, kv_369⟩ rfl ⟨by decide, by decide, by decide⟩ ⟨Nat.le_of_ble_eq_true rfl, Nat.le_of_ble_eq_true rfl⟩ ⟨Nat.zero_le _, Nat.zero_le _⟩ rfl hl.1 rfl (Nat.le_of_ble_eq_true rfl) dJ0_charAt_5068e_1 (fun r1 w2 H locs hp3 h => ?_)
  obtain ⟨rfl, hr4⟩ := hp3
  subst hr4
  refine lv_if_eq (tgt := 16) hx hb dJ0_charAt_5068e_4 (by decide) (fun hc => absurd hc (by decide)) (fun _ => ?_)
  refine lv_aload_n hx hb dJ0_charAt_5068e_7 rfl (lv_at hl 0 rfl) ?_
  refine vk_getf hx hb (hN.2.1.1 i hi).2.2.1 h.2 hown (hts _ kv_352) (fun _ h9 => h9) dJ0_charAt_5068e_8 ?_
  refine lv_iload_n hx hb dJ0_charAt_5068e_11 rfl (lv_at hl 1 rfl) ?_
  refine n_Si (na := 2) (As := [.ref (ad (110 + i)), .int k]) (rest := []) X hD hN h (c_L1_charAt l G cI cB cZ cO ad w i hi  k (by omega) (by omega) hk6) ⟨kv_370, kv_371, kv_372, kv_373⟩ ⟨by decide, by decide, by decide⟩ ⟨Nat.le_of_ble_eq_true rfl, Nat.le_of_ble_eq_true rfl⟩ ⟨Nat.zero_le _, Nat.zero_le _⟩ rfl hl.1 rfl (Nat.le_of_ble_eq_true rfl) dJ0_charAt_5068e_12 (fun r5 w6 H locs hp7 h => ?_)
  obtain ⟨rfl, hr8⟩ := hp7
  exact e_n X h hr hlk (by rw [← hr8, ← sch i hi _ (by have := cl_of (x := k) (by omega); omega)]; exact pk_nc _) dJ0_charAt_5068e_15 ⟨rfl, hr8⟩

set_option maxHeartbeats 4000000 in
set_option maxRecDepth 100000 in
theorem c_isLetter (l : Launch) (G : va_G) (cI cB cZ cO : ClassId) (ad : Nat → Nat) (w : Nat → va_E)   (x : Int32)   : NI l G (tyq cI cB cZ cO) yX7_isLetter cX7_isLetter 1 (some .boolean) 0 0 74 ad w [.int x] (fun r w1 => w = w1 ∧ ((97 ≤ x.toInt ∧ x.toInt ≤ 122 ∧ r = 1) ∨ (¬ (97 ≤ x.toInt ∧ x.toInt ≤ 122) ∧ r = 0))) := by
  refine nk_i (own := "NoonShade$Text") rfl (by decide) (Nat.le_of_ble_eq_true rfl) ?_
  intro p e s m below meth c ls X hD hN hr hlk h hl
  have hx := X.1.1
  have hb := X.1.2.1
  have hown := X.1.2.2.2.1
  have hts := X.1.2.2.2.2
  have hl : lv_has ls 1 [(0, .int x)] := hl
  refine lv_iload_n hx hb dX7_isLetter_0 rfl (lv_at hl 0 rfl) ?_
  refine lv_bipush (v := 97) hx hb dX7_isLetter_1 (by decide) ?_
  refine lv_icmp_lt (tgt := 16) hx hb dX7_isLetter_3 (by decide) (fun hc1 => ?_) (fun hc1 => ?_)
  · have hc1 : (x).toInt < 97 := i_lt hc1 rfl rfl
    refine lv_iconst (v := 0) hx hb dX7_isLetter_16 (by decide) ?_
    exact e_n X h hr hlk rfl dX7_isLetter_17 ⟨rfl, Or.inr ⟨by omega, rfl⟩⟩
  · have hc1 : ¬ (x).toInt < 97 := i_nlt hc1 rfl rfl
    refine lv_iload_n hx hb dX7_isLetter_6 rfl (lv_at hl 0 rfl) ?_
    refine lv_bipush (v := 122) hx hb dX7_isLetter_7 (by decide) ?_
    refine lv_icmp_gt (tgt := 16) hx hb dX7_isLetter_9 (by decide) (fun hc2 => ?_) (fun hc2 => ?_)
    · have hc2 : 122 < (x).toInt := i_lt hc2 rfl rfl
      refine lv_iconst (v := 0) hx hb dX7_isLetter_16 (by decide) ?_
      exact e_n X h hr hlk rfl dX7_isLetter_17 ⟨rfl, Or.inr ⟨by omega, rfl⟩⟩
    · have hc2 : ¬ 122 < (x).toInt := i_nlt hc2 rfl rfl
      refine lv_iconst (v := 1) hx hb dX7_isLetter_12 (by decide) ?_
      refine lv_goto (tgt := 17) hx hb dX7_isLetter_13 (by decide) ?_
      exact e_n X h hr hlk rfl dX7_isLetter_17 ⟨rfl, Or.inl ⟨by omega, by omega, rfl⟩⟩

set_option maxHeartbeats 4000000 in
set_option maxRecDepth 100000 in
theorem c_isFigure (l : Launch) (G : va_G) (cI cB cZ cO : ClassId) (ad : Nat → Nat) (w : Nat → va_E)   (x : Int32)   : NI l G (tyq cI cB cZ cO) yX7_isFigure cX7_isFigure 1 (some .boolean) 0 0 74 ad w [.int x] (fun r w1 => w = w1 ∧ ((48 ≤ x.toInt ∧ x.toInt ≤ 57 ∧ r = 1) ∨ (¬ (48 ≤ x.toInt ∧ x.toInt ≤ 57) ∧ r = 0))) := by
  refine nk_i (own := "NoonShade$Text") rfl (by decide) (Nat.le_of_ble_eq_true rfl) ?_
  intro p e s m below meth c ls X hD hN hr hlk h hl
  have hx := X.1.1
  have hb := X.1.2.1
  have hown := X.1.2.2.2.1
  have hts := X.1.2.2.2.2
  have hl : lv_has ls 1 [(0, .int x)] := hl
  refine lv_iload_n hx hb dX7_isFigure_0 rfl (lv_at hl 0 rfl) ?_
  refine lv_bipush (v := 48) hx hb dX7_isFigure_1 (by decide) ?_
  refine lv_icmp_lt (tgt := 16) hx hb dX7_isFigure_3 (by decide) (fun hc1 => ?_) (fun hc1 => ?_)
  · have hc1 : (x).toInt < 48 := i_lt hc1 rfl rfl
    refine lv_iconst (v := 0) hx hb dX7_isFigure_16 (by decide) ?_
    exact e_n X h hr hlk rfl dX7_isFigure_17 ⟨rfl, Or.inr ⟨by omega, rfl⟩⟩
  · have hc1 : ¬ (x).toInt < 48 := i_nlt hc1 rfl rfl
    refine lv_iload_n hx hb dX7_isFigure_6 rfl (lv_at hl 0 rfl) ?_
    refine lv_bipush (v := 57) hx hb dX7_isFigure_7 (by decide) ?_
    refine lv_icmp_gt (tgt := 16) hx hb dX7_isFigure_9 (by decide) (fun hc2 => ?_) (fun hc2 => ?_)
    · have hc2 : 57 < (x).toInt := i_lt hc2 rfl rfl
      refine lv_iconst (v := 0) hx hb dX7_isFigure_16 (by decide) ?_
      exact e_n X h hr hlk rfl dX7_isFigure_17 ⟨rfl, Or.inr ⟨by omega, rfl⟩⟩
    · have hc2 : ¬ 57 < (x).toInt := i_nlt hc2 rfl rfl
      refine lv_iconst (v := 1) hx hb dX7_isFigure_12 (by decide) ?_
      refine lv_goto (tgt := 17) hx hb dX7_isFigure_13 (by decide) ?_
      exact e_n X h hr hlk rfl dX7_isFigure_17 ⟨rfl, Or.inl ⟨by omega, by omega, rfl⟩⟩

