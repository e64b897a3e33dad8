set_option maxHeartbeats 4000000 in
set_option maxRecDepth 100000 in
theorem c_F_isWord (l : Launch) (G : va_G) (cI cB cZ cO : ClassId) (ad : Nat → Nat) (w : Nat → va_E) (i : Nat) (hi : i < 6) (z a b c0 d : Int32) (bs : Nat → Int32) (ok : OK cI cB cZ cO ad w)   (pf : w 55 = .inr (5, [.ref (ad 56), .ref (ad 57), .int z, .int a, .int b, .int c0, .int d])) (hz1 : z.toInt ≤ 150) (p56 : w 56 = .inl (cB, 150, .inl bs)) (ha0 : 0 ≤ a.toInt) (hab : a.toInt ≤ b.toInt) (hbz : b.toInt ≤ z.toInt) : NI l G (tyq cI cB cZ cO) yX7_isWord cX7_isWord 3 (some .boolean) 4 85 74 ad w [.ref (ad 55), .ref (ad (100 + i))] (fun r w1 => w = w1 ∧ ((wB bs a.toInt b.toInt i ∧ r = 1) ∨ (¬ wB bs a.toInt b.toInt i ∧ r = 0))) := by
  refine nk_i (own := "NoonShade$Text") rfl (by decide) (Nat.le_of_ble_eq_true rfl) ?_
  intro p e s m below meth c ls X hD hN hr hlk h hl
  have hx := X.1.1
  have hb := X.1.2.1
  have hown := X.1.2.2.2.1
  have hts := X.1.2.2.2.2
  have hl : lv_has ls 3 [(0, .ref (ad 55)), (1, .ref (ad (100 + i)))] := hl
  obtain ⟨sl, hsl, hs0, hs6, hsi, hsh⟩ := sl_ex i hi
  refine lv_aload_n hx hb dX7_isWord_0 rfl (lv_at hl 1 rfl) ?_
  refine n_Ki (na := 0) (As := []) (rest := []) X hD hN h rfl hi (c_S_length l G cI cB cZ cO ad w i hi    ) ⟨kv_374, kv_375, kv_376, kv_356, kv_377⟩ rfl ⟨by decide, by decide, by decide⟩ ⟨Nat.le_of_ble_eq_true rfl, Nat.le_of_ble_eq_true rfl⟩ ⟨Nat.zero_le _, Nat.zero_le _⟩ rfl hl.1 rfl (Nat.le_of_ble_eq_true rfl) dX7_isWord_1 (fun r1 w2 H locs hp3 h => ?_)
  obtain ⟨rfl, hr4⟩ := hp3
  have q5 : sl = r1 := hsl.symm.trans hr4
  subst q5
  refine lv_aload_n hx hb dX7_isWord_4 rfl (lv_at hl 0 rfl) ?_
  refine r_get kc7 X h 55 4 (by decide) rfl pf (by decide) kv_378 rfl dX7_isWord_5 ?_
  refine lv_aload_n hx hb dX7_isWord_8 rfl (lv_at hl 0 rfl) ?_
  refine r_get kc7 X h 55 3 (by decide) rfl pf (by decide) kv_379 rfl dX7_isWord_9 ?_
  obtain ⟨z8, e6, t7⟩ := x_sub (x := b) (y := a) (a := (b).toInt) (b := (a).toInt) rfl rfl (by omega) (by omega)
  refine o_isub (z := z8) hx hb dX7_isWord_12 e6 ?_
  refine lv_icmp_eq (tgt := 18) hx hb dX7_isWord_13 (by decide) (fun hc9 => ?_) (fun hc9 => ?_)
  · have hc9 : (sl).toInt = (z8).toInt := i_eq hc9 rfl rfl
    refine lv_iconst (v := 0) hx hb dX7_isWord_18 (by decide) ?_
    refine lv_istore_n (lv' := [(2, .int 0), (0, .ref (ad 55)), (1, .ref (ad (100 + i)))]) hx hb dX7_isWord_19 rfl hl (by decide) rfl (fun ls hl => ?_)
    have hloop11 : ∀ (d12 : Nat) (L10 : Int32) (H : Heap) (locs : List Loc) (ls : Array Slot), 0 ≤ L10.toInt → L10.toInt ≤ 6 → L10.toInt ≤ sl.toInt → ∀ j : Nat, j < L10.toNatClampNeg → bs (a.toNatClampNeg + j) = (sbyt.getD i []).getD j 0 → 6 - L10.toInt < (d12 : Int) → St G 74 ad (wA 74 ad s.heap.size) s.heap w H locs → lv_has ls 3 [(2, .int L10), (0, .ref (ad 55)), (1, .ref (ad (100 + i)))] → W p l e { frames := 4, cells := 0, slots := 0, locals := 85 } s m [.ref (ad 55), .ref (ad (100 + i))].toArray below meth c H locs 0 0 (MQ below (va_Qi (fun r w1 => w = w1 ∧ ((wB bs a.toInt b.toInt i ∧ r = 1) ∨ (¬ wB bs a.toInt b.toInt i ∧ r = 0))) (Aft G 74 ad) (wA 74 ad s.heap.size)) [.ref (ad 55), .ref (ad (100 + i))].toArray s 0 0 (wA 74 ad s.heap.size)) (F0 m 20 ls []) := by
      intro d12
      induction d12 with
      | zero => intro L10 H locs ls hi15 hi16 hi17 hi18 hm14 h hl; exfalso; omega
      | succ d12 ih13 =>
        intro L10 H locs ls hi15 hi16 hi17 hi18 hm14 h hl
        refine lv_iload_n hx hb dX7_isWord_20 rfl (lv_at hl 0 rfl) ?_
        refine lv_aload_n hx hb dX7_isWord_21 rfl (lv_at hl 2 rfl) ?_
        refine n_Ki (na := 0) (As := []) (rest := [.int L10]) X hD hN h rfl hi (c_S_length l G cI cB cZ cO ad w i hi    ) ⟨kv_374, kv_375, kv_376, kv_356, kv_377⟩ rfl ⟨by decide, by decide, by decide⟩ ⟨Nat.le_of_ble_eq_true rfl, Nat.le_of_ble_eq_true rfl⟩ ⟨Nat.zero_le _, Nat.zero_le _⟩ rfl hl.1 rfl (Nat.le_of_ble_eq_true rfl) dX7_isWord_22 (fun r21 w22 H locs hp23 h => ?_)
        obtain ⟨rfl, hr24⟩ := hp23
        have q25 : sl = r21 := hsl.symm.trans hr24
        subst q25
        refine lv_icmp_ge (tgt := 55) hx hb dX7_isWord_25 (by decide) (fun hc26 => ?_) (fun hc26 => ?_)
        · have hc26 : (sl).toInt ≤ (L10).toInt := i_le hc26 rfl rfl
          refine lv_iconst (v := 1) hx hb dX7_isWord_55 (by decide) ?_
          exact e_n X h hr hlk rfl dX7_isWord_56 ⟨rfl, Or.inl ⟨⟨by omega, fun j hj => hi18 j (by have := cl_of (x := L10) (by omega); omega)⟩, rfl⟩⟩
        · have hc26 : ¬ (sl).toInt ≤ (L10).toInt := i_nle hc26 rfl rfl
          refine lv_aload_n hx hb dX7_isWord_28 rfl (lv_at hl 1 rfl) ?_
          refine r_get kc7 X h 55 0 (by decide) rfl pf (by decide) kv_380 rfl dX7_isWord_29 ?_
          refine lv_aload_n hx hb dX7_isWord_32 rfl (lv_at hl 1 rfl) ?_
          refine r_get kc7 X h 55 3 (by decide) rfl pf (by decide) kv_379 rfl dX7_isWord_33 ?_
          refine lv_iload_n hx hb dX7_isWord_36 rfl (lv_at hl 0 rfl) ?_
          obtain ⟨z29, e27, t28⟩ := x_add (x := a) (y := L10) (a := (a).toInt) (b := (L10).toInt) rfl rfl (by omega) (by omega)
          have n30 : z29.toNatClampNeg = a.toNatClampNeg + L10.toNatClampNeg := cl_addn (x := a) (y := L10) rfl rfl t28 (by omega) (by omega)
          refine o_iadd (z := z29) hx hb dX7_isWord_37 e27 ?_
          obtain ⟨v31, e32⟩ : ∃ z : Int32, bs (a.toNatClampNeg + L10.toNatClampNeg) = z := ⟨_, rfl⟩
          refine o_bald (v := v31) X h 56 1 (by decide) rfl p56 rfl (in_of (by omega) (by omega)) (by rw [n30]; exact e32) dX7_isWord_38 ?_
          refine lv_aload_n hx hb dX7_isWord_39 rfl (lv_at hl 2 rfl) ?_
          refine lv_iload_n hx hb dX7_isWord_40 rfl (lv_at hl 0 rfl) ?_
          refine n_Ki (na := 1) (As := [.int L10]) (rest := [.int v31]) X hD hN h rfl hi (c_S_charAt l G cI cB cZ cO ad w i hi  L10 (by omega) (by omega) (by omega)) ⟨kv_381, kv_382, kv_383, kv_356, kv_384⟩ rfl ⟨by decide, by decide, by decide⟩ ⟨Nat.le_of_ble_eq_true rfl, Nat.le_of_ble_eq_true rfl⟩ ⟨Nat.zero_le _, Nat.zero_le _⟩ rfl hl.1 rfl (Nat.le_of_ble_eq_true rfl) dX7_isWord_41 (fun r34 w35 H locs hp36 h => ?_)
          obtain ⟨rfl, hr37⟩ := hp36
          refine lv_icmp_eq (tgt := 49) hx hb dX7_isWord_44 (by decide) (fun hc38 => ?_) (fun hc38 => ?_)
          · have hc38 : (v31).toInt = (r34).toInt := i_eq hc38 rfl rfl
            obtain ⟨z39, e40, t41⟩ := x_add (x := L10) (y := 1) (a := L10.toInt) (b := 1) rfl rfl (by omega) (by omega)
            have n42 : z39.toNatClampNeg = L10.toNatClampNeg + 1 := cl_addn (x := L10) (y := 1) rfl rfl t41 (by omega) (by decide)
            refine lv_iinc (v := z39) (lv' := [(2, .int z39), (0, .ref (ad 55)), (1, .ref (ad (100 + i)))]) hx hb dX7_isWord_49 hl (k := 0) rfl e40 (by decide) rfl (fun ls hl => ?_)
            refine lv_goto (tgt := 20) hx hb dX7_isWord_52 (by decide) ?_
            have hw43 : bs (a.toNatClampNeg + L10.toNatClampNeg) = (sbyt.getD i []).getD L10.toNatClampNeg 0 := by rw [e32, hr37]; exact (fa_eq _ _).mpr (by omega)
            exact ih13  z39  _ _ _ (by omega) (by omega) (by omega) (fun j hj => by rw [n42] at hj; by_cases q9 : j = L10.toNatClampNeg; · (rw [q9]; exact hw43); · exact hi18 j (by omega))  (by omega) h (lv_sub hl [0, 1, 2] rfl)
          · have hc38 : ¬ (v31).toInt = (r34).toInt := i_ne hc38 rfl rfl
            refine lv_iconst (v := 0) hx hb dX7_isWord_47 (by decide) ?_
            exact e_n X h hr hlk rfl dX7_isWord_48 ⟨rfl, Or.inr ⟨fun q9 => by have q8 : bs (a.toNatClampNeg + L10.toNatClampNeg) = (sbyt.getD i []).getD L10.toNatClampNeg 0 := q9.2 _ (by have := cl_of (x := L10) (by omega); omega); rw [e32, hr37] at q8; have := (fa_eq _ _).mp q8; omega, rfl⟩⟩
    exact hloop11 7 (0 : Int32)  _ _ _ (by have q0 : (0 : Int32).toInt = 0 := rfl; omega) (by have q0 : (0 : Int32).toInt = 0 := rfl; omega) (by have q0 : (0 : Int32).toInt = 0 := rfl; omega) (fun j hj => absurd hj (Nat.not_lt_zero _))  (by have q0 : (0 : Int32).toInt = 0 := rfl; omega) h (lv_sub hl [0, 1, 2] rfl)
  · have hc9 : ¬ (sl).toInt = (z8).toInt := i_ne hc9 rfl rfl
    refine lv_iconst (v := 0) hx hb dX7_isWord_16 (by decide) ?_
    exact e_n X h hr hlk rfl dX7_isWord_17 ⟨rfl, Or.inr ⟨fun q9 => by have := q9.1; omega, rfl⟩⟩

set_option maxHeartbeats 4000000 in
set_option maxRecDepth 100000 in
theorem c_F_wordNumber (l : Launch) (G : va_G) (cI cB cZ cO : ClassId) (ad : Nat → Nat) (w : Nat → va_E) (z a b c0 d : Int32) (bs : Nat → Int32) (ok : OK cI cB cZ cO ad w)   (pf : w 55 = .inr (5, [.ref (ad 56), .ref (ad 57), .int z, .int a, .int b, .int c0, .int d])) (hz1 : z.toInt ≤ 150) (p56 : w 56 = .inl (cB, 150, .inl bs)) (ha0 : 0 ≤ a.toInt) (hab : a.toInt ≤ b.toInt) (hbz : b.toInt ≤ z.toInt) : NI l G (tyq cI cB cZ cO) yX7_wordNumber cX7_wordNumber 1 (some .int) 5 107 74 ad w [.ref (ad 55)] (fun r w1 => w = w1 ∧ -1 ≤ r.toInt ∧ r.toInt ≤ 5 ∧ wnP bs a.toInt b.toInt r) := by
  refine nk_i (own := "NoonShade$Text") rfl (by decide) (Nat.le_of_ble_eq_true rfl) ?_
  intro p e s m below meth c ls X hD hN hr hlk h hl
  have hx := X.1.1
  have hb := X.1.2.1
  have hown := X.1.2.2.2.1
  have hts := X.1.2.2.2.2
  have hl : lv_has ls 1 [(0, .ref (ad 55))] := hl
  refine lv_aload_n hx hb dX7_wordNumber_0 rfl (lv_at hl 0 rfl) ?_
  refine va_ldcS hx hb hown (hN.2.2.1 (128, "island", 0) (by decide)) dX7_wordNumber_1 ?_
  refine n_Vi (na := 1) (As := [.ref (ad 100)]) (rest := []) X hD hN h rfl (c_F_isWord l G cI cB cZ cO ad w 0 (by decide) z a b c0 d bs ok   pf (by omega) p56 (by first | omega | decide | (simp only [k00]; omega)) (by first | omega | decide | (simp only [k00]; omega)) (by first | omega | decide | (simp only [k00]; omega))) ⟨kv_385, kv_386, kv_387, kv_388, kv_389⟩ rfl ⟨by decide, by decide, by decide⟩ ⟨Nat.le_of_ble_eq_true rfl, Nat.le_of_ble_eq_true rfl⟩ ⟨Nat.zero_le _, Nat.zero_le _⟩ (by decide) pf rfl rfl hl.1 rfl (Nat.le_of_ble_eq_true rfl) dX7_wordNumber_3 (fun r1 w2 H locs hp3 h => ?_)
  obtain ⟨rfl, hr4⟩ := hp3
  rcases hr4 with ⟨hq5, rfl⟩ | ⟨hq5, rfl⟩
  · refine lv_if_eq (tgt := 11) hx hb dX7_wordNumber_6 (by decide) (fun hc => absurd hc (by decide)) (fun _ => ?_)
    refine lv_iconst (v := 0) hx hb dX7_wordNumber_9 (by decide) ?_
    exact e_i X h hr hlk dX7_wordNumber_10 ⟨rfl, ⟨by decide, by decide, Or.inr ⟨by decide, by decide, hq5⟩⟩⟩
  · refine lv_if_eq (tgt := 11) hx hb dX7_wordNumber_6 (by decide) (fun _ => ?_) (fun hc => absurd (by decide) hc)
    refine lv_aload_n hx hb dX7_wordNumber_11 rfl (lv_at hl 0 rfl) ?_
    refine va_ldcS hx hb hown (hN.2.2.1 (134, "caster", 1) (by decide)) dX7_wordNumber_12 ?_
    refine n_Vi (na := 1) (As := [.ref (ad 101)]) (rest := []) X hD hN h rfl (c_F_isWord l G cI cB cZ cO ad w 1 (by decide) z a b c0 d bs ok   pf (by omega) p56 (by first | omega | decide | (simp only [k00]; omega)) (by first | omega | decide | (simp only [k00]; omega)) (by first | omega | decide | (simp only [k00]; omega))) ⟨kv_385, kv_386, kv_387, kv_388, kv_389⟩ rfl ⟨by decide, by decide, by decide⟩ ⟨Nat.le_of_ble_eq_true rfl, Nat.le_of_ble_eq_true rfl⟩ ⟨Nat.zero_le _, Nat.zero_le _⟩ (by decide) pf rfl rfl hl.1 rfl (Nat.le_of_ble_eq_true rfl) dX7_wordNumber_14 (fun r6 w7 H locs hp8 h => ?_)
    obtain ⟨rfl, hr9⟩ := hp8
    rcases hr9 with ⟨hq10, rfl⟩ | ⟨hq10, rfl⟩
    · refine lv_if_eq (tgt := 22) hx hb dX7_wordNumber_17 (by decide) (fun hc => absurd hc (by decide)) (fun _ => ?_)
      refine lv_iconst (v := 1) hx hb dX7_wordNumber_20 (by decide) ?_
      exact e_i X h hr hlk dX7_wordNumber_21 ⟨rfl, ⟨by decide, by decide, Or.inr ⟨by decide, by decide, hq10⟩⟩⟩
    · refine lv_if_eq (tgt := 22) hx hb dX7_wordNumber_17 (by decide) (fun _ => ?_) (fun hc => absurd (by decide) hc)
      refine lv_aload_n hx hb dX7_wordNumber_22 rfl (lv_at hl 0 rfl) ?_
      refine va_ldcS hx hb hown (hN.2.2.1 (136, "jar", 2) (by decide)) dX7_wordNumber_23 ?_
      refine n_Vi (na := 1) (As := [.ref (ad 102)]) (rest := []) X hD hN h rfl (c_F_isWord l G cI cB cZ cO ad w 2 (by decide) z a b c0 d bs ok   pf (by omega) p56 (by first | omega | decide | (simp only [k00]; omega)) (by first | omega | decide | (simp only [k00]; omega)) (by first | omega | decide | (simp only [k00]; omega))) ⟨kv_385, kv_386, kv_387, kv_388, kv_389⟩ rfl ⟨by decide, by decide, by decide⟩ ⟨Nat.le_of_ble_eq_true rfl, Nat.le_of_ble_eq_true rfl⟩ ⟨Nat.zero_le _, Nat.zero_le _⟩ (by decide) pf rfl rfl hl.1 rfl (Nat.le_of_ble_eq_true rfl) dX7_wordNumber_25 (fun r11 w12 H locs hp13 h => ?_)
      obtain ⟨rfl, hr14⟩ := hp13
      rcases hr14 with ⟨hq15, rfl⟩ | ⟨hq15, rfl⟩
      · refine lv_if_eq (tgt := 33) hx hb dX7_wordNumber_28 (by decide) (fun hc => absurd hc (by decide)) (fun _ => ?_)
        refine lv_iconst (v := 2) hx hb dX7_wordNumber_31 (by decide) ?_
        exact e_i X h hr hlk dX7_wordNumber_32 ⟨rfl, ⟨by decide, by decide, Or.inr ⟨by decide, by decide, hq15⟩⟩⟩
      · refine lv_if_eq (tgt := 33) hx hb dX7_wordNumber_28 (by decide) (fun _ => ?_) (fun hc => absurd (by decide) hc)
        refine lv_aload_n hx hb dX7_wordNumber_33 rfl (lv_at hl 0 rfl) ?_
        refine va_ldcS hx hb hown (hN.2.2.1 (138, "ladle", 3) (by decide)) dX7_wordNumber_34 ?_
        refine n_Vi (na := 1) (As := [.ref (ad 103)]) (rest := []) X hD hN h rfl (c_F_isWord l G cI cB cZ cO ad w 3 (by decide) z a b c0 d bs ok   pf (by omega) p56 (by first | omega | decide | (simp only [k00]; omega)) (by first | omega | decide | (simp only [k00]; omega)) (by first | omega | decide | (simp only [k00]; omega))) ⟨kv_385, kv_386, kv_387, kv_388, kv_389⟩ rfl ⟨by decide, by decide, by decide⟩ ⟨Nat.le_of_ble_eq_true rfl, Nat.le_of_ble_eq_true rfl⟩ ⟨Nat.zero_le _, Nat.zero_le _⟩ (by decide) pf rfl rfl hl.1 rfl (Nat.le_of_ble_eq_true rfl) dX7_wordNumber_36 (fun r16 w17 H locs hp18 h => ?_)
        obtain ⟨rfl, hr19⟩ := hp18
        rcases hr19 with ⟨hq20, rfl⟩ | ⟨hq20, rfl⟩
        · refine lv_if_eq (tgt := 44) hx hb dX7_wordNumber_39 (by decide) (fun hc => absurd hc (by decide)) (fun _ => ?_)
          refine lv_iconst (v := 3) hx hb dX7_wordNumber_42 (by decide) ?_
          exact e_i X h hr hlk dX7_wordNumber_43 ⟨rfl, ⟨by decide, by decide, Or.inr ⟨by decide, by decide, hq20⟩⟩⟩
        · refine lv_if_eq (tgt := 44) hx hb dX7_wordNumber_39 (by decide) (fun _ => ?_) (fun hc => absurd (by decide) hc)
          refine lv_aload_n hx hb dX7_wordNumber_44 rfl (lv_at hl 0 rfl) ?_
          refine va_ldcS hx hb hown (hN.2.2.1 (140, "pour", 4) (by decide)) dX7_wordNumber_45 ?_
          refine n_Vi (na := 1) (As := [.ref (ad 104)]) (rest := []) X hD hN h rfl (c_F_isWord l G cI cB cZ cO ad w 4 (by decide) z a b c0 d bs ok   pf (by omega) p56 (by first | omega | decide | (simp only [k00]; omega)) (by first | omega | decide | (simp only [k00]; omega)) (by first | omega | decide | (simp only [k00]; omega))) ⟨kv_385, kv_386, kv_387, kv_388, kv_389⟩ rfl ⟨by decide, by decide, by decide⟩ ⟨Nat.le_of_ble_eq_true rfl, Nat.le_of_ble_eq_true rfl⟩ ⟨Nat.zero_le _, Nat.zero_le _⟩ (by decide) pf rfl rfl hl.1 rfl (Nat.le_of_ble_eq_true rfl) dX7_wordNumber_47 (fun r21 w22 H locs hp23 h => ?_)
          obtain ⟨rfl, hr24⟩ := hp23
          rcases hr24 with ⟨hq25, rfl⟩ | ⟨hq25, rfl⟩
          · refine lv_if_eq (tgt := 55) hx hb dX7_wordNumber_50 (by decide) (fun hc => absurd hc (by decide)) (fun _ => ?_)
            refine lv_iconst (v := 4) hx hb dX7_wordNumber_53 (by decide) ?_
            exact e_i X h hr hlk dX7_wordNumber_54 ⟨rfl, ⟨by decide, by decide, Or.inr ⟨by decide, by decide, hq25⟩⟩⟩
          · refine lv_if_eq (tgt := 55) hx hb dX7_wordNumber_50 (by decide) (fun _ => ?_) (fun hc => absurd (by decide) hc)
            refine lv_aload_n hx hb dX7_wordNumber_55 rfl (lv_at hl 0 rfl) ?_
            refine va_ldcS hx hb hown (hN.2.2.1 (141, "hours", 5) (by decide)) dX7_wordNumber_56 ?_
            refine n_Vi (na := 1) (As := [.ref (ad 105)]) (rest := []) X hD hN h rfl (c_F_isWord l G cI cB cZ cO ad w 5 (by decide) z a b c0 d bs ok   pf (by omega) p56 (by first | omega | decide | (simp only [k00]; omega)) (by first | omega | decide | (simp only [k00]; omega)) (by first | omega | decide | (simp only [k00]; omega))) ⟨kv_385, kv_386, kv_387, kv_388, kv_389⟩ rfl ⟨by decide, by decide, by decide⟩ ⟨Nat.le_of_ble_eq_true rfl, Nat.le_of_ble_eq_true rfl⟩ ⟨Nat.zero_le _, Nat.zero_le _⟩ (by decide) pf rfl rfl hl.1 rfl (Nat.le_of_ble_eq_true rfl) dX7_wordNumber_58 (fun r26 w27 H locs hp28 h => ?_)
            obtain ⟨rfl, hr29⟩ := hp28
            rcases hr29 with ⟨hq30, rfl⟩ | ⟨hq30, rfl⟩
            · refine lv_if_eq (tgt := 68) hx hb dX7_wordNumber_61 (by decide) (fun hc => absurd hc (by decide)) (fun _ => ?_)
              refine lv_iconst (v := 5) hx hb dX7_wordNumber_64 (by decide) ?_
              refine lv_goto (tgt := 69) hx hb dX7_wordNumber_65 (by decide) ?_
              exact e_i X h hr hlk dX7_wordNumber_69 ⟨rfl, ⟨by decide, by decide, Or.inr ⟨by decide, by decide, hq30⟩⟩⟩
            · refine lv_if_eq (tgt := 68) hx hb dX7_wordNumber_61 (by decide) (fun _ => ?_) (fun hc => absurd (by decide) hc)
              refine lv_iconst (v := (-1)) hx hb dX7_wordNumber_68 (by decide) ?_
              exact e_i X h hr hlk dX7_wordNumber_69 ⟨rfl, ⟨by decide, by decide, Or.inl ⟨by decide, fun i hi => by match i, hi with | 0, _ => exact hq5 | 1, _ => exact hq10 | 2, _ => exact hq15 | 3, _ => exact hq20 | 4, _ => exact hq25 | 5, _ => exact hq30 | j + 6, hi => exact absurd hi (by omega)⟩⟩⟩
