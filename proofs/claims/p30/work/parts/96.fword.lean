set_option maxHeartbeats 4000000 in
set_option maxRecDepth 100000 in
theorem c_F_isWord (l : Launch) (G : va_G) (cI cB cZ cO : ClassId) (ad : Nat → Nat) (w : Nat → va_E) (i : Nat) (hi : i < 6) (z a b c0 d : Int32) (bs : Nat → Int32) (ok : OK cI cB cZ cO ad w)   (pf : w 55 = .inr (5, [.ref (ad 56), .ref (ad 57), .int z, .int a, .int b, .int c0, .int d])) (hz1 : z.toInt ≤ 150) (p56 : w 56 = .inl (cB, 150, .inl bs)) (ha0 : 0 ≤ a.toInt) (hab : a.toInt ≤ b.toInt) (hbz : b.toInt ≤ z.toInt) : NI l G (tyq cI cB cZ cO) yX7_isWord cX7_isWord 3 (some .boolean) 4 85 74 ad w [.ref (ad 55), .ref (ad (100 + i))] (fun r w1 => w = w1 ∧ ((wB bs a.toInt b.toInt i ∧ r = 1) ∨ (¬ wB bs a.toInt b.toInt i ∧ r = 0))) := by
  refine nk_i (own := "NoonShade$Text") rfl (by decide) (Nat.le_of_ble_eq_true rfl) ?_
  intro p e s m below meth c ls X hD hN hr hlk h hl
  have hx := X.1.1
  have hb := X.1.2.1
  have hown := X.1.2.2.2.1
  have hts := X.1.2.2.2.2
  have hl : lv_has ls 3 [(0, .ref (ad 55)), (1, .ref (ad (100 + i)))] := hl
  obtain ⟨sl, hsl, hs0, hs6, hsi, hsh⟩ := sl_ex i hi
  refine lv_aload_n hx hb dX7_isWord_0 rfl (lv_at hl 1 rfl) ?_
  refine n_Ki (na := 0) (As := []) (rest := []) X hD hN h rfl hi (c_S_length l G cI cB cZ cO ad w i hi    ) ⟨kv_374, kv_375, kv_376, kv_356, kv_377⟩ rfl ⟨by decide, by decide, by decide⟩ ⟨Nat.le_of_ble_eq_true rfl, Nat.le_of_ble_eq_true rfl⟩ ⟨Nat.zero_le _, Nat.zero_le _⟩ rfl hl.1 rfl (Nat.le_of_ble_eq_true rfl) dX7_isWord_1 (fun r1 w2 H locs hp3 h => ?_)
  obtain ⟨rfl, hr4⟩ := hp3
  have q5 : sl = r1 := hsl.symm.trans hr4
  subst q5
  refine lv_aload_n hx hb dX7_isWord_4 rfl (lv_at hl 0 rfl) ?_
  refine r_get kc7 X h 55 4 (by decide) rfl pf (by decide) kv_378 rfl dX7_isWord_5 ?_
  refine lv_aload_n hx hb dX7_isWord_8 rfl (lv_at hl 0 rfl) ?_
  refine r_get kc7 X h 55 3 (by decide) rfl pf (by decide) kv_379 rfl dX7_isWord_9 ?_
  obtain ⟨z8, e6, t7⟩ := x_sub (x := b) (y := a) (a := (b).toInt) (b := (a).toInt) rfl rfl (by omega) (by omega)
  refine o_isub (z := z8) hx hb dX7_isWord_12 e6 ?_
  refine lv_icmp_eq (tgt := 18) hx hb dX7_isWord_13 (by decide) (fun hc9 => ?_) (fun hc9 => ?_)
  · have hc9 : (sl).toInt = (z8).toInt := i_eq hc9 rfl rfl
    refine lv_iconst (v := 0) hx hb dX7_isWord_18 (by decide) ?_
    refine lv_istore_n (lv' := [(2, .int 0), (0, .ref (ad 55)), (1, .ref (ad (100 + i)))]) hx hb dX7_isWord_19 rfl hl (by decide) rfl (fun ls hl => ?_)
    have hloop11 : ∀ (d12 : Nat) (L10 : Int32) (H : Heap) (locs : List Loc) (ls : Array Slot), 0 ≤ L10.toInt → L10.toInt ≤ 6 → L10.toInt ≤ sl.toInt → (∀ j : Nat, j < L10.toNatClampNeg → bs (a.toNatClampNeg + j) = (sbyt.getD i []).getD j 0) → 6 - L10.toInt < (d12 : Int) → St G 74 ad (wA 74 ad s.heap.size) s.heap w H locs → lv_has ls 3 [(2, .int L10), (0, .ref (ad 55)), (1, .ref (ad (100 + i)))] → W p l e { frames := 4, cells := 0, slots := 0, locals := 85 } s m [.ref (ad 55), .ref (ad (100 + i))].toArray below meth c H locs 0 0 (MQ below (va_Qi (fun r w1 => w = w1 ∧ ((wB bs a.toInt b.toInt i ∧ r = 1) ∨ (¬ wB bs a.toInt b.toInt i ∧ r = 0))) (Aft G 74 ad) (wA 74 ad s.heap.size)) [.ref (ad 55), .ref (ad (100 + i))].toArray s 0 0 (wA 74 ad s.heap.size)) (F0 m 20 ls []) := by
      intro d12
      induction d12 with
      | zero => intro L10 H locs ls hi15 hi16 hi17 hi18 hm14 h hl; exfalso; omega
      | succ d12 ih13 =>
        intro L10 H locs ls hi15 hi16 hi17 hi18 hm14 h hl
        refine lv_iload_n hx hb dX7_isWord_20 rfl (lv_at hl 0 rfl) ?_
        refine lv_aload_n hx hb dX7_isWord_21 rfl (lv_at hl 2 rfl) ?_
        refine n_Ki (na := 0) (As := []) (rest := [.int L10]) X hD hN h rfl hi (c_S_length l G cI cB cZ cO ad w i hi    ) ⟨kv_374, kv_375, kv_376, kv_356, kv_377⟩ rfl ⟨by decide, by decide, by decide⟩ ⟨Nat.le_of_ble_eq_true rfl, Nat.le_of_ble_eq_true rfl⟩ ⟨Nat.zero_le _, Nat.zero_le _⟩ rfl hl.1 rfl (Nat.le_of_ble_eq_true rfl) dX7_isWord_22 (fun r21 w22 H locs hp23 h => ?_)
        obtain ⟨rfl, hr24⟩ := hp23
        have q25 : sl = r21 := hsl.symm.trans hr24
        subst q25
        refine lv_icmp_ge (tgt := 55) hx hb dX7_isWord_25 (by decide) (fun hc26 => ?_) (fun hc26 => ?_)
        · have hc26 : (sl).toInt ≤ (L10).toInt := i_le hc26 rfl rfl
          refine lv_iconst (v := 1) hx hb dX7_isWord_55 (by decide) ?_
          exact e_n X h hr hlk rfl dX7_isWord_56 ⟨rfl, Or.inl ⟨⟨by omega, fun j hj => hi18 j (by have := cl_of (x := L10) (by omega); omega)⟩, rfl⟩⟩
        · have hc26 : ¬ (sl).toInt ≤ (L10).toInt := i_nle hc26 rfl rfl
          refine lv_aload_n hx hb dX7_isWord_28 rfl (lv_at hl 1 rfl) ?_
          refine r_get kc7 X h 55 0 (by decide) rfl pf (by decide) kv_380 rfl dX7_isWord_29 ?_
          refine lv_aload_n hx hb dX7_isWord_32 rfl (lv_at hl 1 rfl) ?_
          refine r_get kc7 X h 55 3 (by decide) rfl pf (by decide) kv_379 rfl dX7_isWord_33 ?_
          refine lv_iload_n hx hb dX7_isWord_36 rfl (lv_at hl 0 rfl) ?_
          obtain ⟨z29, e27, t28⟩ := x_add (x := a) (y := L10) (a := (a).toInt) (b := (L10).toInt) rfl rfl (by omega) (by omega)
          have n30 : z29.toNatClampNeg = a.toNatClampNeg + L10.toNatClampNeg := cl_addn (x := a) (y := L10) rfl rfl t28 (by omega) (by omega)
          refine o_iadd (z := z29) hx hb dX7_isWord_37 e27 ?_
          obtain ⟨v31, e32⟩ : ∃ z : Int32, bs (a.toNatClampNeg + L10.toNatClampNeg) = z := ⟨_, rfl⟩
          refine o_bald (v := v31) X h 56 1 (by decide) rfl p56 rfl (in_of (by omega) (by omega)) (by rw [n30]; exact e32) dX7_isWord_38 ?_
          refine lv_aload_n hx hb dX7_isWord_39 rfl (lv_at hl 2 rfl) ?_
          refine lv_iload_n hx hb dX7_isWord_40 rfl (lv_at hl 0 rfl) ?_
          refine n_Ki (na := 1) (As := [.int L10]) (rest := [.int v31]) X hD hN h rfl hi (c_S_charAt l G cI cB cZ cO ad w i hi  L10 (by omega) (by omega) (by omega)) ⟨kv_381, kv_382, kv_383, kv_356, kv_384⟩ rfl ⟨by decide, by decide, by decide⟩ ⟨Nat.le_of_ble_eq_true rfl, Nat.le_of_ble_eq_true rfl⟩ ⟨Nat.zero_le _, Nat.zero_le _⟩ rfl hl.1 rfl (Nat.le_of_ble_eq_true rfl) dX7_isWord_41 (fun r34 w35 H locs hp36 h => ?_)
          obtain ⟨rfl, hr37⟩ := hp36
          refine lv_icmp_eq (tgt := 49) hx hb dX7_isWord_44 (by decide) (fun hc38 => ?_) (fun hc38 => ?_)
          · have hc38 : (v31).toInt = (r34).toInt := i_eq hc38 rfl rfl
            obtain ⟨z39, e40, t41⟩ := x_add (x := L10) (y := 1) (a := L10.toInt) (b := 1) rfl rfl (by omega) (by omega)
            have n42 : z39.toNatClampNeg = L10.toNatClampNeg + 1 := cl_addn (x := L10) (y := 1) rfl rfl t41 (by omega) (by decide)
            refine lv_iinc (v := z39) (lv' := [(2, .int z39), (0, .ref (ad 55)), (1, .ref (ad (100 + i)))]) hx hb dX7_isWord_49 hl (k := 0) rfl e40 (by decide) rfl (fun ls hl => ?_)
            refine lv_goto (tgt := 20) hx hb dX7_isWord_52 (by decide) ?_
            have hw43 : bs (a.toNatClampNeg + L10.toNatClampNeg) = (sbyt.getD i []).getD L10.toNatClampNeg 0 := by rw [e32, hr37]; exact (fa_eq _ _).mpr (by omega)
            exact ih13  z39  _ _ _ (by omega) (by omega) (by omega) (fun j hj => by rw [n42] at hj; by_cases q9 : j = L10.toNatClampNeg; (rw [q9]; exact hw43); exact hi18 j (by omega))  (by omega) h (lv_sub hl [0, 1, 2] rfl)
          · have hc38 : ¬ (v31).toInt = (r34).toInt := i_ne hc38 rfl rfl
            refine lv_iconst (v := 0) hx hb dX7_isWord_47 (by decide) ?_
            exact e_n X h hr hlk rfl dX7_isWord_48 ⟨rfl, Or.inr ⟨fun q9 => by have q8 : bs (a.toNatClampNeg + L10.toNatClampNeg) = (sbyt.getD i []).getD L10.toNatClampNeg 0 := q9.2 _ (by have := cl_of (x := L10) (by omega); omega); rw [e32, hr37] at q8; have := (fa_eq _ _).mp q8; omega, rfl⟩⟩
    exact hloop11 7 (0 : Int32)  _ _ _ (by have q0 : (0 : Int32).toInt = 0 := rfl; omega) (by have q0 : (0 : Int32).toInt = 0 := rfl; omega) (by have q0 : (0 : Int32).toInt = 0 := rfl; omega) (fun j hj => absurd hj (Nat.not_lt_zero _))  (by have q0 : (0 : Int32).toInt = 0 := rfl; omega) h (lv_sub hl [0, 1, 2] rfl)
  · have hc9 : ¬ (sl).toInt = (z8).toInt := i_ne hc9 rfl rfl
    refine lv_iconst (v := 0) hx hb dX7_isWord_16 (by decide) ?_
    exact e_n X h hr hlk rfl dX7_isWord_17 ⟨rfl, Or.inr ⟨fun q9 => by have := q9.1; omega, rfl⟩⟩

set_option maxHeartbeats 4000000 in
set_option maxRecDepth 100000 in
theorem c_F_wordNumber (l : Launch) (G : va_G) (cI cB cZ cO : ClassId) (ad : Nat → Nat) (w : Nat → va_E) (z a b c0 d : Int32) (bs : Nat → Int32) (ok : OK cI cB cZ cO ad w)   (pf : w 55 = .inr (5, [.ref (ad 56), .ref (ad 57), .int z, .int a, .int b, .int c0, .int d])) (hz1 : z.toInt ≤ 150) (p56 : w 56 = .inl (cB, 150, .inl bs)) (ha0 : 0 ≤ a.toInt) (hab : a.toInt ≤ b.toInt) (hbz : b.toInt ≤ z.toInt) : NI l G (tyq cI cB cZ cO) yX7_wordNumber cX7_wordNumber 1 (some .int) 5 107 74 ad w [.ref (ad 55)] (fun r w1 => w = w1 ∧ -1 ≤ r.toInt ∧ r.toInt ≤ 5 ∧ wnP bs a.toInt b.toInt r) := by
  refine nk_i (own := "NoonShade$Text") rfl (by decide) (Nat.le_of_ble_eq_true rfl) ?_
  intro p e s m below meth c ls X hD hN hr hlk h hl
  have hx := X.1.1
  have hb := X.1.2.1
  have hown := X.1.2.2.2.1
  have hts := X.1.2.2.2.2
  have hl : lv_has ls 1 [(0, .ref (ad 55))] := hl
  refine lv_aload_n hx hb dX7_wordNumber_0 rfl (lv_at hl 0 rfl) ?_
  refine va_ldcS hx hb hown (hN.2.2.1 (128, "island", 0) (by decide)) dX7_wordNumber_1 ?_
  refine n_Vi (na := 1) (As := [.ref (ad 100)]) (rest := []) X hD hN h rfl (c_F_isWord l G cI cB cZ cO ad w 0 (by decide) z a b c0 d bs ok   pf (by omega) p56 (by first | omega | decide | (simp only [k00]; omega)) (by first | omega | decide | (simp only [k00]; omega)) (by first | omega | decide | (simp only [k00]; omega))) ⟨kv_385, kv_386, kv_387, kv_388, kv_389⟩ rfl ⟨by decide, by decide, by decide⟩ ⟨Nat.le_of_ble_eq_true rfl, Nat.le_of_ble_eq_true rfl⟩ ⟨Nat.zero_le _, Nat.zero_le _⟩ (by decide) pf rfl rfl hl.1 rfl (Nat.le_of_ble_eq_true rfl) dX7_wordNumber_3 (fun r1 w2 H locs hp3 h => ?_)
  obtain ⟨rfl, hr4⟩ := hp3
  rcases hr4 with ⟨hq5, rfl⟩ | ⟨hq5, rfl⟩
  · refine lv_if_eq (tgt := 11) hx hb dX7_wordNumber_6 (by decide) (fun hc => absurd hc (by decide)) (fun _ => ?_)
    refine lv_iconst (v := 0) hx hb dX7_wordNumber_9 (by decide) ?_
    exact e_i X h hr hlk dX7_wordNumber_10 ⟨rfl, ⟨by decide, by decide, Or.inr ⟨by decide, by decide, hq5⟩⟩⟩
  · refine lv_if_eq (tgt := 11) hx hb dX7_wordNumber_6 (by decide) (fun _ => ?_) (fun hc => absurd (by decide) hc)
    refine lv_aload_n hx hb dX7_wordNumber_11 rfl (lv_at hl 0 rfl) ?_
    refine va_ldcS hx hb hown (hN.2.2.1 (134, "caster", 1) (by decide)) dX7_wordNumber_12 ?_
    refine n_Vi (na := 1) (As := [.ref (ad 101)]) (rest := []) X hD hN h rfl (c_F_isWord l G cI cB cZ cO ad w 1 (by decide) z a b c0 d bs ok   pf (by omega) p56 (by first | omega | decide | (simp only [k00]; omega)) (by first | omega | decide | (simp only [k00]; omega)) (by first | omega | decide | (simp only [k00]; omega))) ⟨kv_385, kv_386, kv_387, kv_388, kv_389⟩ rfl ⟨by decide, by decide, by decide⟩ ⟨Nat.le_of_ble_eq_true rfl, Nat.le_of_ble_eq_true rfl⟩ ⟨Nat.zero_le _, Nat.zero_le _⟩ (by decide) pf rfl rfl hl.1 rfl (Nat.le_of_ble_eq_true rfl) dX7_wordNumber_14 (fun r6 w7 H locs hp8 h => ?_)
    obtain ⟨rfl, hr9⟩ := hp8
    rcases hr9 with ⟨hq10, rfl⟩ | ⟨hq10, rfl⟩
    · refine lv_if_eq (tgt := 22) hx hb dX7_wordNumber_17 (by decide) (fun hc => absurd hc (by decide)) (fun _ => ?_)
      refine lv_iconst (v := 1) hx hb dX7_wordNumber_20 (by decide) ?_
      exact e_i X h hr hlk dX7_wordNumber_21 ⟨rfl, ⟨by decide, by decide, Or.inr ⟨by decide, by decide, hq10⟩⟩⟩
    · refine lv_if_eq (tgt := 22) hx hb dX7_wordNumber_17 (by decide) (fun _ => ?_) (fun hc => absurd (by decide) hc)
      refine lv_aload_n hx hb dX7_wordNumber_22 rfl (lv_at hl 0 rfl) ?_
      refine va_ldcS hx hb hown (hN.2.2.1 (136, "jar", 2) (by decide)) dX7_wordNumber_23 ?_
      refine n_Vi (na := 1) (As := [.ref (ad 102)]) (rest := []) X hD hN h rfl (c_F_isWord l G cI cB cZ cO ad w 2 (by decide) z a b c0 d bs ok   pf (by omega) p56 (by first | omega | decide | (simp only [k00]; omega)) (by first | omega | decide | (simp only [k00]; omega)) (by first | omega | decide | (simp only [k00]; omega))) ⟨kv_385, kv_386, kv_387, kv_388, kv_389⟩ rfl ⟨by decide, by decide, by decide⟩ ⟨Nat.le_of_ble_eq_true rfl, Nat.le_of_ble_eq_true rfl⟩ ⟨Nat.zero_le _, Nat.zero_le _⟩ (by decide) pf rfl rfl hl.1 rfl (Nat.le_of_ble_eq_true rfl) dX7_wordNumber_25 (fun r11 w12 H locs hp13 h => ?_)
      obtain ⟨rfl, hr14⟩ := hp13
      rcases hr14 with ⟨hq15, rfl⟩ | ⟨hq15, rfl⟩
      · refine lv_if_eq (tgt := 33) hx hb dX7_wordNumber_28 (by decide) (fun hc => absurd hc (by decide)) (fun _ => ?_)
        refine lv_iconst (v := 2) hx hb dX7_wordNumber_31 (by decide) ?_
        exact e_i X h hr hlk dX7_wordNumber_32 ⟨rfl, ⟨by decide, by decide, Or.inr ⟨by decide, by decide, hq15⟩⟩⟩
      · refine lv_if_eq (tgt := 33) hx hb dX7_wordNumber_28 (by decide) (fun _ => ?_) (fun hc => absurd (by decide) hc)
        refine lv_aload_n hx hb dX7_wordNumber_33 rfl (lv_at hl 0 rfl) ?_
        refine va_ldcS hx hb hown (hN.2.2.1 (138, "ladle", 3) (by decide)) dX7_wordNumber_34 ?_
        refine n_Vi (na := 1) (As := [.ref (ad 103)]) (rest := []) X hD hN h rfl (c_F_isWord l G cI cB cZ cO ad w 3 (by decide) z a b c0 d bs ok   pf (by omega) p56 (by first | omega | decide | (simp only [k00]; omega)) (by first | omega | decide | (simp only [k00]; omega)) (by first | omega | decide | (simp only [k00]; omega))) ⟨kv_385, kv_386, kv_387, kv_388, kv_389⟩ rfl ⟨by decide, by decide, by decide⟩ ⟨Nat.le_of_ble_eq_true rfl, Nat.le_of_ble_eq_true rfl⟩ ⟨Nat.zero_le _, Nat.zero_le _⟩ (by decide) pf rfl rfl hl.1 rfl (Nat.le_of_ble_eq_true rfl) dX7_wordNumber_36 (fun r16 w17 H locs hp18 h => ?_)
        obtain ⟨rfl, hr19⟩ := hp18
        rcases hr19 with ⟨hq20, rfl⟩ | ⟨hq20, rfl⟩
        · refine lv_if_eq (tgt := 44) hx hb dX7_wordNumber_39 (by decide) (fun hc => absurd hc (by decide)) (fun _ => ?_)
          refine lv_iconst (v := 3) hx hb dX7_wordNumber_42 (by decide) ?_
          exact e_i X h hr hlk dX7_wordNumber_43 ⟨rfl, ⟨by decide, by decide, Or.inr ⟨by decide, by decide, hq20⟩⟩⟩
        · refine lv_if_eq (tgt := 44) hx hb dX7_wordNumber_39 (by decide) (fun _ => ?_) (fun hc => absurd (by decide) hc)
          refine lv_aload_n hx hb dX7_wordNumber_44 rfl (lv_at hl 0 rfl) ?_
          refine va_ldcS hx hb hown (hN.2.2.1 (140, "pour", 4) (by decide)) dX7_wordNumber_45 ?_
          refine n_Vi (na := 1) (As := [.ref (ad 104)]) (rest := []) X hD hN h rfl (c_F_isWord l G cI cB cZ cO ad w 4 (by decide) z a b c0 d bs ok   pf (by omega) p56 (by first | omega | decide | (simp only [k00]; omega)) (by first | omega | decide | (simp only [k00]; omega)) (by first | omega | decide | (simp only [k00]; omega))) ⟨kv_385, kv_386, kv_387, kv_388, kv_389⟩ rfl ⟨by decide, by decide, by decide⟩ ⟨Nat.le_of_ble_eq_true rfl, Nat.le_of_ble_eq_true rfl⟩ ⟨Nat.zero_le _, Nat.zero_le _⟩ (by decide) pf rfl rfl hl.1 rfl (Nat.le_of_ble_eq_true rfl) dX7_wordNumber_47 (fun r21 w22 H locs hp23 h => ?_)
          obtain ⟨rfl, hr24⟩ := hp23
          rcases hr24 with ⟨hq25, rfl⟩ | ⟨hq25, rfl⟩
          · refine lv_if_eq (tgt := 55) hx hb dX7_wordNumber_50 (by decide) (fun hc => absurd hc (by decide)) (fun _ => ?_)
            refine lv_iconst (v := 4) hx hb dX7_wordNumber_53 (by decide) ?_
            exact e_i X h hr hlk dX7_wordNumber_54 ⟨rfl, ⟨by decide, by decide, Or.inr ⟨by decide, by decide, hq25⟩⟩⟩
          · refine lv_if_eq (tgt := 55) hx hb dX7_wordNumber_50 (by decide) (fun _ => ?_) (fun hc => absurd (by decide) hc)
            refine lv_aload_n hx hb dX7_wordNumber_55 rfl (lv_at hl 0 rfl) ?_
            refine va_ldcS hx hb hown (hN.2.2.1 (141, "hours", 5) (by decide)) dX7_wordNumber_56 ?_
            refine n_Vi (na := 1) (As := [.ref (ad 105)]) (rest := []) X hD hN h rfl (c_F_isWord l G cI cB cZ cO ad w 5 (by decide) z a b c0 d bs ok   pf (by omega) p56 (by first | omega | decide | (simp only [k00]; omega)) (by first | omega | decide | (simp only [k00]; omega)) (by first | omega | decide | (simp only [k00]; omega))) ⟨kv_385, kv_386, kv_387, kv_388, kv_389⟩ rfl ⟨by decide, by decide, by decide⟩ ⟨Nat.le_of_ble_eq_true rfl, Nat.le_of_ble_eq_true rfl⟩ ⟨Nat.zero_le _, Nat.zero_le _⟩ (by decide) pf rfl rfl hl.1 rfl (Nat.le_of_ble_eq_true rfl) dX7_wordNumber_58 (fun r26 w27 H locs hp28 h => ?_)
            obtain ⟨rfl, hr29⟩ := hp28
            rcases hr29 with ⟨hq30, rfl⟩ | ⟨hq30, rfl⟩
            · refine lv_if_eq (tgt := 68) hx hb dX7_wordNumber_61 (by decide) (fun hc => absurd hc (by decide)) (fun _ => ?_)
              refine lv_iconst (v := 5) hx hb dX7_wordNumber_64 (by decide) ?_
              refine lv_goto (tgt := 69) hx hb dX7_wordNumber_65 (by decide) ?_
              exact e_i X h hr hlk dX7_wordNumber_69 ⟨rfl, ⟨by decide, by decide, Or.inr ⟨by decide, by decide, hq30⟩⟩⟩
            · refine lv_if_eq (tgt := 68) hx hb dX7_wordNumber_61 (by decide) (fun _ => ?_) (fun hc => absurd (by decide) hc)
              refine lv_iconst (v := (-1)) hx hb dX7_wordNumber_68 (by decide) ?_
              exact e_i X h hr hlk dX7_wordNumber_69 ⟨rfl, ⟨by decide, by decide, Or.inl ⟨by decide, fun i hi => by match i, hi with | 0, _ => exact hq5 | 1, _ => exact hq10 | 2, _ => exact hq15 | 3, _ => exact hq20 | 4, _ => exact hq25 | 5, _ => exact hq30 | j + 6, hi => exact absurd hi (by omega)⟩⟩⟩

set_option maxHeartbeats 4000000 in
set_option maxRecDepth 100000 in
theorem c_MF_spells (l : Launch) (G : va_G) (cI cB cZ cO : ClassId) (ad : Nat → Nat) (w : Nat → va_E) (x y : Int64) (mb bl ta tl tk va : Int32) (bs : Nat → Int32) (ok : OK cI cB cZ cO ad w) (n : Int32) (s0 : Int32) (s1 : Int32) (s2 : Int32) (s3 : Int32) (s4 : Int32) (s5 : Int32) (hl_n : 0 ≤ n.toInt) (hh_n : n.toInt ≤ 6) (pf : w 64 = .inr (7, [.ref (ad 65), .ref (ad 66), .ref (ad 67), .ref (ad 68), .long x, .long y, .ref (ad 69), .int mb, .ref (ad 70), .ref (ad 71), .int bl, .int ta, .int tl, .int tk, .int va, .ref (ad 72), .ref (ad 73)])) (hbl0 : 0 ≤ bl.toInt) (hbl1 : bl.toInt ≤ 150) (p71 : w 71 = .inl (cI, 150, .inl bs)) (hta : 0 ≤ ta.toInt) (htl : 0 ≤ tl.toInt) (htb : ta.toInt + tl.toInt ≤ bl.toInt) : NI l G (tyq cI cB cZ cO) yX9_spells cX9_spells 10 (some .boolean) 0 0 74 ad w [.ref (ad 64), .int n, .int s0, .int s1, .int s2, .int s3, .int s4, .int s5] (fun r w1 => w = w1 ∧ (((tk.toInt = 1 ∧ tl.toInt = n.toInt ∧ ∀ j : Nat, (j : Int) < n.toInt → bs (ta.toNatClampNeg + j) = (if j = 0 then s0 else if j = 1 then s1 else if j = 2 then s2 else if j = 3 then s3 else if j = 4 then s4 else s5)) ∧ r = 1) ∨ (¬ (tk.toInt = 1 ∧ tl.toInt = n.toInt ∧ ∀ j : Nat, (j : Int) < n.toInt → bs (ta.toNatClampNeg + j) = (if j = 0 then s0 else if j = 1 then s1 else if j = 2 then s2 else if j = 3 then s3 else if j = 4 then s4 else s5)) ∧ r = 0))) := by
  refine nk_i (own := "NoonShadeModel") rfl (by decide) (Nat.le_of_ble_eq_true rfl) ?_
  intro p e s m below meth c ls X hD hN hr hlk h hl
  have hx := X.1.1
  have hb := X.1.2.1
  have hown := X.1.2.2.2.1
  have hts := X.1.2.2.2.2
  have hl : lv_has ls 10 [(0, .ref (ad 64)), (1, .int n), (2, .int s0), (3, .int s1), (4, .int s2), (5, .int s3), (6, .int s4), (7, .int s5)] := hl
  have kq0 : (0 : Int32).toInt = 0 := rfl
  have kq1 : (1 : Int32).toInt = 1 := rfl
  have kq2 : (2 : Int32).toInt = 2 := rfl
  have kq3 : (3 : Int32).toInt = 3 := rfl
  have kq4 : (4 : Int32).toInt = 4 := rfl
  refine lv_aload_n hx hb dX9_spells_0 rfl (lv_at hl 0 rfl) ?_
  refine r_get kc9 X h 64 13 (by decide) rfl pf (by decide) kv_665 rfl dX9_spells_1 ?_
  refine lv_iconst (v := 1) hx hb dX9_spells_4 (by decide) ?_
  refine lv_icmp_ne (tgt := 20) hx hb dX9_spells_5 (by decide) (fun hc1 => ?_) (fun hc1 => ?_)
  · have hc1 : ¬ (tk).toInt = 1 := i_ne hc1 rfl rfl
    refine lv_iconst (v := 0) hx hb dX9_spells_20 (by decide) ?_
    refine lv_istore (lv' := [(8, .int 0), (0, .ref (ad 64)), (1, .int n), (2, .int s0), (3, .int s1), (4, .int s2), (5, .int s3), (6, .int s4), (7, .int s5)]) hx hb dX9_spells_21 hl (by decide) rfl (fun ls hl => ?_)
    refine lv_iconst (v := 0) hx hb dX9_spells_23 (by decide) ?_
    refine lv_istore (lv' := [(9, .int 0), (8, .int 0), (0, .ref (ad 64)), (1, .int n), (2, .int s0), (3, .int s1), (4, .int s2), (5, .int s3), (6, .int s4), (7, .int s5)]) hx hb dX9_spells_24 hl (by decide) rfl (fun ls hl => ?_)
    have hloop4 : ∀ (d5 : Nat) (L2 : Int32) (L3 : Int32) (H : Heap) (locs : List Loc) (ls : Array Slot), 0 ≤ L3.toInt → L3.toInt ≤ 1 → 0 ≤ L2.toInt → L2.toInt ≤ 6 → (L3.toInt = 0 ∨ L2.toInt ≤ n.toInt) → (L3.toInt = 1 → (tk.toInt = 1 ∧ tl.toInt = n.toInt ∧ ∀ j : Nat, (j : Int) < L2.toInt → bs (ta.toNatClampNeg + j) = (if j = 0 then s0 else if j = 1 then s1 else if j = 2 then s2 else if j = 3 then s3 else if j = 4 then s4 else s5))) → (L3.toInt = 0 → ¬ (tk.toInt = 1 ∧ tl.toInt = n.toInt ∧ ∀ j : Nat, (j : Int) < n.toInt → bs (ta.toNatClampNeg + j) = (if j = 0 then s0 else if j = 1 then s1 else if j = 2 then s2 else if j = 3 then s3 else if j = 4 then s4 else s5))) → 6 - L2.toInt < (d5 : Int) → St G 74 ad (wA 74 ad s.heap.size) s.heap w H locs → lv_has ls 10 [(9, .int L2), (8, .int L3), (0, .ref (ad 64)), (1, .int n), (2, .int s0), (3, .int s1), (4, .int s2), (5, .int s3), (6, .int s4), (7, .int s5)] → W p l e { frames := 0, cells := 0, slots := 0, locals := 0 } s m [.ref (ad 64), .int n, .int s0, .int s1, .int s2, .int s3, .int s4, .int s5].toArray below meth c H locs 0 0 (MQ below (va_Qi (fun r w1 => w = w1 ∧ (((tk.toInt = 1 ∧ tl.toInt = n.toInt ∧ ∀ j : Nat, (j : Int) < n.toInt → bs (ta.toNatClampNeg + j) = (if j = 0 then s0 else if j = 1 then s1 else if j = 2 then s2 else if j = 3 then s3 else if j = 4 then s4 else s5)) ∧ r = 1) ∨ (¬ (tk.toInt = 1 ∧ tl.toInt = n.toInt ∧ ∀ j : Nat, (j : Int) < n.toInt → bs (ta.toNatClampNeg + j) = (if j = 0 then s0 else if j = 1 then s1 else if j = 2 then s2 else if j = 3 then s3 else if j = 4 then s4 else s5)) ∧ r = 0))) (Aft G 74 ad) (wA 74 ad s.heap.size)) [.ref (ad 64), .int n, .int s0, .int s1, .int s2, .int s3, .int s4, .int s5].toArray s 0 0 (wA 74 ad s.heap.size)) (F0 m 26 ls []) := by
      intro d5
      induction d5 with
      | zero => intro L2 L3 H locs ls hi8 hi9 hi10 hi11 hi12 hi13 hi14 hm7 h hl; exfalso; omega
      | succ d5 ih6 =>
        intro L2 L3 H locs ls hi8 hi9 hi10 hi11 hi12 hi13 hi14 hm7 h hl
        refine lv_iload hx hb dX9_spells_26 (lv_at hl 0 rfl) ?_
        refine lv_iload_n hx hb dX9_spells_28 rfl (lv_at hl 3 rfl) ?_
        refine lv_icmp_ge (tgt := 119) hx hb dX9_spells_29 (by decide) (fun hc17 => ?_) (fun hc17 => ?_)
        · have hc17 : (n).toInt ≤ (L2).toInt := i_le hc17 rfl rfl
          refine lv_iload hx hb dX9_spells_119 (lv_at hl 1 rfl) ?_
          exact e_n X h hr hlk (nbool (by omega) (by omega)) dX9_spells_121 ⟨rfl, (by rcases b01 (r := L3) (by omega) (by omega) with q9 | q9; (have q7 := congrArg Int32.toInt q9; have q8 := hi13 (by rw [q9]; rfl); exact Or.inl ⟨⟨q8.1, q8.2.1, fun j hj => q8.2.2 j (by omega)⟩, q9⟩); exact Or.inr ⟨hi14 (by rw [q9]; rfl), q9⟩)⟩
        · have hc17 : ¬ (n).toInt ≤ (L2).toInt := i_nle hc17 rfl rfl
          refine lv_iload hx hb dX9_spells_32 (lv_at hl 1 rfl) ?_
          refine lv_if_eq (tgt := 119) hx hb dX9_spells_34 (by decide) (fun hc18 => ?_) (fun hc18 => ?_)
          · have hc18 : (L3).toInt = 0 := i_eq hc18 rfl rfl
            refine lv_iload hx hb dX9_spells_119 (lv_at hl 1 rfl) ?_
            exact e_n X h hr hlk (nbool (by omega) (by omega)) dX9_spells_121 ⟨rfl, (by rcases b01 (r := L3) (by omega) (by omega) with q9 | q9; (have q7 := congrArg Int32.toInt q9; have q8 := hi13 (by rw [q9]; rfl); exact Or.inl ⟨⟨q8.1, q8.2.1, fun j hj => q8.2.2 j (by omega)⟩, q9⟩); exact Or.inr ⟨hi14 (by rw [q9]; rfl), q9⟩)⟩
          · have hc18 : ¬ (L3).toInt = 0 := i_ne hc18 rfl rfl
            refine lv_aload_n hx hb dX9_spells_37 rfl (lv_at hl 2 rfl) ?_
            refine r_get kc9 X h 64 9 (by decide) rfl pf (by decide) kv_667 rfl dX9_spells_38 ?_
            refine lv_aload_n hx hb dX9_spells_41 rfl (lv_at hl 2 rfl) ?_
            refine r_get kc9 X h 64 11 (by decide) rfl pf (by decide) kv_663 rfl dX9_spells_42 ?_
            refine lv_iload hx hb dX9_spells_45 (lv_at hl 0 rfl) ?_
            obtain ⟨z21, e19, t20⟩ := x_add (x := ta) (y := L2) (a := (ta).toInt) (b := (L2).toInt) rfl rfl (by omega) (by omega)
            have n22 : z21.toNatClampNeg = ta.toNatClampNeg + L2.toNatClampNeg := cl_addn (x := ta) (y := L2) rfl rfl t20 (by omega) (by omega)
            refine o_iadd (z := z21) hx hb dX9_spells_47 e19 ?_
            obtain ⟨v23, e24⟩ : ∃ z : Int32, bs (ta.toNatClampNeg + L2.toNatClampNeg) = z := ⟨_, rfl⟩
            refine o_iald (v := v23) X h 71 0 (by decide) rfl p71 rfl (in_of (by omega) (by omega)) (by rw [n22]; exact e24) dX9_spells_48 ?_
            refine lv_iload hx hb dX9_spells_49 (lv_at hl 0 rfl) ?_
            refine lv_if_ne (tgt := 58) hx hb dX9_spells_51 (by decide) (fun hc26 => ?_) (fun hc26 => ?_)
            · have hc26 : ¬ (L2).toInt = 0 := i_ne hc26 rfl rfl
              refine lv_iload hx hb dX9_spells_58 (lv_at hl 0 rfl) ?_
              refine lv_iconst (v := 1) hx hb dX9_spells_60 (by decide) ?_
              refine lv_icmp_ne (tgt := 68) hx hb dX9_spells_61 (by decide) (fun hc27 => ?_) (fun hc27 => ?_)
              · have hc27 : ¬ (L2).toInt = 1 := i_ne hc27 rfl rfl
                refine lv_iload hx hb dX9_spells_68 (lv_at hl 0 rfl) ?_
                refine lv_iconst (v := 2) hx hb dX9_spells_70 (by decide) ?_
                refine lv_icmp_ne (tgt := 79) hx hb dX9_spells_71 (by decide) (fun hc28 => ?_) (fun hc28 => ?_)
                · have hc28 : ¬ (L2).toInt = 2 := i_ne hc28 rfl rfl
                  refine lv_iload hx hb dX9_spells_79 (lv_at hl 0 rfl) ?_
                  refine lv_iconst (v := 3) hx hb dX9_spells_81 (by decide) ?_
                  refine lv_icmp_ne (tgt := 90) hx hb dX9_spells_82 (by decide) (fun hc29 => ?_) (fun hc29 => ?_)
                  · have hc29 : ¬ (L2).toInt = 3 := i_ne hc29 rfl rfl
                    refine lv_iload hx hb dX9_spells_90 (lv_at hl 0 rfl) ?_
                    refine lv_iconst (v := 4) hx hb dX9_spells_92 (by decide) ?_
                    refine lv_icmp_ne (tgt := 101) hx hb dX9_spells_93 (by decide) (fun hc30 => ?_) (fun hc30 => ?_)
                    · have hc30 : ¬ (L2).toInt = 4 := i_ne hc30 rfl rfl
                      refine lv_iload hx hb dX9_spells_101 (lv_at hl 9 rfl) ?_
                      refine lv_icmp_ne (tgt := 110) hx hb dX9_spells_103 (by decide) (fun hc31 => ?_) (fun hc31 => ?_)
                      · have hc31 : ¬ (v23).toInt = (s5).toInt := i_ne hc31 rfl rfl
                        refine lv_iconst (v := 0) hx hb dX9_spells_110 (by decide) ?_
                        refine lv_istore (lv' := [(8, .int 0), (9, .int L2), (0, .ref (ad 64)), (1, .int n), (2, .int s0), (3, .int s1), (4, .int s2), (5, .int s3), (6, .int s4), (7, .int s5)]) hx hb dX9_spells_111 hl (by decide) rfl (fun ls hl => ?_)
                        obtain ⟨z32, e33, t34⟩ := x_add (x := L2) (y := 1) (a := L2.toInt) (b := 1) rfl rfl (by omega) (by omega)
                        have n35 : z32.toNatClampNeg = L2.toNatClampNeg + 1 := cl_addn (x := L2) (y := 1) rfl rfl t34 (by omega) (by decide)
                        refine lv_iinc (v := z32) (lv' := [(9, .int z32), (8, .int 0), (0, .ref (ad 64)), (1, .int n), (2, .int s0), (3, .int s1), (4, .int s2), (5, .int s3), (6, .int s4), (7, .int s5)]) hx hb dX9_spells_113 hl (k := 1) rfl e33 (by decide) rfl (fun ls hl => ?_)
                        refine lv_goto (tgt := 26) hx hb dX9_spells_116 (by decide) ?_
                        have hk36 := cl_of (x := L2) (by omega)
                        exact ih6  z32 (0 : Int32)  _ _ _ (by have q0 : (0 : Int32).toInt = 0 := rfl; omega) (by have q0 : (0 : Int32).toInt = 0 := rfl; omega) (by have q0 : (0 : Int32).toInt = 0 := rfl; omega) (by have q0 : (0 : Int32).toInt = 0 := rfl; omega) (by have q0 : (0 : Int32).toInt = 0 := rfl; omega) (fun h9 => by have q0 : (0 : Int32).toInt = 0 := rfl; omega) (fun _ q9 => by have q8 := q9.2.2 L2.toNatClampNeg (by omega); rw [e24] at q8; revert q8; (repeat' split) <;> intro q8 <;> first | (have := (fa_eq _ _).mp q8; omega) | (exfalso; omega))  (by have q0 : (0 : Int32).toInt = 0 := rfl; omega) h (lv_sub hl [0, 1, 2, 3, 4, 5, 6, 7, 8, 9] rfl)
                      · have hc31 : (v23).toInt = (s5).toInt := i_eq hc31 rfl rfl
                        refine lv_iconst (v := 1) hx hb dX9_spells_106 (by decide) ?_
                        refine lv_goto (tgt := 111) hx hb dX9_spells_107 (by decide) ?_
                        refine lv_istore (lv' := [(8, .int 1), (9, .int L2), (0, .ref (ad 64)), (1, .int n), (2, .int s0), (3, .int s1), (4, .int s2), (5, .int s3), (6, .int s4), (7, .int s5)]) hx hb dX9_spells_111 hl (by decide) rfl (fun ls hl => ?_)
                        obtain ⟨z37, e38, t39⟩ := x_add (x := L2) (y := 1) (a := L2.toInt) (b := 1) rfl rfl (by omega) (by omega)
                        have n40 : z37.toNatClampNeg = L2.toNatClampNeg + 1 := cl_addn (x := L2) (y := 1) rfl rfl t39 (by omega) (by decide)
                        refine lv_iinc (v := z37) (lv' := [(9, .int z37), (8, .int 1), (0, .ref (ad 64)), (1, .int n), (2, .int s0), (3, .int s1), (4, .int s2), (5, .int s3), (6, .int s4), (7, .int s5)]) hx hb dX9_spells_113 hl (k := 1) rfl e38 (by decide) rfl (fun ls hl => ?_)
                        refine lv_goto (tgt := 26) hx hb dX9_spells_116 (by decide) ?_
                        obtain ⟨hs41a, hs41b, hs41⟩ := hi13 (by omega)
                        have hk42 := cl_of (x := L2) (by omega)
                        exact ih6  z37 (1 : Int32)  _ _ _ (by have q0 : (1 : Int32).toInt = 1 := rfl; omega) (by have q0 : (1 : Int32).toInt = 1 := rfl; omega) (by have q0 : (1 : Int32).toInt = 1 := rfl; omega) (by have q0 : (1 : Int32).toInt = 1 := rfl; omega) (by have q0 : (1 : Int32).toInt = 1 := rfl; omega) (fun _ => ⟨hs41a, hs41b, fun j hj => by by_cases q9 : (j : Int) < L2.toInt; exact hs41 j q9; (have q8 : j = L2.toNatClampNeg := by omega); (rw [q8, e24]; (repeat' split) <;> first | exact (fa_eq _ _).mpr (by omega) | (exfalso; omega))⟩) (fun h9 => by have q0 : (1 : Int32).toInt = 1 := rfl; omega)  (by have q0 : (1 : Int32).toInt = 1 := rfl; omega) h (lv_sub hl [0, 1, 2, 3, 4, 5, 6, 7, 8, 9] rfl)
                    · have hc30 : (L2).toInt = 4 := i_eq hc30 rfl rfl
                      refine lv_iload hx hb dX9_spells_96 (lv_at hl 8 rfl) ?_
                      refine lv_goto (tgt := 103) hx hb dX9_spells_98 (by decide) ?_
                      refine lv_icmp_ne (tgt := 110) hx hb dX9_spells_103 (by decide) (fun hc43 => ?_) (fun hc43 => ?_)
                      · have hc43 : ¬ (v23).toInt = (s4).toInt := i_ne hc43 rfl rfl
                        refine lv_iconst (v := 0) hx hb dX9_spells_110 (by decide) ?_
                        refine lv_istore (lv' := [(8, .int 0), (9, .int L2), (0, .ref (ad 64)), (1, .int n), (2, .int s0), (3, .int s1), (4, .int s2), (5, .int s3), (6, .int s4), (7, .int s5)]) hx hb dX9_spells_111 hl (by decide) rfl (fun ls hl => ?_)
                        obtain ⟨z44, e45, t46⟩ := x_add (x := L2) (y := 1) (a := L2.toInt) (b := 1) rfl rfl (by omega) (by omega)
                        have n47 : z44.toNatClampNeg = L2.toNatClampNeg + 1 := cl_addn (x := L2) (y := 1) rfl rfl t46 (by omega) (by decide)
                        refine lv_iinc (v := z44) (lv' := [(9, .int z44), (8, .int 0), (0, .ref (ad 64)), (1, .int n), (2, .int s0), (3, .int s1), (4, .int s2), (5, .int s3), (6, .int s4), (7, .int s5)]) hx hb dX9_spells_113 hl (k := 1) rfl e45 (by decide) rfl (fun ls hl => ?_)
                        refine lv_goto (tgt := 26) hx hb dX9_spells_116 (by decide) ?_
                        have hk48 := cl_of (x := L2) (by omega)
                        exact ih6  z44 (0 : Int32)  _ _ _ (by have q0 : (0 : Int32).toInt = 0 := rfl; omega) (by have q0 : (0 : Int32).toInt = 0 := rfl; omega) (by have q0 : (0 : Int32).toInt = 0 := rfl; omega) (by have q0 : (0 : Int32).toInt = 0 := rfl; omega) (by have q0 : (0 : Int32).toInt = 0 := rfl; omega) (fun h9 => by have q0 : (0 : Int32).toInt = 0 := rfl; omega) (fun _ q9 => by have q8 := q9.2.2 L2.toNatClampNeg (by omega); rw [e24] at q8; revert q8; (repeat' split) <;> intro q8 <;> first | (have := (fa_eq _ _).mp q8; omega) | (exfalso; omega))  (by have q0 : (0 : Int32).toInt = 0 := rfl; omega) h (lv_sub hl [0, 1, 2, 3, 4, 5, 6, 7, 8, 9] rfl)
                      · have hc43 : (v23).toInt = (s4).toInt := i_eq hc43 rfl rfl
                        refine lv_iconst (v := 1) hx hb dX9_spells_106 (by decide) ?_
                        refine lv_goto (tgt := 111) hx hb dX9_spells_107 (by decide) ?_
                        refine lv_istore (lv' := [(8, .int 1), (9, .int L2), (0, .ref (ad 64)), (1, .int n), (2, .int s0), (3, .int s1), (4, .int s2), (5, .int s3), (6, .int s4), (7, .int s5)]) hx hb dX9_spells_111 hl (by decide) rfl (fun ls hl => ?_)
                        obtain ⟨z49, e50, t51⟩ := x_add (x := L2) (y := 1) (a := L2.toInt) (b := 1) rfl rfl (by omega) (by omega)
                        have n52 : z49.toNatClampNeg = L2.toNatClampNeg + 1 := cl_addn (x := L2) (y := 1) rfl rfl t51 (by omega) (by decide)
                        refine lv_iinc (v := z49) (lv' := [(9, .int z49), (8, .int 1), (0, .ref (ad 64)), (1, .int n), (2, .int s0), (3, .int s1), (4, .int s2), (5, .int s3), (6, .int s4), (7, .int s5)]) hx hb dX9_spells_113 hl (k := 1) rfl e50 (by decide) rfl (fun ls hl => ?_)
                        refine lv_goto (tgt := 26) hx hb dX9_spells_116 (by decide) ?_
                        obtain ⟨hs53a, hs53b, hs53⟩ := hi13 (by omega)
                        have hk54 := cl_of (x := L2) (by omega)
                        exact ih6  z49 (1 : Int32)  _ _ _ (by have q0 : (1 : Int32).toInt = 1 := rfl; omega) (by have q0 : (1 : Int32).toInt = 1 := rfl; omega) (by have q0 : (1 : Int32).toInt = 1 := rfl; omega) (by have q0 : (1 : Int32).toInt = 1 := rfl; omega) (by have q0 : (1 : Int32).toInt = 1 := rfl; omega) (fun _ => ⟨hs53a, hs53b, fun j hj => by by_cases q9 : (j : Int) < L2.toInt; exact hs53 j q9; (have q8 : j = L2.toNatClampNeg := by omega); (rw [q8, e24]; (repeat' split) <;> first | exact (fa_eq _ _).mpr (by omega) | (exfalso; omega))⟩) (fun h9 => by have q0 : (1 : Int32).toInt = 1 := rfl; omega)  (by have q0 : (1 : Int32).toInt = 1 := rfl; omega) h (lv_sub hl [0, 1, 2, 3, 4, 5, 6, 7, 8, 9] rfl)
                  · have hc29 : (L2).toInt = 3 := i_eq hc29 rfl rfl
                    refine lv_iload hx hb dX9_spells_85 (lv_at hl 7 rfl) ?_
                    refine lv_goto (tgt := 103) hx hb dX9_spells_87 (by decide) ?_
                    refine lv_icmp_ne (tgt := 110) hx hb dX9_spells_103 (by decide) (fun hc55 => ?_) (fun hc55 => ?_)
                    · have hc55 : ¬ (v23).toInt = (s3).toInt := i_ne hc55 rfl rfl
                      refine lv_iconst (v := 0) hx hb dX9_spells_110 (by decide) ?_
                      refine lv_istore (lv' := [(8, .int 0), (9, .int L2), (0, .ref (ad 64)), (1, .int n), (2, .int s0), (3, .int s1), (4, .int s2), (5, .int s3), (6, .int s4), (7, .int s5)]) hx hb dX9_spells_111 hl (by decide) rfl (fun ls hl => ?_)
                      obtain ⟨z56, e57, t58⟩ := x_add (x := L2) (y := 1) (a := L2.toInt) (b := 1) rfl rfl (by omega) (by omega)
                      have n59 : z56.toNatClampNeg = L2.toNatClampNeg + 1 := cl_addn (x := L2) (y := 1) rfl rfl t58 (by omega) (by decide)
                      refine lv_iinc (v := z56) (lv' := [(9, .int z56), (8, .int 0), (0, .ref (ad 64)), (1, .int n), (2, .int s0), (3, .int s1), (4, .int s2), (5, .int s3), (6, .int s4), (7, .int s5)]) hx hb dX9_spells_113 hl (k := 1) rfl e57 (by decide) rfl (fun ls hl => ?_)
                      refine lv_goto (tgt := 26) hx hb dX9_spells_116 (by decide) ?_
                      have hk60 := cl_of (x := L2) (by omega)
                      exact ih6  z56 (0 : Int32)  _ _ _ (by have q0 : (0 : Int32).toInt = 0 := rfl; omega) (by have q0 : (0 : Int32).toInt = 0 := rfl; omega) (by have q0 : (0 : Int32).toInt = 0 := rfl; omega) (by have q0 : (0 : Int32).toInt = 0 := rfl; omega) (by have q0 : (0 : Int32).toInt = 0 := rfl; omega) (fun h9 => by have q0 : (0 : Int32).toInt = 0 := rfl; omega) (fun _ q9 => by have q8 := q9.2.2 L2.toNatClampNeg (by omega); rw [e24] at q8; revert q8; (repeat' split) <;> intro q8 <;> first | (have := (fa_eq _ _).mp q8; omega) | (exfalso; omega))  (by have q0 : (0 : Int32).toInt = 0 := rfl; omega) h (lv_sub hl [0, 1, 2, 3, 4, 5, 6, 7, 8, 9] rfl)
                    · have hc55 : (v23).toInt = (s3).toInt := i_eq hc55 rfl rfl
                      refine lv_iconst (v := 1) hx hb dX9_spells_106 (by decide) ?_
                      refine lv_goto (tgt := 111) hx hb dX9_spells_107 (by decide) ?_
                      refine lv_istore (lv' := [(8, .int 1), (9, .int L2), (0, .ref (ad 64)), (1, .int n), (2, .int s0), (3, .int s1), (4, .int s2), (5, .int s3), (6, .int s4), (7, .int s5)]) hx hb dX9_spells_111 hl (by decide) rfl (fun ls hl => ?_)
                      obtain ⟨z61, e62, t63⟩ := x_add (x := L2) (y := 1) (a := L2.toInt) (b := 1) rfl rfl (by omega) (by omega)
                      have n64 : z61.toNatClampNeg = L2.toNatClampNeg + 1 := cl_addn (x := L2) (y := 1) rfl rfl t63 (by omega) (by decide)
                      refine lv_iinc (v := z61) (lv' := [(9, .int z61), (8, .int 1), (0, .ref (ad 64)), (1, .int n), (2, .int s0), (3, .int s1), (4, .int s2), (5, .int s3), (6, .int s4), (7, .int s5)]) hx hb dX9_spells_113 hl (k := 1) rfl e62 (by decide) rfl (fun ls hl => ?_)
                      refine lv_goto (tgt := 26) hx hb dX9_spells_116 (by decide) ?_
                      obtain ⟨hs65a, hs65b, hs65⟩ := hi13 (by omega)
                      have hk66 := cl_of (x := L2) (by omega)
                      exact ih6  z61 (1 : Int32)  _ _ _ (by have q0 : (1 : Int32).toInt = 1 := rfl; omega) (by have q0 : (1 : Int32).toInt = 1 := rfl; omega) (by have q0 : (1 : Int32).toInt = 1 := rfl; omega) (by have q0 : (1 : Int32).toInt = 1 := rfl; omega) (by have q0 : (1 : Int32).toInt = 1 := rfl; omega) (fun _ => ⟨hs65a, hs65b, fun j hj => by by_cases q9 : (j : Int) < L2.toInt; exact hs65 j q9; (have q8 : j = L2.toNatClampNeg := by omega); (rw [q8, e24]; (repeat' split) <;> first | exact (fa_eq _ _).mpr (by omega) | (exfalso; omega))⟩) (fun h9 => by have q0 : (1 : Int32).toInt = 1 := rfl; omega)  (by have q0 : (1 : Int32).toInt = 1 := rfl; omega) h (lv_sub hl [0, 1, 2, 3, 4, 5, 6, 7, 8, 9] rfl)
                · have hc28 : (L2).toInt = 2 := i_eq hc28 rfl rfl
                  refine lv_iload hx hb dX9_spells_74 (lv_at hl 6 rfl) ?_
                  refine lv_goto (tgt := 103) hx hb dX9_spells_76 (by decide) ?_
                  refine lv_icmp_ne (tgt := 110) hx hb dX9_spells_103 (by decide) (fun hc67 => ?_) (fun hc67 => ?_)
                  · have hc67 : ¬ (v23).toInt = (s2).toInt := i_ne hc67 rfl rfl
                    refine lv_iconst (v := 0) hx hb dX9_spells_110 (by decide) ?_
                    refine lv_istore (lv' := [(8, .int 0), (9, .int L2), (0, .ref (ad 64)), (1, .int n), (2, .int s0), (3, .int s1), (4, .int s2), (5, .int s3), (6, .int s4), (7, .int s5)]) hx hb dX9_spells_111 hl (by decide) rfl (fun ls hl => ?_)
                    obtain ⟨z68, e69, t70⟩ := x_add (x := L2) (y := 1) (a := L2.toInt) (b := 1) rfl rfl (by omega) (by omega)
                    have n71 : z68.toNatClampNeg = L2.toNatClampNeg + 1 := cl_addn (x := L2) (y := 1) rfl rfl t70 (by omega) (by decide)
                    refine lv_iinc (v := z68) (lv' := [(9, .int z68), (8, .int 0), (0, .ref (ad 64)), (1, .int n), (2, .int s0), (3, .int s1), (4, .int s2), (5, .int s3), (6, .int s4), (7, .int s5)]) hx hb dX9_spells_113 hl (k := 1) rfl e69 (by decide) rfl (fun ls hl => ?_)
                    refine lv_goto (tgt := 26) hx hb dX9_spells_116 (by decide) ?_
                    have hk72 := cl_of (x := L2) (by omega)
                    exact ih6  z68 (0 : Int32)  _ _ _ (by have q0 : (0 : Int32).toInt = 0 := rfl; omega) (by have q0 : (0 : Int32).toInt = 0 := rfl; omega) (by have q0 : (0 : Int32).toInt = 0 := rfl; omega) (by have q0 : (0 : Int32).toInt = 0 := rfl; omega) (by have q0 : (0 : Int32).toInt = 0 := rfl; omega) (fun h9 => by have q0 : (0 : Int32).toInt = 0 := rfl; omega) (fun _ q9 => by have q8 := q9.2.2 L2.toNatClampNeg (by omega); rw [e24] at q8; revert q8; (repeat' split) <;> intro q8 <;> first | (have := (fa_eq _ _).mp q8; omega) | (exfalso; omega))  (by have q0 : (0 : Int32).toInt = 0 := rfl; omega) h (lv_sub hl [0, 1, 2, 3, 4, 5, 6, 7, 8, 9] rfl)
                  · have hc67 : (v23).toInt = (s2).toInt := i_eq hc67 rfl rfl
                    refine lv_iconst (v := 1) hx hb dX9_spells_106 (by decide) ?_
                    refine lv_goto (tgt := 111) hx hb dX9_spells_107 (by decide) ?_
                    refine lv_istore (lv' := [(8, .int 1), (9, .int L2), (0, .ref (ad 64)), (1, .int n), (2, .int s0), (3, .int s1), (4, .int s2), (5, .int s3), (6, .int s4), (7, .int s5)]) hx hb dX9_spells_111 hl (by decide) rfl (fun ls hl => ?_)
                    obtain ⟨z73, e74, t75⟩ := x_add (x := L2) (y := 1) (a := L2.toInt) (b := 1) rfl rfl (by omega) (by omega)
                    have n76 : z73.toNatClampNeg = L2.toNatClampNeg + 1 := cl_addn (x := L2) (y := 1) rfl rfl t75 (by omega) (by decide)
                    refine lv_iinc (v := z73) (lv' := [(9, .int z73), (8, .int 1), (0, .ref (ad 64)), (1, .int n), (2, .int s0), (3, .int s1), (4, .int s2), (5, .int s3), (6, .int s4), (7, .int s5)]) hx hb dX9_spells_113 hl (k := 1) rfl e74 (by decide) rfl (fun ls hl => ?_)
                    refine lv_goto (tgt := 26) hx hb dX9_spells_116 (by decide) ?_
                    obtain ⟨hs77a, hs77b, hs77⟩ := hi13 (by omega)
                    have hk78 := cl_of (x := L2) (by omega)
                    exact ih6  z73 (1 : Int32)  _ _ _ (by have q0 : (1 : Int32).toInt = 1 := rfl; omega) (by have q0 : (1 : Int32).toInt = 1 := rfl; omega) (by have q0 : (1 : Int32).toInt = 1 := rfl; omega) (by have q0 : (1 : Int32).toInt = 1 := rfl; omega) (by have q0 : (1 : Int32).toInt = 1 := rfl; omega) (fun _ => ⟨hs77a, hs77b, fun j hj => by by_cases q9 : (j : Int) < L2.toInt; exact hs77 j q9; (have q8 : j = L2.toNatClampNeg := by omega); (rw [q8, e24]; (repeat' split) <;> first | exact (fa_eq _ _).mpr (by omega) | (exfalso; omega))⟩) (fun h9 => by have q0 : (1 : Int32).toInt = 1 := rfl; omega)  (by have q0 : (1 : Int32).toInt = 1 := rfl; omega) h (lv_sub hl [0, 1, 2, 3, 4, 5, 6, 7, 8, 9] rfl)
              · have hc27 : (L2).toInt = 1 := i_eq hc27 rfl rfl
                refine lv_iload_n hx hb dX9_spells_64 rfl (lv_at hl 5 rfl) ?_
                refine lv_goto (tgt := 103) hx hb dX9_spells_65 (by decide) ?_
                refine lv_icmp_ne (tgt := 110) hx hb dX9_spells_103 (by decide) (fun hc79 => ?_) (fun hc79 => ?_)
                · have hc79 : ¬ (v23).toInt = (s1).toInt := i_ne hc79 rfl rfl
                  refine lv_iconst (v := 0) hx hb dX9_spells_110 (by decide) ?_
                  refine lv_istore (lv' := [(8, .int 0), (9, .int L2), (0, .ref (ad 64)), (1, .int n), (2, .int s0), (3, .int s1), (4, .int s2), (5, .int s3), (6, .int s4), (7, .int s5)]) hx hb dX9_spells_111 hl (by decide) rfl (fun ls hl => ?_)
                  obtain ⟨z80, e81, t82⟩ := x_add (x := L2) (y := 1) (a := L2.toInt) (b := 1) rfl rfl (by omega) (by omega)
                  have n83 : z80.toNatClampNeg = L2.toNatClampNeg + 1 := cl_addn (x := L2) (y := 1) rfl rfl t82 (by omega) (by decide)
                  refine lv_iinc (v := z80) (lv' := [(9, .int z80), (8, .int 0), (0, .ref (ad 64)), (1, .int n), (2, .int s0), (3, .int s1), (4, .int s2), (5, .int s3), (6, .int s4), (7, .int s5)]) hx hb dX9_spells_113 hl (k := 1) rfl e81 (by decide) rfl (fun ls hl => ?_)
                  refine lv_goto (tgt := 26) hx hb dX9_spells_116 (by decide) ?_
                  have hk84 := cl_of (x := L2) (by omega)
                  exact ih6  z80 (0 : Int32)  _ _ _ (by have q0 : (0 : Int32).toInt = 0 := rfl; omega) (by have q0 : (0 : Int32).toInt = 0 := rfl; omega) (by have q0 : (0 : Int32).toInt = 0 := rfl; omega) (by have q0 : (0 : Int32).toInt = 0 := rfl; omega) (by have q0 : (0 : Int32).toInt = 0 := rfl; omega) (fun h9 => by have q0 : (0 : Int32).toInt = 0 := rfl; omega) (fun _ q9 => by have q8 := q9.2.2 L2.toNatClampNeg (by omega); rw [e24] at q8; revert q8; (repeat' split) <;> intro q8 <;> first | (have := (fa_eq _ _).mp q8; omega) | (exfalso; omega))  (by have q0 : (0 : Int32).toInt = 0 := rfl; omega) h (lv_sub hl [0, 1, 2, 3, 4, 5, 6, 7, 8, 9] rfl)
                · have hc79 : (v23).toInt = (s1).toInt := i_eq hc79 rfl rfl
                  refine lv_iconst (v := 1) hx hb dX9_spells_106 (by decide) ?_
                  refine lv_goto (tgt := 111) hx hb dX9_spells_107 (by decide) ?_
                  refine lv_istore (lv' := [(8, .int 1), (9, .int L2), (0, .ref (ad 64)), (1, .int n), (2, .int s0), (3, .int s1), (4, .int s2), (5, .int s3), (6, .int s4), (7, .int s5)]) hx hb dX9_spells_111 hl (by decide) rfl (fun ls hl => ?_)
                  obtain ⟨z85, e86, t87⟩ := x_add (x := L2) (y := 1) (a := L2.toInt) (b := 1) rfl rfl (by omega) (by omega)
                  have n88 : z85.toNatClampNeg = L2.toNatClampNeg + 1 := cl_addn (x := L2) (y := 1) rfl rfl t87 (by omega) (by decide)
                  refine lv_iinc (v := z85) (lv' := [(9, .int z85), (8, .int 1), (0, .ref (ad 64)), (1, .int n), (2, .int s0), (3, .int s1), (4, .int s2), (5, .int s3), (6, .int s4), (7, .int s5)]) hx hb dX9_spells_113 hl (k := 1) rfl e86 (by decide) rfl (fun ls hl => ?_)
                  refine lv_goto (tgt := 26) hx hb dX9_spells_116 (by decide) ?_
                  obtain ⟨hs89a, hs89b, hs89⟩ := hi13 (by omega)
                  have hk90 := cl_of (x := L2) (by omega)
                  exact ih6  z85 (1 : Int32)  _ _ _ (by have q0 : (1 : Int32).toInt = 1 := rfl; omega) (by have q0 : (1 : Int32).toInt = 1 := rfl; omega) (by have q0 : (1 : Int32).toInt = 1 := rfl; omega) (by have q0 : (1 : Int32).toInt = 1 := rfl; omega) (by have q0 : (1 : Int32).toInt = 1 := rfl; omega) (fun _ => ⟨hs89a, hs89b, fun j hj => by by_cases q9 : (j : Int) < L2.toInt; exact hs89 j q9; (have q8 : j = L2.toNatClampNeg := by omega); (rw [q8, e24]; (repeat' split) <;> first | exact (fa_eq _ _).mpr (by omega) | (exfalso; omega))⟩) (fun h9 => by have q0 : (1 : Int32).toInt = 1 := rfl; omega)  (by have q0 : (1 : Int32).toInt = 1 := rfl; omega) h (lv_sub hl [0, 1, 2, 3, 4, 5, 6, 7, 8, 9] rfl)
            · have hc26 : (L2).toInt = 0 := i_eq hc26 rfl rfl
              refine lv_iload_n hx hb dX9_spells_54 rfl (lv_at hl 4 rfl) ?_
              refine lv_goto (tgt := 103) hx hb dX9_spells_55 (by decide) ?_
              refine lv_icmp_ne (tgt := 110) hx hb dX9_spells_103 (by decide) (fun hc91 => ?_) (fun hc91 => ?_)
              · have hc91 : ¬ (v23).toInt = (s0).toInt := i_ne hc91 rfl rfl
                refine lv_iconst (v := 0) hx hb dX9_spells_110 (by decide) ?_
                refine lv_istore (lv' := [(8, .int 0), (9, .int L2), (0, .ref (ad 64)), (1, .int n), (2, .int s0), (3, .int s1), (4, .int s2), (5, .int s3), (6, .int s4), (7, .int s5)]) hx hb dX9_spells_111 hl (by decide) rfl (fun ls hl => ?_)
                obtain ⟨z92, e93, t94⟩ := x_add (x := L2) (y := 1) (a := L2.toInt) (b := 1) rfl rfl (by omega) (by omega)
                have n95 : z92.toNatClampNeg = L2.toNatClampNeg + 1 := cl_addn (x := L2) (y := 1) rfl rfl t94 (by omega) (by decide)
                refine lv_iinc (v := z92) (lv' := [(9, .int z92), (8, .int 0), (0, .ref (ad 64)), (1, .int n), (2, .int s0), (3, .int s1), (4, .int s2), (5, .int s3), (6, .int s4), (7, .int s5)]) hx hb dX9_spells_113 hl (k := 1) rfl e93 (by decide) rfl (fun ls hl => ?_)
                refine lv_goto (tgt := 26) hx hb dX9_spells_116 (by decide) ?_
                have hk96 := cl_of (x := L2) (by omega)
                exact ih6  z92 (0 : Int32)  _ _ _ (by have q0 : (0 : Int32).toInt = 0 := rfl; omega) (by have q0 : (0 : Int32).toInt = 0 := rfl; omega) (by have q0 : (0 : Int32).toInt = 0 := rfl; omega) (by have q0 : (0 : Int32).toInt = 0 := rfl; omega) (by have q0 : (0 : Int32).toInt = 0 := rfl; omega) (fun h9 => by have q0 : (0 : Int32).toInt = 0 := rfl; omega) (fun _ q9 => by have q8 := q9.2.2 L2.toNatClampNeg (by omega); rw [e24] at q8; revert q8; (repeat' split) <;> intro q8 <;> first | (have := (fa_eq _ _).mp q8; omega) | (exfalso; omega))  (by have q0 : (0 : Int32).toInt = 0 := rfl; omega) h (lv_sub hl [0, 1, 2, 3, 4, 5, 6, 7, 8, 9] rfl)
              · have hc91 : (v23).toInt = (s0).toInt := i_eq hc91 rfl rfl
                refine lv_iconst (v := 1) hx hb dX9_spells_106 (by decide) ?_
                refine lv_goto (tgt := 111) hx hb dX9_spells_107 (by decide) ?_
                refine lv_istore (lv' := [(8, .int 1), (9, .int L2), (0, .ref (ad 64)), (1, .int n), (2, .int s0), (3, .int s1), (4, .int s2), (5, .int s3), (6, .int s4), (7, .int s5)]) hx hb dX9_spells_111 hl (by decide) rfl (fun ls hl => ?_)
                obtain ⟨z97, e98, t99⟩ := x_add (x := L2) (y := 1) (a := L2.toInt) (b := 1) rfl rfl (by omega) (by omega)
                have n100 : z97.toNatClampNeg = L2.toNatClampNeg + 1 := cl_addn (x := L2) (y := 1) rfl rfl t99 (by omega) (by decide)
                refine lv_iinc (v := z97) (lv' := [(9, .int z97), (8, .int 1), (0, .ref (ad 64)), (1, .int n), (2, .int s0), (3, .int s1), (4, .int s2), (5, .int s3), (6, .int s4), (7, .int s5)]) hx hb dX9_spells_113 hl (k := 1) rfl e98 (by decide) rfl (fun ls hl => ?_)
                refine lv_goto (tgt := 26) hx hb dX9_spells_116 (by decide) ?_
                obtain ⟨hs101a, hs101b, hs101⟩ := hi13 (by omega)
                have hk102 := cl_of (x := L2) (by omega)
                exact ih6  z97 (1 : Int32)  _ _ _ (by have q0 : (1 : Int32).toInt = 1 := rfl; omega) (by have q0 : (1 : Int32).toInt = 1 := rfl; omega) (by have q0 : (1 : Int32).toInt = 1 := rfl; omega) (by have q0 : (1 : Int32).toInt = 1 := rfl; omega) (by have q0 : (1 : Int32).toInt = 1 := rfl; omega) (fun _ => ⟨hs101a, hs101b, fun j hj => by by_cases q9 : (j : Int) < L2.toInt; exact hs101 j q9; (have q8 : j = L2.toNatClampNeg := by omega); (rw [q8, e24]; (repeat' split) <;> first | exact (fa_eq _ _).mpr (by omega) | (exfalso; omega))⟩) (fun h9 => by have q0 : (1 : Int32).toInt = 1 := rfl; omega)  (by have q0 : (1 : Int32).toInt = 1 := rfl; omega) h (lv_sub hl [0, 1, 2, 3, 4, 5, 6, 7, 8, 9] rfl)
    exact hloop4 7 (0 : Int32) (0 : Int32)  _ _ _ (by have q0 : (0 : Int32).toInt = 0 := rfl; omega) (by have q0 : (0 : Int32).toInt = 0 := rfl; omega) (by have q0 : (0 : Int32).toInt = 0 := rfl; omega) (by have q0 : (0 : Int32).toInt = 0 := rfl; omega) (by have q0 : (0 : Int32).toInt = 0 := rfl; omega) (fun h9 => by have q0 : (0 : Int32).toInt = 0 := rfl; omega) (fun _ q9 => by have q8 := q9.1; have q7 := q9.2.1; omega)  (by have q0 : (0 : Int32).toInt = 0 := rfl; omega) h (lv_sub hl [0, 1, 2, 3, 4, 5, 6, 7, 8, 9] rfl)
  · have hc1 : (tk).toInt = 1 := i_eq hc1 rfl rfl
    refine lv_aload_n hx hb dX9_spells_8 rfl (lv_at hl 0 rfl) ?_
    refine r_get kc9 X h 64 12 (by decide) rfl pf (by decide) kv_664 rfl dX9_spells_9 ?_
    refine lv_iload_n hx hb dX9_spells_12 rfl (lv_at hl 1 rfl) ?_
    refine lv_icmp_ne (tgt := 20) hx hb dX9_spells_13 (by decide) (fun hc103 => ?_) (fun hc103 => ?_)
    · have hc103 : ¬ (tl).toInt = (n).toInt := i_ne hc103 rfl rfl
      refine lv_iconst (v := 0) hx hb dX9_spells_20 (by decide) ?_
      refine lv_istore (lv' := [(8, .int 0), (0, .ref (ad 64)), (1, .int n), (2, .int s0), (3, .int s1), (4, .int s2), (5, .int s3), (6, .int s4), (7, .int s5)]) hx hb dX9_spells_21 hl (by decide) rfl (fun ls hl => ?_)
      refine lv_iconst (v := 0) hx hb dX9_spells_23 (by decide) ?_
      refine lv_istore (lv' := [(9, .int 0), (8, .int 0), (0, .ref (ad 64)), (1, .int n), (2, .int s0), (3, .int s1), (4, .int s2), (5, .int s3), (6, .int s4), (7, .int s5)]) hx hb dX9_spells_24 hl (by decide) rfl (fun ls hl => ?_)
      have hloop106 : ∀ (d107 : Nat) (L104 : Int32) (L105 : Int32) (H : Heap) (locs : List Loc) (ls : Array Slot), 0 ≤ L105.toInt → L105.toInt ≤ 1 → 0 ≤ L104.toInt → L104.toInt ≤ 6 → (L105.toInt = 0 ∨ L104.toInt ≤ n.toInt) → (L105.toInt = 1 → (tk.toInt = 1 ∧ tl.toInt = n.toInt ∧ ∀ j : Nat, (j : Int) < L104.toInt → bs (ta.toNatClampNeg + j) = (if j = 0 then s0 else if j = 1 then s1 else if j = 2 then s2 else if j = 3 then s3 else if j = 4 then s4 else s5))) → (L105.toInt = 0 → ¬ (tk.toInt = 1 ∧ tl.toInt = n.toInt ∧ ∀ j : Nat, (j : Int) < n.toInt → bs (ta.toNatClampNeg + j) = (if j = 0 then s0 else if j = 1 then s1 else if j = 2 then s2 else if j = 3 then s3 else if j = 4 then s4 else s5))) → 6 - L104.toInt < (d107 : Int) → St G 74 ad (wA 74 ad s.heap.size) s.heap w H locs → lv_has ls 10 [(9, .int L104), (8, .int L105), (0, .ref (ad 64)), (1, .int n), (2, .int s0), (3, .int s1), (4, .int s2), (5, .int s3), (6, .int s4), (7, .int s5)] → W p l e { frames := 0, cells := 0, slots := 0, locals := 0 } s m [.ref (ad 64), .int n, .int s0, .int s1, .int s2, .int s3, .int s4, .int s5].toArray below meth c H locs 0 0 (MQ below (va_Qi (fun r w1 => w = w1 ∧ (((tk.toInt = 1 ∧ tl.toInt = n.toInt ∧ ∀ j : Nat, (j : Int) < n.toInt → bs (ta.toNatClampNeg + j) = (if j = 0 then s0 else if j = 1 then s1 else if j = 2 then s2 else if j = 3 then s3 else if j = 4 then s4 else s5)) ∧ r = 1) ∨ (¬ (tk.toInt = 1 ∧ tl.toInt = n.toInt ∧ ∀ j : Nat, (j : Int) < n.toInt → bs (ta.toNatClampNeg + j) = (if j = 0 then s0 else if j = 1 then s1 else if j = 2 then s2 else if j = 3 then s3 else if j = 4 then s4 else s5)) ∧ r = 0))) (Aft G 74 ad) (wA 74 ad s.heap.size)) [.ref (ad 64), .int n, .int s0, .int s1, .int s2, .int s3, .int s4, .int s5].toArray s 0 0 (wA 74 ad s.heap.size)) (F0 m 26 ls []) := by
        intro d107
        induction d107 with
        | zero => intro L104 L105 H locs ls hi110 hi111 hi112 hi113 hi114 hi115 hi116 hm109 h hl; exfalso; omega
        | succ d107 ih108 =>
          intro L104 L105 H locs ls hi110 hi111 hi112 hi113 hi114 hi115 hi116 hm109 h hl
          refine lv_iload hx hb dX9_spells_26 (lv_at hl 0 rfl) ?_
          refine lv_iload_n hx hb dX9_spells_28 rfl (lv_at hl 3 rfl) ?_
          refine lv_icmp_ge (tgt := 119) hx hb dX9_spells_29 (by decide) (fun hc119 => ?_) (fun hc119 => ?_)
          · have hc119 : (n).toInt ≤ (L104).toInt := i_le hc119 rfl rfl
            refine lv_iload hx hb dX9_spells_119 (lv_at hl 1 rfl) ?_
            exact e_n X h hr hlk (nbool (by omega) (by omega)) dX9_spells_121 ⟨rfl, (by rcases b01 (r := L105) (by omega) (by omega) with q9 | q9; (have q7 := congrArg Int32.toInt q9; have q8 := hi115 (by rw [q9]; rfl); exact Or.inl ⟨⟨q8.1, q8.2.1, fun j hj => q8.2.2 j (by omega)⟩, q9⟩); exact Or.inr ⟨hi116 (by rw [q9]; rfl), q9⟩)⟩
          · have hc119 : ¬ (n).toInt ≤ (L104).toInt := i_nle hc119 rfl rfl
            refine lv_iload hx hb dX9_spells_32 (lv_at hl 1 rfl) ?_
            refine lv_if_eq (tgt := 119) hx hb dX9_spells_34 (by decide) (fun hc120 => ?_) (fun hc120 => ?_)
            · have hc120 : (L105).toInt = 0 := i_eq hc120 rfl rfl
              refine lv_iload hx hb dX9_spells_119 (lv_at hl 1 rfl) ?_
              exact e_n X h hr hlk (nbool (by omega) (by omega)) dX9_spells_121 ⟨rfl, (by rcases b01 (r := L105) (by omega) (by omega) with q9 | q9; (have q7 := congrArg Int32.toInt q9; have q8 := hi115 (by rw [q9]; rfl); exact Or.inl ⟨⟨q8.1, q8.2.1, fun j hj => q8.2.2 j (by omega)⟩, q9⟩); exact Or.inr ⟨hi116 (by rw [q9]; rfl), q9⟩)⟩
            · have hc120 : ¬ (L105).toInt = 0 := i_ne hc120 rfl rfl
              refine lv_aload_n hx hb dX9_spells_37 rfl (lv_at hl 2 rfl) ?_
              refine r_get kc9 X h 64 9 (by decide) rfl pf (by decide) kv_667 rfl dX9_spells_38 ?_
              refine lv_aload_n hx hb dX9_spells_41 rfl (lv_at hl 2 rfl) ?_
              refine r_get kc9 X h 64 11 (by decide) rfl pf (by decide) kv_663 rfl dX9_spells_42 ?_
              refine lv_iload hx hb dX9_spells_45 (lv_at hl 0 rfl) ?_
              obtain ⟨z123, e121, t122⟩ := x_add (x := ta) (y := L104) (a := (ta).toInt) (b := (L104).toInt) rfl rfl (by omega) (by omega)
              have n124 : z123.toNatClampNeg = ta.toNatClampNeg + L104.toNatClampNeg := cl_addn (x := ta) (y := L104) rfl rfl t122 (by omega) (by omega)
              refine o_iadd (z := z123) hx hb dX9_spells_47 e121 ?_
              obtain ⟨v125, e126⟩ : ∃ z : Int32, bs (ta.toNatClampNeg + L104.toNatClampNeg) = z := ⟨_, rfl⟩
              refine o_iald (v := v125) X h 71 0 (by decide) rfl p71 rfl (in_of (by omega) (by omega)) (by rw [n124]; exact e126) dX9_spells_48 ?_
              refine lv_iload hx hb dX9_spells_49 (lv_at hl 0 rfl) ?_
              refine lv_if_ne (tgt := 58) hx hb dX9_spells_51 (by decide) (fun hc128 => ?_) (fun hc128 => ?_)
              · have hc128 : ¬ (L104).toInt = 0 := i_ne hc128 rfl rfl
                refine lv_iload hx hb dX9_spells_58 (lv_at hl 0 rfl) ?_
                refine lv_iconst (v := 1) hx hb dX9_spells_60 (by decide) ?_
                refine lv_icmp_ne (tgt := 68) hx hb dX9_spells_61 (by decide) (fun hc129 => ?_) (fun hc129 => ?_)
                · have hc129 : ¬ (L104).toInt = 1 := i_ne hc129 rfl rfl
                  refine lv_iload hx hb dX9_spells_68 (lv_at hl 0 rfl) ?_
                  refine lv_iconst (v := 2) hx hb dX9_spells_70 (by decide) ?_
                  refine lv_icmp_ne (tgt := 79) hx hb dX9_spells_71 (by decide) (fun hc130 => ?_) (fun hc130 => ?_)
                  · have hc130 : ¬ (L104).toInt = 2 := i_ne hc130 rfl rfl
                    refine lv_iload hx hb dX9_spells_79 (lv_at hl 0 rfl) ?_
                    refine lv_iconst (v := 3) hx hb dX9_spells_81 (by decide) ?_
                    refine lv_icmp_ne (tgt := 90) hx hb dX9_spells_82 (by decide) (fun hc131 => ?_) (fun hc131 => ?_)
                    · have hc131 : ¬ (L104).toInt = 3 := i_ne hc131 rfl rfl
                      refine lv_iload hx hb dX9_spells_90 (lv_at hl 0 rfl) ?_
                      refine lv_iconst (v := 4) hx hb dX9_spells_92 (by decide) ?_
                      refine lv_icmp_ne (tgt := 101) hx hb dX9_spells_93 (by decide) (fun hc132 => ?_) (fun hc132 => ?_)
                      · have hc132 : ¬ (L104).toInt = 4 := i_ne hc132 rfl rfl
                        refine lv_iload hx hb dX9_spells_101 (lv_at hl 9 rfl) ?_
                        refine lv_icmp_ne (tgt := 110) hx hb dX9_spells_103 (by decide) (fun hc133 => ?_) (fun hc133 => ?_)
                        · have hc133 : ¬ (v125).toInt = (s5).toInt := i_ne hc133 rfl rfl
                          refine lv_iconst (v := 0) hx hb dX9_spells_110 (by decide) ?_
                          refine lv_istore (lv' := [(8, .int 0), (9, .int L104), (0, .ref (ad 64)), (1, .int n), (2, .int s0), (3, .int s1), (4, .int s2), (5, .int s3), (6, .int s4), (7, .int s5)]) hx hb dX9_spells_111 hl (by decide) rfl (fun ls hl => ?_)
                          obtain ⟨z134, e135, t136⟩ := x_add (x := L104) (y := 1) (a := L104.toInt) (b := 1) rfl rfl (by omega) (by omega)
                          have n137 : z134.toNatClampNeg = L104.toNatClampNeg + 1 := cl_addn (x := L104) (y := 1) rfl rfl t136 (by omega) (by decide)
                          refine lv_iinc (v := z134) (lv' := [(9, .int z134), (8, .int 0), (0, .ref (ad 64)), (1, .int n), (2, .int s0), (3, .int s1), (4, .int s2), (5, .int s3), (6, .int s4), (7, .int s5)]) hx hb dX9_spells_113 hl (k := 1) rfl e135 (by decide) rfl (fun ls hl => ?_)
                          refine lv_goto (tgt := 26) hx hb dX9_spells_116 (by decide) ?_
                          have hk138 := cl_of (x := L104) (by omega)
                          exact ih108  z134 (0 : Int32)  _ _ _ (by have q0 : (0 : Int32).toInt = 0 := rfl; omega) (by have q0 : (0 : Int32).toInt = 0 := rfl; omega) (by have q0 : (0 : Int32).toInt = 0 := rfl; omega) (by have q0 : (0 : Int32).toInt = 0 := rfl; omega) (by have q0 : (0 : Int32).toInt = 0 := rfl; omega) (fun h9 => by have q0 : (0 : Int32).toInt = 0 := rfl; omega) (fun _ q9 => by have q8 := q9.2.2 L104.toNatClampNeg (by omega); rw [e126] at q8; revert q8; (repeat' split) <;> intro q8 <;> first | (have := (fa_eq _ _).mp q8; omega) | (exfalso; omega))  (by have q0 : (0 : Int32).toInt = 0 := rfl; omega) h (lv_sub hl [0, 1, 2, 3, 4, 5, 6, 7, 8, 9] rfl)
                        · have hc133 : (v125).toInt = (s5).toInt := i_eq hc133 rfl rfl
                          refine lv_iconst (v := 1) hx hb dX9_spells_106 (by decide) ?_
                          refine lv_goto (tgt := 111) hx hb dX9_spells_107 (by decide) ?_
                          refine lv_istore (lv' := [(8, .int 1), (9, .int L104), (0, .ref (ad 64)), (1, .int n), (2, .int s0), (3, .int s1), (4, .int s2), (5, .int s3), (6, .int s4), (7, .int s5)]) hx hb dX9_spells_111 hl (by decide) rfl (fun ls hl => ?_)
                          obtain ⟨z139, e140, t141⟩ := x_add (x := L104) (y := 1) (a := L104.toInt) (b := 1) rfl rfl (by omega) (by omega)
                          have n142 : z139.toNatClampNeg = L104.toNatClampNeg + 1 := cl_addn (x := L104) (y := 1) rfl rfl t141 (by omega) (by decide)
                          refine lv_iinc (v := z139) (lv' := [(9, .int z139), (8, .int 1), (0, .ref (ad 64)), (1, .int n), (2, .int s0), (3, .int s1), (4, .int s2), (5, .int s3), (6, .int s4), (7, .int s5)]) hx hb dX9_spells_113 hl (k := 1) rfl e140 (by decide) rfl (fun ls hl => ?_)
                          refine lv_goto (tgt := 26) hx hb dX9_spells_116 (by decide) ?_
                          obtain ⟨hs143a, hs143b, hs143⟩ := hi115 (by omega)
                          have hk144 := cl_of (x := L104) (by omega)
                          exact ih108  z139 (1 : Int32)  _ _ _ (by have q0 : (1 : Int32).toInt = 1 := rfl; omega) (by have q0 : (1 : Int32).toInt = 1 := rfl; omega) (by have q0 : (1 : Int32).toInt = 1 := rfl; omega) (by have q0 : (1 : Int32).toInt = 1 := rfl; omega) (by have q0 : (1 : Int32).toInt = 1 := rfl; omega) (fun _ => ⟨hs143a, hs143b, fun j hj => by by_cases q9 : (j : Int) < L104.toInt; exact hs143 j q9; (have q8 : j = L104.toNatClampNeg := by omega); (rw [q8, e126]; (repeat' split) <;> first | exact (fa_eq _ _).mpr (by omega) | (exfalso; omega))⟩) (fun h9 => by have q0 : (1 : Int32).toInt = 1 := rfl; omega)  (by have q0 : (1 : Int32).toInt = 1 := rfl; omega) h (lv_sub hl [0, 1, 2, 3, 4, 5, 6, 7, 8, 9] rfl)
                      · have hc132 : (L104).toInt = 4 := i_eq hc132 rfl rfl
                        refine lv_iload hx hb dX9_spells_96 (lv_at hl 8 rfl) ?_
                        refine lv_goto (tgt := 103) hx hb dX9_spells_98 (by decide) ?_
                        refine lv_icmp_ne (tgt := 110) hx hb dX9_spells_103 (by decide) (fun hc145 => ?_) (fun hc145 => ?_)
                        · have hc145 : ¬ (v125).toInt = (s4).toInt := i_ne hc145 rfl rfl
                          refine lv_iconst (v := 0) hx hb dX9_spells_110 (by decide) ?_
                          refine lv_istore (lv' := [(8, .int 0), (9, .int L104), (0, .ref (ad 64)), (1, .int n), (2, .int s0), (3, .int s1), (4, .int s2), (5, .int s3), (6, .int s4), (7, .int s5)]) hx hb dX9_spells_111 hl (by decide) rfl (fun ls hl => ?_)
                          obtain ⟨z146, e147, t148⟩ := x_add (x := L104) (y := 1) (a := L104.toInt) (b := 1) rfl rfl (by omega) (by omega)
                          have n149 : z146.toNatClampNeg = L104.toNatClampNeg + 1 := cl_addn (x := L104) (y := 1) rfl rfl t148 (by omega) (by decide)
                          refine lv_iinc (v := z146) (lv' := [(9, .int z146), (8, .int 0), (0, .ref (ad 64)), (1, .int n), (2, .int s0), (3, .int s1), (4, .int s2), (5, .int s3), (6, .int s4), (7, .int s5)]) hx hb dX9_spells_113 hl (k := 1) rfl e147 (by decide) rfl (fun ls hl => ?_)
                          refine lv_goto (tgt := 26) hx hb dX9_spells_116 (by decide) ?_
                          have hk150 := cl_of (x := L104) (by omega)
                          exact ih108  z146 (0 : Int32)  _ _ _ (by have q0 : (0 : Int32).toInt = 0 := rfl; omega) (by have q0 : (0 : Int32).toInt = 0 := rfl; omega) (by have q0 : (0 : Int32).toInt = 0 := rfl; omega) (by have q0 : (0 : Int32).toInt = 0 := rfl; omega) (by have q0 : (0 : Int32).toInt = 0 := rfl; omega) (fun h9 => by have q0 : (0 : Int32).toInt = 0 := rfl; omega) (fun _ q9 => by have q8 := q9.2.2 L104.toNatClampNeg (by omega); rw [e126] at q8; revert q8; (repeat' split) <;> intro q8 <;> first | (have := (fa_eq _ _).mp q8; omega) | (exfalso; omega))  (by have q0 : (0 : Int32).toInt = 0 := rfl; omega) h (lv_sub hl [0, 1, 2, 3, 4, 5, 6, 7, 8, 9] rfl)
                        · have hc145 : (v125).toInt = (s4).toInt := i_eq hc145 rfl rfl
                          refine lv_iconst (v := 1) hx hb dX9_spells_106 (by decide) ?_
                          refine lv_goto (tgt := 111) hx hb dX9_spells_107 (by decide) ?_
                          refine lv_istore (lv' := [(8, .int 1), (9, .int L104), (0, .ref (ad 64)), (1, .int n), (2, .int s0), (3, .int s1), (4, .int s2), (5, .int s3), (6, .int s4), (7, .int s5)]) hx hb dX9_spells_111 hl (by decide) rfl (fun ls hl => ?_)
                          obtain ⟨z151, e152, t153⟩ := x_add (x := L104) (y := 1) (a := L104.toInt) (b := 1) rfl rfl (by omega) (by omega)
                          have n154 : z151.toNatClampNeg = L104.toNatClampNeg + 1 := cl_addn (x := L104) (y := 1) rfl rfl t153 (by omega) (by decide)
                          refine lv_iinc (v := z151) (lv' := [(9, .int z151), (8, .int 1), (0, .ref (ad 64)), (1, .int n), (2, .int s0), (3, .int s1), (4, .int s2), (5, .int s3), (6, .int s4), (7, .int s5)]) hx hb dX9_spells_113 hl (k := 1) rfl e152 (by decide) rfl (fun ls hl => ?_)
                          refine lv_goto (tgt := 26) hx hb dX9_spells_116 (by decide) ?_
                          obtain ⟨hs155a, hs155b, hs155⟩ := hi115 (by omega)
                          have hk156 := cl_of (x := L104) (by omega)
                          exact ih108  z151 (1 : Int32)  _ _ _ (by have q0 : (1 : Int32).toInt = 1 := rfl; omega) (by have q0 : (1 : Int32).toInt = 1 := rfl; omega) (by have q0 : (1 : Int32).toInt = 1 := rfl; omega) (by have q0 : (1 : Int32).toInt = 1 := rfl; omega) (by have q0 : (1 : Int32).toInt = 1 := rfl; omega) (fun _ => ⟨hs155a, hs155b, fun j hj => by by_cases q9 : (j : Int) < L104.toInt; exact hs155 j q9; (have q8 : j = L104.toNatClampNeg := by omega); (rw [q8, e126]; (repeat' split) <;> first | exact (fa_eq _ _).mpr (by omega) | (exfalso; omega))⟩) (fun h9 => by have q0 : (1 : Int32).toInt = 1 := rfl; omega)  (by have q0 : (1 : Int32).toInt = 1 := rfl; omega) h (lv_sub hl [0, 1, 2, 3, 4, 5, 6, 7, 8, 9] rfl)
                    · have hc131 : (L104).toInt = 3 := i_eq hc131 rfl rfl
                      refine lv_iload hx hb dX9_spells_85 (lv_at hl 7 rfl) ?_
                      refine lv_goto (tgt := 103) hx hb dX9_spells_87 (by decide) ?_
                      refine lv_icmp_ne (tgt := 110) hx hb dX9_spells_103 (by decide) (fun hc157 => ?_) (fun hc157 => ?_)
                      · have hc157 : ¬ (v125).toInt = (s3).toInt := i_ne hc157 rfl rfl
                        refine lv_iconst (v := 0) hx hb dX9_spells_110 (by decide) ?_
                        refine lv_istore (lv' := [(8, .int 0), (9, .int L104), (0, .ref (ad 64)), (1, .int n), (2, .int s0), (3, .int s1), (4, .int s2), (5, .int s3), (6, .int s4), (7, .int s5)]) hx hb dX9_spells_111 hl (by decide) rfl (fun ls hl => ?_)
                        obtain ⟨z158, e159, t160⟩ := x_add (x := L104) (y := 1) (a := L104.toInt) (b := 1) rfl rfl (by omega) (by omega)
                        have n161 : z158.toNatClampNeg = L104.toNatClampNeg + 1 := cl_addn (x := L104) (y := 1) rfl rfl t160 (by omega) (by decide)
                        refine lv_iinc (v := z158) (lv' := [(9, .int z158), (8, .int 0), (0, .ref (ad 64)), (1, .int n), (2, .int s0), (3, .int s1), (4, .int s2), (5, .int s3), (6, .int s4), (7, .int s5)]) hx hb dX9_spells_113 hl (k := 1) rfl e159 (by decide) rfl (fun ls hl => ?_)
                        refine lv_goto (tgt := 26) hx hb dX9_spells_116 (by decide) ?_
                        have hk162 := cl_of (x := L104) (by omega)
                        exact ih108  z158 (0 : Int32)  _ _ _ (by have q0 : (0 : Int32).toInt = 0 := rfl; omega) (by have q0 : (0 : Int32).toInt = 0 := rfl; omega) (by have q0 : (0 : Int32).toInt = 0 := rfl; omega) (by have q0 : (0 : Int32).toInt = 0 := rfl; omega) (by have q0 : (0 : Int32).toInt = 0 := rfl; omega) (fun h9 => by have q0 : (0 : Int32).toInt = 0 := rfl; omega) (fun _ q9 => by have q8 := q9.2.2 L104.toNatClampNeg (by omega); rw [e126] at q8; revert q8; (repeat' split) <;> intro q8 <;> first | (have := (fa_eq _ _).mp q8; omega) | (exfalso; omega))  (by have q0 : (0 : Int32).toInt = 0 := rfl; omega) h (lv_sub hl [0, 1, 2, 3, 4, 5, 6, 7, 8, 9] rfl)
                      · have hc157 : (v125).toInt = (s3).toInt := i_eq hc157 rfl rfl
                        refine lv_iconst (v := 1) hx hb dX9_spells_106 (by decide) ?_
                        refine lv_goto (tgt := 111) hx hb dX9_spells_107 (by decide) ?_
                        refine lv_istore (lv' := [(8, .int 1), (9, .int L104), (0, .ref (ad 64)), (1, .int n), (2, .int s0), (3, .int s1), (4, .int s2), (5, .int s3), (6, .int s4), (7, .int s5)]) hx hb dX9_spells_111 hl (by decide) rfl (fun ls hl => ?_)
                        obtain ⟨z163, e164, t165⟩ := x_add (x := L104) (y := 1) (a := L104.toInt) (b := 1) rfl rfl (by omega) (by omega)
                        have n166 : z163.toNatClampNeg = L104.toNatClampNeg + 1 := cl_addn (x := L104) (y := 1) rfl rfl t165 (by omega) (by decide)
                        refine lv_iinc (v := z163) (lv' := [(9, .int z163), (8, .int 1), (0, .ref (ad 64)), (1, .int n), (2, .int s0), (3, .int s1), (4, .int s2), (5, .int s3), (6, .int s4), (7, .int s5)]) hx hb dX9_spells_113 hl (k := 1) rfl e164 (by decide) rfl (fun ls hl => ?_)
                        refine lv_goto (tgt := 26) hx hb dX9_spells_116 (by decide) ?_
                        obtain ⟨hs167a, hs167b, hs167⟩ := hi115 (by omega)
                        have hk168 := cl_of (x := L104) (by omega)
                        exact ih108  z163 (1 : Int32)  _ _ _ (by have q0 : (1 : Int32).toInt = 1 := rfl; omega) (by have q0 : (1 : Int32).toInt = 1 := rfl; omega) (by have q0 : (1 : Int32).toInt = 1 := rfl; omega) (by have q0 : (1 : Int32).toInt = 1 := rfl; omega) (by have q0 : (1 : Int32).toInt = 1 := rfl; omega) (fun _ => ⟨hs167a, hs167b, fun j hj => by by_cases q9 : (j : Int) < L104.toInt; exact hs167 j q9; (have q8 : j = L104.toNatClampNeg := by omega); (rw [q8, e126]; (repeat' split) <;> first | exact (fa_eq _ _).mpr (by omega) | (exfalso; omega))⟩) (fun h9 => by have q0 : (1 : Int32).toInt = 1 := rfl; omega)  (by have q0 : (1 : Int32).toInt = 1 := rfl; omega) h (lv_sub hl [0, 1, 2, 3, 4, 5, 6, 7, 8, 9] rfl)
                  · have hc130 : (L104).toInt = 2 := i_eq hc130 rfl rfl
                    refine lv_iload hx hb dX9_spells_74 (lv_at hl 6 rfl) ?_
                    refine lv_goto (tgt := 103) hx hb dX9_spells_76 (by decide) ?_
                    refine lv_icmp_ne (tgt := 110) hx hb dX9_spells_103 (by decide) (fun hc169 => ?_) (fun hc169 => ?_)
                    · have hc169 : ¬ (v125).toInt = (s2).toInt := i_ne hc169 rfl rfl
                      refine lv_iconst (v := 0) hx hb dX9_spells_110 (by decide) ?_
                      refine lv_istore (lv' := [(8, .int 0), (9, .int L104), (0, .ref (ad 64)), (1, .int n), (2, .int s0), (3, .int s1), (4, .int s2), (5, .int s3), (6, .int s4), (7, .int s5)]) hx hb dX9_spells_111 hl (by decide) rfl (fun ls hl => ?_)
                      obtain ⟨z170, e171, t172⟩ := x_add (x := L104) (y := 1) (a := L104.toInt) (b := 1) rfl rfl (by omega) (by omega)
                      have n173 : z170.toNatClampNeg = L104.toNatClampNeg + 1 := cl_addn (x := L104) (y := 1) rfl rfl t172 (by omega) (by decide)
                      refine lv_iinc (v := z170) (lv' := [(9, .int z170), (8, .int 0), (0, .ref (ad 64)), (1, .int n), (2, .int s0), (3, .int s1), (4, .int s2), (5, .int s3), (6, .int s4), (7, .int s5)]) hx hb dX9_spells_113 hl (k := 1) rfl e171 (by decide) rfl (fun ls hl => ?_)
                      refine lv_goto (tgt := 26) hx hb dX9_spells_116 (by decide) ?_
                      have hk174 := cl_of (x := L104) (by omega)
                      exact ih108  z170 (0 : Int32)  _ _ _ (by have q0 : (0 : Int32).toInt = 0 := rfl; omega) (by have q0 : (0 : Int32).toInt = 0 := rfl; omega) (by have q0 : (0 : Int32).toInt = 0 := rfl; omega) (by have q0 : (0 : Int32).toInt = 0 := rfl; omega) (by have q0 : (0 : Int32).toInt = 0 := rfl; omega) (fun h9 => by have q0 : (0 : Int32).toInt = 0 := rfl; omega) (fun _ q9 => by have q8 := q9.2.2 L104.toNatClampNeg (by omega); rw [e126] at q8; revert q8; (repeat' split) <;> intro q8 <;> first | (have := (fa_eq _ _).mp q8; omega) | (exfalso; omega))  (by have q0 : (0 : Int32).toInt = 0 := rfl; omega) h (lv_sub hl [0, 1, 2, 3, 4, 5, 6, 7, 8, 9] rfl)
                    · have hc169 : (v125).toInt = (s2).toInt := i_eq hc169 rfl rfl
                      refine lv_iconst (v := 1) hx hb dX9_spells_106 (by decide) ?_
                      refine lv_goto (tgt := 111) hx hb dX9_spells_107 (by decide) ?_
                      refine lv_istore (lv' := [(8, .int 1), (9, .int L104), (0, .ref (ad 64)), (1, .int n), (2, .int s0), (3, .int s1), (4, .int s2), (5, .int s3), (6, .int s4), (7, .int s5)]) hx hb dX9_spells_111 hl (by decide) rfl (fun ls hl => ?_)
                      obtain ⟨z175, e176, t177⟩ := x_add (x := L104) (y := 1) (a := L104.toInt) (b := 1) rfl rfl (by omega) (by omega)
                      have n178 : z175.toNatClampNeg = L104.toNatClampNeg + 1 := cl_addn (x := L104) (y := 1) rfl rfl t177 (by omega) (by decide)
                      refine lv_iinc (v := z175) (lv' := [(9, .int z175), (8, .int 1), (0, .ref (ad 64)), (1, .int n), (2, .int s0), (3, .int s1), (4, .int s2), (5, .int s3), (6, .int s4), (7, .int s5)]) hx hb dX9_spells_113 hl (k := 1) rfl e176 (by decide) rfl (fun ls hl => ?_)
                      refine lv_goto (tgt := 26) hx hb dX9_spells_116 (by decide) ?_
                      obtain ⟨hs179a, hs179b, hs179⟩ := hi115 (by omega)
                      have hk180 := cl_of (x := L104) (by omega)
                      exact ih108  z175 (1 : Int32)  _ _ _ (by have q0 : (1 : Int32).toInt = 1 := rfl; omega) (by have q0 : (1 : Int32).toInt = 1 := rfl; omega) (by have q0 : (1 : Int32).toInt = 1 := rfl; omega) (by have q0 : (1 : Int32).toInt = 1 := rfl; omega) (by have q0 : (1 : Int32).toInt = 1 := rfl; omega) (fun _ => ⟨hs179a, hs179b, fun j hj => by by_cases q9 : (j : Int) < L104.toInt; exact hs179 j q9; (have q8 : j = L104.toNatClampNeg := by omega); (rw [q8, e126]; (repeat' split) <;> first | exact (fa_eq _ _).mpr (by omega) | (exfalso; omega))⟩) (fun h9 => by have q0 : (1 : Int32).toInt = 1 := rfl; omega)  (by have q0 : (1 : Int32).toInt = 1 := rfl; omega) h (lv_sub hl [0, 1, 2, 3, 4, 5, 6, 7, 8, 9] rfl)
                · have hc129 : (L104).toInt = 1 := i_eq hc129 rfl rfl
                  refine lv_iload_n hx hb dX9_spells_64 rfl (lv_at hl 5 rfl) ?_
                  refine lv_goto (tgt := 103) hx hb dX9_spells_65 (by decide) ?_
                  refine lv_icmp_ne (tgt := 110) hx hb dX9_spells_103 (by decide) (fun hc181 => ?_) (fun hc181 => ?_)
                  · have hc181 : ¬ (v125).toInt = (s1).toInt := i_ne hc181 rfl rfl
                    refine lv_iconst (v := 0) hx hb dX9_spells_110 (by decide) ?_
                    refine lv_istore (lv' := [(8, .int 0), (9, .int L104), (0, .ref (ad 64)), (1, .int n), (2, .int s0), (3, .int s1), (4, .int s2), (5, .int s3), (6, .int s4), (7, .int s5)]) hx hb dX9_spells_111 hl (by decide) rfl (fun ls hl => ?_)
                    obtain ⟨z182, e183, t184⟩ := x_add (x := L104) (y := 1) (a := L104.toInt) (b := 1) rfl rfl (by omega) (by omega)
                    have n185 : z182.toNatClampNeg = L104.toNatClampNeg + 1 := cl_addn (x := L104) (y := 1) rfl rfl t184 (by omega) (by decide)
                    refine lv_iinc (v := z182) (lv' := [(9, .int z182), (8, .int 0), (0, .ref (ad 64)), (1, .int n), (2, .int s0), (3, .int s1), (4, .int s2), (5, .int s3), (6, .int s4), (7, .int s5)]) hx hb dX9_spells_113 hl (k := 1) rfl e183 (by decide) rfl (fun ls hl => ?_)
                    refine lv_goto (tgt := 26) hx hb dX9_spells_116 (by decide) ?_
                    have hk186 := cl_of (x := L104) (by omega)
                    exact ih108  z182 (0 : Int32)  _ _ _ (by have q0 : (0 : Int32).toInt = 0 := rfl; omega) (by have q0 : (0 : Int32).toInt = 0 := rfl; omega) (by have q0 : (0 : Int32).toInt = 0 := rfl; omega) (by have q0 : (0 : Int32).toInt = 0 := rfl; omega) (by have q0 : (0 : Int32).toInt = 0 := rfl; omega) (fun h9 => by have q0 : (0 : Int32).toInt = 0 := rfl; omega) (fun _ q9 => by have q8 := q9.2.2 L104.toNatClampNeg (by omega); rw [e126] at q8; revert q8; (repeat' split) <;> intro q8 <;> first | (have := (fa_eq _ _).mp q8; omega) | (exfalso; omega))  (by have q0 : (0 : Int32).toInt = 0 := rfl; omega) h (lv_sub hl [0, 1, 2, 3, 4, 5, 6, 7, 8, 9] rfl)
                  · have hc181 : (v125).toInt = (s1).toInt := i_eq hc181 rfl rfl
                    refine lv_iconst (v := 1) hx hb dX9_spells_106 (by decide) ?_
                    refine lv_goto (tgt := 111) hx hb dX9_spells_107 (by decide) ?_
                    refine lv_istore (lv' := [(8, .int 1), (9, .int L104), (0, .ref (ad 64)), (1, .int n), (2, .int s0), (3, .int s1), (4, .int s2), (5, .int s3), (6, .int s4), (7, .int s5)]) hx hb dX9_spells_111 hl (by decide) rfl (fun ls hl => ?_)
                    obtain ⟨z187, e188, t189⟩ := x_add (x := L104) (y := 1) (a := L104.toInt) (b := 1) rfl rfl (by omega) (by omega)
                    have n190 : z187.toNatClampNeg = L104.toNatClampNeg + 1 := cl_addn (x := L104) (y := 1) rfl rfl t189 (by omega) (by decide)
                    refine lv_iinc (v := z187) (lv' := [(9, .int z187), (8, .int 1), (0, .ref (ad 64)), (1, .int n), (2, .int s0), (3, .int s1), (4, .int s2), (5, .int s3), (6, .int s4), (7, .int s5)]) hx hb dX9_spells_113 hl (k := 1) rfl e188 (by decide) rfl (fun ls hl => ?_)
                    refine lv_goto (tgt := 26) hx hb dX9_spells_116 (by decide) ?_
                    obtain ⟨hs191a, hs191b, hs191⟩ := hi115 (by omega)
                    have hk192 := cl_of (x := L104) (by omega)
                    exact ih108  z187 (1 : Int32)  _ _ _ (by have q0 : (1 : Int32).toInt = 1 := rfl; omega) (by have q0 : (1 : Int32).toInt = 1 := rfl; omega) (by have q0 : (1 : Int32).toInt = 1 := rfl; omega) (by have q0 : (1 : Int32).toInt = 1 := rfl; omega) (by have q0 : (1 : Int32).toInt = 1 := rfl; omega) (fun _ => ⟨hs191a, hs191b, fun j hj => by by_cases q9 : (j : Int) < L104.toInt; exact hs191 j q9; (have q8 : j = L104.toNatClampNeg := by omega); (rw [q8, e126]; (repeat' split) <;> first | exact (fa_eq _ _).mpr (by omega) | (exfalso; omega))⟩) (fun h9 => by have q0 : (1 : Int32).toInt = 1 := rfl; omega)  (by have q0 : (1 : Int32).toInt = 1 := rfl; omega) h (lv_sub hl [0, 1, 2, 3, 4, 5, 6, 7, 8, 9] rfl)
              · have hc128 : (L104).toInt = 0 := i_eq hc128 rfl rfl
                refine lv_iload_n hx hb dX9_spells_54 rfl (lv_at hl 4 rfl) ?_
                refine lv_goto (tgt := 103) hx hb dX9_spells_55 (by decide) ?_
                refine lv_icmp_ne (tgt := 110) hx hb dX9_spells_103 (by decide) (fun hc193 => ?_) (fun hc193 => ?_)
                · have hc193 : ¬ (v125).toInt = (s0).toInt := i_ne hc193 rfl rfl
                  refine lv_iconst (v := 0) hx hb dX9_spells_110 (by decide) ?_
                  refine lv_istore (lv' := [(8, .int 0), (9, .int L104), (0, .ref (ad 64)), (1, .int n), (2, .int s0), (3, .int s1), (4, .int s2), (5, .int s3), (6, .int s4), (7, .int s5)]) hx hb dX9_spells_111 hl (by decide) rfl (fun ls hl => ?_)
                  obtain ⟨z194, e195, t196⟩ := x_add (x := L104) (y := 1) (a := L104.toInt) (b := 1) rfl rfl (by omega) (by omega)
                  have n197 : z194.toNatClampNeg = L104.toNatClampNeg + 1 := cl_addn (x := L104) (y := 1) rfl rfl t196 (by omega) (by decide)
                  refine lv_iinc (v := z194) (lv' := [(9, .int z194), (8, .int 0), (0, .ref (ad 64)), (1, .int n), (2, .int s0), (3, .int s1), (4, .int s2), (5, .int s3), (6, .int s4), (7, .int s5)]) hx hb dX9_spells_113 hl (k := 1) rfl e195 (by decide) rfl (fun ls hl => ?_)
                  refine lv_goto (tgt := 26) hx hb dX9_spells_116 (by decide) ?_
                  have hk198 := cl_of (x := L104) (by omega)
                  exact ih108  z194 (0 : Int32)  _ _ _ (by have q0 : (0 : Int32).toInt = 0 := rfl; omega) (by have q0 : (0 : Int32).toInt = 0 := rfl; omega) (by have q0 : (0 : Int32).toInt = 0 := rfl; omega) (by have q0 : (0 : Int32).toInt = 0 := rfl; omega) (by have q0 : (0 : Int32).toInt = 0 := rfl; omega) (fun h9 => by have q0 : (0 : Int32).toInt = 0 := rfl; omega) (fun _ q9 => by have q8 := q9.2.2 L104.toNatClampNeg (by omega); rw [e126] at q8; revert q8; (repeat' split) <;> intro q8 <;> first | (have := (fa_eq _ _).mp q8; omega) | (exfalso; omega))  (by have q0 : (0 : Int32).toInt = 0 := rfl; omega) h (lv_sub hl [0, 1, 2, 3, 4, 5, 6, 7, 8, 9] rfl)
                · have hc193 : (v125).toInt = (s0).toInt := i_eq hc193 rfl rfl
                  refine lv_iconst (v := 1) hx hb dX9_spells_106 (by decide) ?_
                  refine lv_goto (tgt := 111) hx hb dX9_spells_107 (by decide) ?_
                  refine lv_istore (lv' := [(8, .int 1), (9, .int L104), (0, .ref (ad 64)), (1, .int n), (2, .int s0), (3, .int s1), (4, .int s2), (5, .int s3), (6, .int s4), (7, .int s5)]) hx hb dX9_spells_111 hl (by decide) rfl (fun ls hl => ?_)
                  obtain ⟨z199, e200, t201⟩ := x_add (x := L104) (y := 1) (a := L104.toInt) (b := 1) rfl rfl (by omega) (by omega)
                  have n202 : z199.toNatClampNeg = L104.toNatClampNeg + 1 := cl_addn (x := L104) (y := 1) rfl rfl t201 (by omega) (by decide)
                  refine lv_iinc (v := z199) (lv' := [(9, .int z199), (8, .int 1), (0, .ref (ad 64)), (1, .int n), (2, .int s0), (3, .int s1), (4, .int s2), (5, .int s3), (6, .int s4), (7, .int s5)]) hx hb dX9_spells_113 hl (k := 1) rfl e200 (by decide) rfl (fun ls hl => ?_)
                  refine lv_goto (tgt := 26) hx hb dX9_spells_116 (by decide) ?_
                  obtain ⟨hs203a, hs203b, hs203⟩ := hi115 (by omega)
                  have hk204 := cl_of (x := L104) (by omega)
                  exact ih108  z199 (1 : Int32)  _ _ _ (by have q0 : (1 : Int32).toInt = 1 := rfl; omega) (by have q0 : (1 : Int32).toInt = 1 := rfl; omega) (by have q0 : (1 : Int32).toInt = 1 := rfl; omega) (by have q0 : (1 : Int32).toInt = 1 := rfl; omega) (by have q0 : (1 : Int32).toInt = 1 := rfl; omega) (fun _ => ⟨hs203a, hs203b, fun j hj => by by_cases q9 : (j : Int) < L104.toInt; exact hs203 j q9; (have q8 : j = L104.toNatClampNeg := by omega); (rw [q8, e126]; (repeat' split) <;> first | exact (fa_eq _ _).mpr (by omega) | (exfalso; omega))⟩) (fun h9 => by have q0 : (1 : Int32).toInt = 1 := rfl; omega)  (by have q0 : (1 : Int32).toInt = 1 := rfl; omega) h (lv_sub hl [0, 1, 2, 3, 4, 5, 6, 7, 8, 9] rfl)
      exact hloop106 7 (0 : Int32) (0 : Int32)  _ _ _ (by have q0 : (0 : Int32).toInt = 0 := rfl; omega) (by have q0 : (0 : Int32).toInt = 0 := rfl; omega) (by have q0 : (0 : Int32).toInt = 0 := rfl; omega) (by have q0 : (0 : Int32).toInt = 0 := rfl; omega) (by have q0 : (0 : Int32).toInt = 0 := rfl; omega) (fun h9 => by have q0 : (0 : Int32).toInt = 0 := rfl; omega) (fun _ q9 => by have q8 := q9.1; have q7 := q9.2.1; omega)  (by have q0 : (0 : Int32).toInt = 0 := rfl; omega) h (lv_sub hl [0, 1, 2, 3, 4, 5, 6, 7, 8, 9] rfl)
    · have hc103 : (tl).toInt = (n).toInt := i_eq hc103 rfl rfl
      refine lv_iconst (v := 1) hx hb dX9_spells_16 (by decide) ?_
      refine lv_goto (tgt := 21) hx hb dX9_spells_17 (by decide) ?_
      refine lv_istore (lv' := [(8, .int 1), (0, .ref (ad 64)), (1, .int n), (2, .int s0), (3, .int s1), (4, .int s2), (5, .int s3), (6, .int s4), (7, .int s5)]) hx hb dX9_spells_21 hl (by decide) rfl (fun ls hl => ?_)
      refine lv_iconst (v := 0) hx hb dX9_spells_23 (by decide) ?_
      refine lv_istore (lv' := [(9, .int 0), (8, .int 1), (0, .ref (ad 64)), (1, .int n), (2, .int s0), (3, .int s1), (4, .int s2), (5, .int s3), (6, .int s4), (7, .int s5)]) hx hb dX9_spells_24 hl (by decide) rfl (fun ls hl => ?_)
      have hloop207 : ∀ (d208 : Nat) (L205 : Int32) (L206 : Int32) (H : Heap) (locs : List Loc) (ls : Array Slot), 0 ≤ L206.toInt → L206.toInt ≤ 1 → 0 ≤ L205.toInt → L205.toInt ≤ 6 → (L206.toInt = 0 ∨ L205.toInt ≤ n.toInt) → (L206.toInt = 1 → (tk.toInt = 1 ∧ tl.toInt = n.toInt ∧ ∀ j : Nat, (j : Int) < L205.toInt → bs (ta.toNatClampNeg + j) = (if j = 0 then s0 else if j = 1 then s1 else if j = 2 then s2 else if j = 3 then s3 else if j = 4 then s4 else s5))) → (L206.toInt = 0 → ¬ (tk.toInt = 1 ∧ tl.toInt = n.toInt ∧ ∀ j : Nat, (j : Int) < n.toInt → bs (ta.toNatClampNeg + j) = (if j = 0 then s0 else if j = 1 then s1 else if j = 2 then s2 else if j = 3 then s3 else if j = 4 then s4 else s5))) → 6 - L205.toInt < (d208 : Int) → St G 74 ad (wA 74 ad s.heap.size) s.heap w H locs → lv_has ls 10 [(9, .int L205), (8, .int L206), (0, .ref (ad 64)), (1, .int n), (2, .int s0), (3, .int s1), (4, .int s2), (5, .int s3), (6, .int s4), (7, .int s5)] → W p l e { frames := 0, cells := 0, slots := 0, locals := 0 } s m [.ref (ad 64), .int n, .int s0, .int s1, .int s2, .int s3, .int s4, .int s5].toArray below meth c H locs 0 0 (MQ below (va_Qi (fun r w1 => w = w1 ∧ (((tk.toInt = 1 ∧ tl.toInt = n.toInt ∧ ∀ j : Nat, (j : Int) < n.toInt → bs (ta.toNatClampNeg + j) = (if j = 0 then s0 else if j = 1 then s1 else if j = 2 then s2 else if j = 3 then s3 else if j = 4 then s4 else s5)) ∧ r = 1) ∨ (¬ (tk.toInt = 1 ∧ tl.toInt = n.toInt ∧ ∀ j : Nat, (j : Int) < n.toInt → bs (ta.toNatClampNeg + j) = (if j = 0 then s0 else if j = 1 then s1 else if j = 2 then s2 else if j = 3 then s3 else if j = 4 then s4 else s5)) ∧ r = 0))) (Aft G 74 ad) (wA 74 ad s.heap.size)) [.ref (ad 64), .int n, .int s0, .int s1, .int s2, .int s3, .int s4, .int s5].toArray s 0 0 (wA 74 ad s.heap.size)) (F0 m 26 ls []) := by
        intro d208
        induction d208 with
        | zero => intro L205 L206 H locs ls hi211 hi212 hi213 hi214 hi215 hi216 hi217 hm210 h hl; exfalso; omega
        | succ d208 ih209 =>
          intro L205 L206 H locs ls hi211 hi212 hi213 hi214 hi215 hi216 hi217 hm210 h hl
          refine lv_iload hx hb dX9_spells_26 (lv_at hl 0 rfl) ?_
          refine lv_iload_n hx hb dX9_spells_28 rfl (lv_at hl 3 rfl) ?_
          refine lv_icmp_ge (tgt := 119) hx hb dX9_spells_29 (by decide) (fun hc220 => ?_) (fun hc220 => ?_)
          · have hc220 : (n).toInt ≤ (L205).toInt := i_le hc220 rfl rfl
            refine lv_iload hx hb dX9_spells_119 (lv_at hl 1 rfl) ?_
            exact e_n X h hr hlk (nbool (by omega) (by omega)) dX9_spells_121 ⟨rfl, (by rcases b01 (r := L206) (by omega) (by omega) with q9 | q9; (have q7 := congrArg Int32.toInt q9; have q8 := hi216 (by rw [q9]; rfl); exact Or.inl ⟨⟨q8.1, q8.2.1, fun j hj => q8.2.2 j (by omega)⟩, q9⟩); exact Or.inr ⟨hi217 (by rw [q9]; rfl), q9⟩)⟩
          · have hc220 : ¬ (n).toInt ≤ (L205).toInt := i_nle hc220 rfl rfl
            refine lv_iload hx hb dX9_spells_32 (lv_at hl 1 rfl) ?_
            refine lv_if_eq (tgt := 119) hx hb dX9_spells_34 (by decide) (fun hc221 => ?_) (fun hc221 => ?_)
            · have hc221 : (L206).toInt = 0 := i_eq hc221 rfl rfl
              refine lv_iload hx hb dX9_spells_119 (lv_at hl 1 rfl) ?_
              exact e_n X h hr hlk (nbool (by omega) (by omega)) dX9_spells_121 ⟨rfl, (by rcases b01 (r := L206) (by omega) (by omega) with q9 | q9; (have q7 := congrArg Int32.toInt q9; have q8 := hi216 (by rw [q9]; rfl); exact Or.inl ⟨⟨q8.1, q8.2.1, fun j hj => q8.2.2 j (by omega)⟩, q9⟩); exact Or.inr ⟨hi217 (by rw [q9]; rfl), q9⟩)⟩
            · have hc221 : ¬ (L206).toInt = 0 := i_ne hc221 rfl rfl
              refine lv_aload_n hx hb dX9_spells_37 rfl (lv_at hl 2 rfl) ?_
              refine r_get kc9 X h 64 9 (by decide) rfl pf (by decide) kv_667 rfl dX9_spells_38 ?_
              refine lv_aload_n hx hb dX9_spells_41 rfl (lv_at hl 2 rfl) ?_
              refine r_get kc9 X h 64 11 (by decide) rfl pf (by decide) kv_663 rfl dX9_spells_42 ?_
              refine lv_iload hx hb dX9_spells_45 (lv_at hl 0 rfl) ?_
              obtain ⟨z224, e222, t223⟩ := x_add (x := ta) (y := L205) (a := (ta).toInt) (b := (L205).toInt) rfl rfl (by omega) (by omega)
              have n225 : z224.toNatClampNeg = ta.toNatClampNeg + L205.toNatClampNeg := cl_addn (x := ta) (y := L205) rfl rfl t223 (by omega) (by omega)
              refine o_iadd (z := z224) hx hb dX9_spells_47 e222 ?_
              obtain ⟨v226, e227⟩ : ∃ z : Int32, bs (ta.toNatClampNeg + L205.toNatClampNeg) = z := ⟨_, rfl⟩
              refine o_iald (v := v226) X h 71 0 (by decide) rfl p71 rfl (in_of (by omega) (by omega)) (by rw [n225]; exact e227) dX9_spells_48 ?_
              refine lv_iload hx hb dX9_spells_49 (lv_at hl 0 rfl) ?_
              refine lv_if_ne (tgt := 58) hx hb dX9_spells_51 (by decide) (fun hc229 => ?_) (fun hc229 => ?_)
              · have hc229 : ¬ (L205).toInt = 0 := i_ne hc229 rfl rfl
                refine lv_iload hx hb dX9_spells_58 (lv_at hl 0 rfl) ?_
                refine lv_iconst (v := 1) hx hb dX9_spells_60 (by decide) ?_
                refine lv_icmp_ne (tgt := 68) hx hb dX9_spells_61 (by decide) (fun hc230 => ?_) (fun hc230 => ?_)
                · have hc230 : ¬ (L205).toInt = 1 := i_ne hc230 rfl rfl
                  refine lv_iload hx hb dX9_spells_68 (lv_at hl 0 rfl) ?_
                  refine lv_iconst (v := 2) hx hb dX9_spells_70 (by decide) ?_
                  refine lv_icmp_ne (tgt := 79) hx hb dX9_spells_71 (by decide) (fun hc231 => ?_) (fun hc231 => ?_)
                  · have hc231 : ¬ (L205).toInt = 2 := i_ne hc231 rfl rfl
                    refine lv_iload hx hb dX9_spells_79 (lv_at hl 0 rfl) ?_
                    refine lv_iconst (v := 3) hx hb dX9_spells_81 (by decide) ?_
                    refine lv_icmp_ne (tgt := 90) hx hb dX9_spells_82 (by decide) (fun hc232 => ?_) (fun hc232 => ?_)
                    · have hc232 : ¬ (L205).toInt = 3 := i_ne hc232 rfl rfl
                      refine lv_iload hx hb dX9_spells_90 (lv_at hl 0 rfl) ?_
                      refine lv_iconst (v := 4) hx hb dX9_spells_92 (by decide) ?_
                      refine lv_icmp_ne (tgt := 101) hx hb dX9_spells_93 (by decide) (fun hc233 => ?_) (fun hc233 => ?_)
                      · have hc233 : ¬ (L205).toInt = 4 := i_ne hc233 rfl rfl
                        refine lv_iload hx hb dX9_spells_101 (lv_at hl 9 rfl) ?_
                        refine lv_icmp_ne (tgt := 110) hx hb dX9_spells_103 (by decide) (fun hc234 => ?_) (fun hc234 => ?_)
                        · have hc234 : ¬ (v226).toInt = (s5).toInt := i_ne hc234 rfl rfl
                          refine lv_iconst (v := 0) hx hb dX9_spells_110 (by decide) ?_
                          refine lv_istore (lv' := [(8, .int 0), (9, .int L205), (0, .ref (ad 64)), (1, .int n), (2, .int s0), (3, .int s1), (4, .int s2), (5, .int s3), (6, .int s4), (7, .int s5)]) hx hb dX9_spells_111 hl (by decide) rfl (fun ls hl => ?_)
                          obtain ⟨z235, e236, t237⟩ := x_add (x := L205) (y := 1) (a := L205.toInt) (b := 1) rfl rfl (by omega) (by omega)
                          have n238 : z235.toNatClampNeg = L205.toNatClampNeg + 1 := cl_addn (x := L205) (y := 1) rfl rfl t237 (by omega) (by decide)
                          refine lv_iinc (v := z235) (lv' := [(9, .int z235), (8, .int 0), (0, .ref (ad 64)), (1, .int n), (2, .int s0), (3, .int s1), (4, .int s2), (5, .int s3), (6, .int s4), (7, .int s5)]) hx hb dX9_spells_113 hl (k := 1) rfl e236 (by decide) rfl (fun ls hl => ?_)
                          refine lv_goto (tgt := 26) hx hb dX9_spells_116 (by decide) ?_
                          have hk239 := cl_of (x := L205) (by omega)
                          exact ih209  z235 (0 : Int32)  _ _ _ (by have q0 : (0 : Int32).toInt = 0 := rfl; omega) (by have q0 : (0 : Int32).toInt = 0 := rfl; omega) (by have q0 : (0 : Int32).toInt = 0 := rfl; omega) (by have q0 : (0 : Int32).toInt = 0 := rfl; omega) (by have q0 : (0 : Int32).toInt = 0 := rfl; omega) (fun h9 => by have q0 : (0 : Int32).toInt = 0 := rfl; omega) (fun _ q9 => by have q8 := q9.2.2 L205.toNatClampNeg (by omega); rw [e227] at q8; revert q8; (repeat' split) <;> intro q8 <;> first | (have := (fa_eq _ _).mp q8; omega) | (exfalso; omega))  (by have q0 : (0 : Int32).toInt = 0 := rfl; omega) h (lv_sub hl [0, 1, 2, 3, 4, 5, 6, 7, 8, 9] rfl)
                        · have hc234 : (v226).toInt = (s5).toInt := i_eq hc234 rfl rfl
                          refine lv_iconst (v := 1) hx hb dX9_spells_106 (by decide) ?_
                          refine lv_goto (tgt := 111) hx hb dX9_spells_107 (by decide) ?_
                          refine lv_istore (lv' := [(8, .int 1), (9, .int L205), (0, .ref (ad 64)), (1, .int n), (2, .int s0), (3, .int s1), (4, .int s2), (5, .int s3), (6, .int s4), (7, .int s5)]) hx hb dX9_spells_111 hl (by decide) rfl (fun ls hl => ?_)
                          obtain ⟨z240, e241, t242⟩ := x_add (x := L205) (y := 1) (a := L205.toInt) (b := 1) rfl rfl (by omega) (by omega)
                          have n243 : z240.toNatClampNeg = L205.toNatClampNeg + 1 := cl_addn (x := L205) (y := 1) rfl rfl t242 (by omega) (by decide)
                          refine lv_iinc (v := z240) (lv' := [(9, .int z240), (8, .int 1), (0, .ref (ad 64)), (1, .int n), (2, .int s0), (3, .int s1), (4, .int s2), (5, .int s3), (6, .int s4), (7, .int s5)]) hx hb dX9_spells_113 hl (k := 1) rfl e241 (by decide) rfl (fun ls hl => ?_)
                          refine lv_goto (tgt := 26) hx hb dX9_spells_116 (by decide) ?_
                          obtain ⟨hs244a, hs244b, hs244⟩ := hi216 (by omega)
                          have hk245 := cl_of (x := L205) (by omega)
                          exact ih209  z240 (1 : Int32)  _ _ _ (by have q0 : (1 : Int32).toInt = 1 := rfl; omega) (by have q0 : (1 : Int32).toInt = 1 := rfl; omega) (by have q0 : (1 : Int32).toInt = 1 := rfl; omega) (by have q0 : (1 : Int32).toInt = 1 := rfl; omega) (by have q0 : (1 : Int32).toInt = 1 := rfl; omega) (fun _ => ⟨hs244a, hs244b, fun j hj => by by_cases q9 : (j : Int) < L205.toInt; exact hs244 j q9; (have q8 : j = L205.toNatClampNeg := by omega); (rw [q8, e227]; (repeat' split) <;> first | exact (fa_eq _ _).mpr (by omega) | (exfalso; omega))⟩) (fun h9 => by have q0 : (1 : Int32).toInt = 1 := rfl; omega)  (by have q0 : (1 : Int32).toInt = 1 := rfl; omega) h (lv_sub hl [0, 1, 2, 3, 4, 5, 6, 7, 8, 9] rfl)
                      · have hc233 : (L205).toInt = 4 := i_eq hc233 rfl rfl
                        refine lv_iload hx hb dX9_spells_96 (lv_at hl 8 rfl) ?_
                        refine lv_goto (tgt := 103) hx hb dX9_spells_98 (by decide) ?_
                        refine lv_icmp_ne (tgt := 110) hx hb dX9_spells_103 (by decide) (fun hc246 => ?_) (fun hc246 => ?_)
                        · have hc246 : ¬ (v226).toInt = (s4).toInt := i_ne hc246 rfl rfl
                          refine lv_iconst (v := 0) hx hb dX9_spells_110 (by decide) ?_
                          refine lv_istore (lv' := [(8, .int 0), (9, .int L205), (0, .ref (ad 64)), (1, .int n), (2, .int s0), (3, .int s1), (4, .int s2), (5, .int s3), (6, .int s4), (7, .int s5)]) hx hb dX9_spells_111 hl (by decide) rfl (fun ls hl => ?_)
                          obtain ⟨z247, e248, t249⟩ := x_add (x := L205) (y := 1) (a := L205.toInt) (b := 1) rfl rfl (by omega) (by omega)
                          have n250 : z247.toNatClampNeg = L205.toNatClampNeg + 1 := cl_addn (x := L205) (y := 1) rfl rfl t249 (by omega) (by decide)
                          refine lv_iinc (v := z247) (lv' := [(9, .int z247), (8, .int 0), (0, .ref (ad 64)), (1, .int n), (2, .int s0), (3, .int s1), (4, .int s2), (5, .int s3), (6, .int s4), (7, .int s5)]) hx hb dX9_spells_113 hl (k := 1) rfl e248 (by decide) rfl (fun ls hl => ?_)
                          refine lv_goto (tgt := 26) hx hb dX9_spells_116 (by decide) ?_
                          have hk251 := cl_of (x := L205) (by omega)
                          exact ih209  z247 (0 : Int32)  _ _ _ (by have q0 : (0 : Int32).toInt = 0 := rfl; omega) (by have q0 : (0 : Int32).toInt = 0 := rfl; omega) (by have q0 : (0 : Int32).toInt = 0 := rfl; omega) (by have q0 : (0 : Int32).toInt = 0 := rfl; omega) (by have q0 : (0 : Int32).toInt = 0 := rfl; omega) (fun h9 => by have q0 : (0 : Int32).toInt = 0 := rfl; omega) (fun _ q9 => by have q8 := q9.2.2 L205.toNatClampNeg (by omega); rw [e227] at q8; revert q8; (repeat' split) <;> intro q8 <;> first | (have := (fa_eq _ _).mp q8; omega) | (exfalso; omega))  (by have q0 : (0 : Int32).toInt = 0 := rfl; omega) h (lv_sub hl [0, 1, 2, 3, 4, 5, 6, 7, 8, 9] rfl)
                        · have hc246 : (v226).toInt = (s4).toInt := i_eq hc246 rfl rfl
                          refine lv_iconst (v := 1) hx hb dX9_spells_106 (by decide) ?_
                          refine lv_goto (tgt := 111) hx hb dX9_spells_107 (by decide) ?_
                          refine lv_istore (lv' := [(8, .int 1), (9, .int L205), (0, .ref (ad 64)), (1, .int n), (2, .int s0), (3, .int s1), (4, .int s2), (5, .int s3), (6, .int s4), (7, .int s5)]) hx hb dX9_spells_111 hl (by decide) rfl (fun ls hl => ?_)
                          obtain ⟨z252, e253, t254⟩ := x_add (x := L205) (y := 1) (a := L205.toInt) (b := 1) rfl rfl (by omega) (by omega)
                          have n255 : z252.toNatClampNeg = L205.toNatClampNeg + 1 := cl_addn (x := L205) (y := 1) rfl rfl t254 (by omega) (by decide)
                          refine lv_iinc (v := z252) (lv' := [(9, .int z252), (8, .int 1), (0, .ref (ad 64)), (1, .int n), (2, .int s0), (3, .int s1), (4, .int s2), (5, .int s3), (6, .int s4), (7, .int s5)]) hx hb dX9_spells_113 hl (k := 1) rfl e253 (by decide) rfl (fun ls hl => ?_)
                          refine lv_goto (tgt := 26) hx hb dX9_spells_116 (by decide) ?_
                          obtain ⟨hs256a, hs256b, hs256⟩ := hi216 (by omega)
                          have hk257 := cl_of (x := L205) (by omega)
                          exact ih209  z252 (1 : Int32)  _ _ _ (by have q0 : (1 : Int32).toInt = 1 := rfl; omega) (by have q0 : (1 : Int32).toInt = 1 := rfl; omega) (by have q0 : (1 : Int32).toInt = 1 := rfl; omega) (by have q0 : (1 : Int32).toInt = 1 := rfl; omega) (by have q0 : (1 : Int32).toInt = 1 := rfl; omega) (fun _ => ⟨hs256a, hs256b, fun j hj => by by_cases q9 : (j : Int) < L205.toInt; exact hs256 j q9; (have q8 : j = L205.toNatClampNeg := by omega); (rw [q8, e227]; (repeat' split) <;> first | exact (fa_eq _ _).mpr (by omega) | (exfalso; omega))⟩) (fun h9 => by have q0 : (1 : Int32).toInt = 1 := rfl; omega)  (by have q0 : (1 : Int32).toInt = 1 := rfl; omega) h (lv_sub hl [0, 1, 2, 3, 4, 5, 6, 7, 8, 9] rfl)
                    · have hc232 : (L205).toInt = 3 := i_eq hc232 rfl rfl
                      refine lv_iload hx hb dX9_spells_85 (lv_at hl 7 rfl) ?_
                      refine lv_goto (tgt := 103) hx hb dX9_spells_87 (by decide) ?_
                      refine lv_icmp_ne (tgt := 110) hx hb dX9_spells_103 (by decide) (fun hc258 => ?_) (fun hc258 => ?_)
                      · have hc258 : ¬ (v226).toInt = (s3).toInt := i_ne hc258 rfl rfl
                        refine lv_iconst (v := 0) hx hb dX9_spells_110 (by decide) ?_
                        refine lv_istore (lv' := [(8, .int 0), (9, .int L205), (0, .ref (ad 64)), (1, .int n), (2, .int s0), (3, .int s1), (4, .int s2), (5, .int s3), (6, .int s4), (7, .int s5)]) hx hb dX9_spells_111 hl (by decide) rfl (fun ls hl => ?_)
                        obtain ⟨z259, e260, t261⟩ := x_add (x := L205) (y := 1) (a := L205.toInt) (b := 1) rfl rfl (by omega) (by omega)
                        have n262 : z259.toNatClampNeg = L205.toNatClampNeg + 1 := cl_addn (x := L205) (y := 1) rfl rfl t261 (by omega) (by decide)
                        refine lv_iinc (v := z259) (lv' := [(9, .int z259), (8, .int 0), (0, .ref (ad 64)), (1, .int n), (2, .int s0), (3, .int s1), (4, .int s2), (5, .int s3), (6, .int s4), (7, .int s5)]) hx hb dX9_spells_113 hl (k := 1) rfl e260 (by decide) rfl (fun ls hl => ?_)
                        refine lv_goto (tgt := 26) hx hb dX9_spells_116 (by decide) ?_
                        have hk263 := cl_of (x := L205) (by omega)
                        exact ih209  z259 (0 : Int32)  _ _ _ (by have q0 : (0 : Int32).toInt = 0 := rfl; omega) (by have q0 : (0 : Int32).toInt = 0 := rfl; omega) (by have q0 : (0 : Int32).toInt = 0 := rfl; omega) (by have q0 : (0 : Int32).toInt = 0 := rfl; omega) (by have q0 : (0 : Int32).toInt = 0 := rfl; omega) (fun h9 => by have q0 : (0 : Int32).toInt = 0 := rfl; omega) (fun _ q9 => by have q8 := q9.2.2 L205.toNatClampNeg (by omega); rw [e227] at q8; revert q8; (repeat' split) <;> intro q8 <;> first | (have := (fa_eq _ _).mp q8; omega) | (exfalso; omega))  (by have q0 : (0 : Int32).toInt = 0 := rfl; omega) h (lv_sub hl [0, 1, 2, 3, 4, 5, 6, 7, 8, 9] rfl)
                      · have hc258 : (v226).toInt = (s3).toInt := i_eq hc258 rfl rfl
                        refine lv_iconst (v := 1) hx hb dX9_spells_106 (by decide) ?_
                        refine lv_goto (tgt := 111) hx hb dX9_spells_107 (by decide) ?_
                        refine lv_istore (lv' := [(8, .int 1), (9, .int L205), (0, .ref (ad 64)), (1, .int n), (2, .int s0), (3, .int s1), (4, .int s2), (5, .int s3), (6, .int s4), (7, .int s5)]) hx hb dX9_spells_111 hl (by decide) rfl (fun ls hl => ?_)
                        obtain ⟨z264, e265, t266⟩ := x_add (x := L205) (y := 1) (a := L205.toInt) (b := 1) rfl rfl (by omega) (by omega)
                        have n267 : z264.toNatClampNeg = L205.toNatClampNeg + 1 := cl_addn (x := L205) (y := 1) rfl rfl t266 (by omega) (by decide)
                        refine lv_iinc (v := z264) (lv' := [(9, .int z264), (8, .int 1), (0, .ref (ad 64)), (1, .int n), (2, .int s0), (3, .int s1), (4, .int s2), (5, .int s3), (6, .int s4), (7, .int s5)]) hx hb dX9_spells_113 hl (k := 1) rfl e265 (by decide) rfl (fun ls hl => ?_)
                        refine lv_goto (tgt := 26) hx hb dX9_spells_116 (by decide) ?_
                        obtain ⟨hs268a, hs268b, hs268⟩ := hi216 (by omega)
                        have hk269 := cl_of (x := L205) (by omega)
                        exact ih209  z264 (1 : Int32)  _ _ _ (by have q0 : (1 : Int32).toInt = 1 := rfl; omega) (by have q0 : (1 : Int32).toInt = 1 := rfl; omega) (by have q0 : (1 : Int32).toInt = 1 := rfl; omega) (by have q0 : (1 : Int32).toInt = 1 := rfl; omega) (by have q0 : (1 : Int32).toInt = 1 := rfl; omega) (fun _ => ⟨hs268a, hs268b, fun j hj => by by_cases q9 : (j : Int) < L205.toInt; exact hs268 j q9; (have q8 : j = L205.toNatClampNeg := by omega); (rw [q8, e227]; (repeat' split) <;> first | exact (fa_eq _ _).mpr (by omega) | (exfalso; omega))⟩) (fun h9 => by have q0 : (1 : Int32).toInt = 1 := rfl; omega)  (by have q0 : (1 : Int32).toInt = 1 := rfl; omega) h (lv_sub hl [0, 1, 2, 3, 4, 5, 6, 7, 8, 9] rfl)
                  · have hc231 : (L205).toInt = 2 := i_eq hc231 rfl rfl
                    refine lv_iload hx hb dX9_spells_74 (lv_at hl 6 rfl) ?_
                    refine lv_goto (tgt := 103) hx hb dX9_spells_76 (by decide) ?_
                    refine lv_icmp_ne (tgt := 110) hx hb dX9_spells_103 (by decide) (fun hc270 => ?_) (fun hc270 => ?_)
                    · have hc270 : ¬ (v226).toInt = (s2).toInt := i_ne hc270 rfl rfl
                      refine lv_iconst (v := 0) hx hb dX9_spells_110 (by decide) ?_
                      refine lv_istore (lv' := [(8, .int 0), (9, .int L205), (0, .ref (ad 64)), (1, .int n), (2, .int s0), (3, .int s1), (4, .int s2), (5, .int s3), (6, .int s4), (7, .int s5)]) hx hb dX9_spells_111 hl (by decide) rfl (fun ls hl => ?_)
                      obtain ⟨z271, e272, t273⟩ := x_add (x := L205) (y := 1) (a := L205.toInt) (b := 1) rfl rfl (by omega) (by omega)
                      have n274 : z271.toNatClampNeg = L205.toNatClampNeg + 1 := cl_addn (x := L205) (y := 1) rfl rfl t273 (by omega) (by decide)
                      refine lv_iinc (v := z271) (lv' := [(9, .int z271), (8, .int 0), (0, .ref (ad 64)), (1, .int n), (2, .int s0), (3, .int s1), (4, .int s2), (5, .int s3), (6, .int s4), (7, .int s5)]) hx hb dX9_spells_113 hl (k := 1) rfl e272 (by decide) rfl (fun ls hl => ?_)
                      refine lv_goto (tgt := 26) hx hb dX9_spells_116 (by decide) ?_
                      have hk275 := cl_of (x := L205) (by omega)
                      exact ih209  z271 (0 : Int32)  _ _ _ (by have q0 : (0 : Int32).toInt = 0 := rfl; omega) (by have q0 : (0 : Int32).toInt = 0 := rfl; omega) (by have q0 : (0 : Int32).toInt = 0 := rfl; omega) (by have q0 : (0 : Int32).toInt = 0 := rfl; omega) (by have q0 : (0 : Int32).toInt = 0 := rfl; omega) (fun h9 => by have q0 : (0 : Int32).toInt = 0 := rfl; omega) (fun _ q9 => by have q8 := q9.2.2 L205.toNatClampNeg (by omega); rw [e227] at q8; revert q8; (repeat' split) <;> intro q8 <;> first | (have := (fa_eq _ _).mp q8; omega) | (exfalso; omega))  (by have q0 : (0 : Int32).toInt = 0 := rfl; omega) h (lv_sub hl [0, 1, 2, 3, 4, 5, 6, 7, 8, 9] rfl)
                    · have hc270 : (v226).toInt = (s2).toInt := i_eq hc270 rfl rfl
                      refine lv_iconst (v := 1) hx hb dX9_spells_106 (by decide) ?_
                      refine lv_goto (tgt := 111) hx hb dX9_spells_107 (by decide) ?_
                      refine lv_istore (lv' := [(8, .int 1), (9, .int L205), (0, .ref (ad 64)), (1, .int n), (2, .int s0), (3, .int s1), (4, .int s2), (5, .int s3), (6, .int s4), (7, .int s5)]) hx hb dX9_spells_111 hl (by decide) rfl (fun ls hl => ?_)
                      obtain ⟨z276, e277, t278⟩ := x_add (x := L205) (y := 1) (a := L205.toInt) (b := 1) rfl rfl (by omega) (by omega)
                      have n279 : z276.toNatClampNeg = L205.toNatClampNeg + 1 := cl_addn (x := L205) (y := 1) rfl rfl t278 (by omega) (by decide)
                      refine lv_iinc (v := z276) (lv' := [(9, .int z276), (8, .int 1), (0, .ref (ad 64)), (1, .int n), (2, .int s0), (3, .int s1), (4, .int s2), (5, .int s3), (6, .int s4), (7, .int s5)]) hx hb dX9_spells_113 hl (k := 1) rfl e277 (by decide) rfl (fun ls hl => ?_)
                      refine lv_goto (tgt := 26) hx hb dX9_spells_116 (by decide) ?_
                      obtain ⟨hs280a, hs280b, hs280⟩ := hi216 (by omega)
                      have hk281 := cl_of (x := L205) (by omega)
                      exact ih209  z276 (1 : Int32)  _ _ _ (by have q0 : (1 : Int32).toInt = 1 := rfl; omega) (by have q0 : (1 : Int32).toInt = 1 := rfl; omega) (by have q0 : (1 : Int32).toInt = 1 := rfl; omega) (by have q0 : (1 : Int32).toInt = 1 := rfl; omega) (by have q0 : (1 : Int32).toInt = 1 := rfl; omega) (fun _ => ⟨hs280a, hs280b, fun j hj => by by_cases q9 : (j : Int) < L205.toInt; exact hs280 j q9; (have q8 : j = L205.toNatClampNeg := by omega); (rw [q8, e227]; (repeat' split) <;> first | exact (fa_eq _ _).mpr (by omega) | (exfalso; omega))⟩) (fun h9 => by have q0 : (1 : Int32).toInt = 1 := rfl; omega)  (by have q0 : (1 : Int32).toInt = 1 := rfl; omega) h (lv_sub hl [0, 1, 2, 3, 4, 5, 6, 7, 8, 9] rfl)
                · have hc230 : (L205).toInt = 1 := i_eq hc230 rfl rfl
                  refine lv_iload_n hx hb dX9_spells_64 rfl (lv_at hl 5 rfl) ?_
                  refine lv_goto (tgt := 103) hx hb dX9_spells_65 (by decide) ?_
                  refine lv_icmp_ne (tgt := 110) hx hb dX9_spells_103 (by decide) (fun hc282 => ?_) (fun hc282 => ?_)
                  · have hc282 : ¬ (v226).toInt = (s1).toInt := i_ne hc282 rfl rfl
                    refine lv_iconst (v := 0) hx hb dX9_spells_110 (by decide) ?_
                    refine lv_istore (lv' := [(8, .int 0), (9, .int L205), (0, .ref (ad 64)), (1, .int n), (2, .int s0), (3, .int s1), (4, .int s2), (5, .int s3), (6, .int s4), (7, .int s5)]) hx hb dX9_spells_111 hl (by decide) rfl (fun ls hl => ?_)
                    obtain ⟨z283, e284, t285⟩ := x_add (x := L205) (y := 1) (a := L205.toInt) (b := 1) rfl rfl (by omega) (by omega)
                    have n286 : z283.toNatClampNeg = L205.toNatClampNeg + 1 := cl_addn (x := L205) (y := 1) rfl rfl t285 (by omega) (by decide)
                    refine lv_iinc (v := z283) (lv' := [(9, .int z283), (8, .int 0), (0, .ref (ad 64)), (1, .int n), (2, .int s0), (3, .int s1), (4, .int s2), (5, .int s3), (6, .int s4), (7, .int s5)]) hx hb dX9_spells_113 hl (k := 1) rfl e284 (by decide) rfl (fun ls hl => ?_)
                    refine lv_goto (tgt := 26) hx hb dX9_spells_116 (by decide) ?_
                    have hk287 := cl_of (x := L205) (by omega)
                    exact ih209  z283 (0 : Int32)  _ _ _ (by have q0 : (0 : Int32).toInt = 0 := rfl; omega) (by have q0 : (0 : Int32).toInt = 0 := rfl; omega) (by have q0 : (0 : Int32).toInt = 0 := rfl; omega) (by have q0 : (0 : Int32).toInt = 0 := rfl; omega) (by have q0 : (0 : Int32).toInt = 0 := rfl; omega) (fun h9 => by have q0 : (0 : Int32).toInt = 0 := rfl; omega) (fun _ q9 => by have q8 := q9.2.2 L205.toNatClampNeg (by omega); rw [e227] at q8; revert q8; (repeat' split) <;> intro q8 <;> first | (have := (fa_eq _ _).mp q8; omega) | (exfalso; omega))  (by have q0 : (0 : Int32).toInt = 0 := rfl; omega) h (lv_sub hl [0, 1, 2, 3, 4, 5, 6, 7, 8, 9] rfl)
                  · have hc282 : (v226).toInt = (s1).toInt := i_eq hc282 rfl rfl
                    refine lv_iconst (v := 1) hx hb dX9_spells_106 (by decide) ?_
                    refine lv_goto (tgt := 111) hx hb dX9_spells_107 (by decide) ?_
                    refine lv_istore (lv' := [(8, .int 1), (9, .int L205), (0, .ref (ad 64)), (1, .int n), (2, .int s0), (3, .int s1), (4, .int s2), (5, .int s3), (6, .int s4), (7, .int s5)]) hx hb dX9_spells_111 hl (by decide) rfl (fun ls hl => ?_)
                    obtain ⟨z288, e289, t290⟩ := x_add (x := L205) (y := 1) (a := L205.toInt) (b := 1) rfl rfl (by omega) (by omega)
                    have n291 : z288.toNatClampNeg = L205.toNatClampNeg + 1 := cl_addn (x := L205) (y := 1) rfl rfl t290 (by omega) (by decide)
                    refine lv_iinc (v := z288) (lv' := [(9, .int z288), (8, .int 1), (0, .ref (ad 64)), (1, .int n), (2, .int s0), (3, .int s1), (4, .int s2), (5, .int s3), (6, .int s4), (7, .int s5)]) hx hb dX9_spells_113 hl (k := 1) rfl e289 (by decide) rfl (fun ls hl => ?_)
                    refine lv_goto (tgt := 26) hx hb dX9_spells_116 (by decide) ?_
                    obtain ⟨hs292a, hs292b, hs292⟩ := hi216 (by omega)
                    have hk293 := cl_of (x := L205) (by omega)
                    exact ih209  z288 (1 : Int32)  _ _ _ (by have q0 : (1 : Int32).toInt = 1 := rfl; omega) (by have q0 : (1 : Int32).toInt = 1 := rfl; omega) (by have q0 : (1 : Int32).toInt = 1 := rfl; omega) (by have q0 : (1 : Int32).toInt = 1 := rfl; omega) (by have q0 : (1 : Int32).toInt = 1 := rfl; omega) (fun _ => ⟨hs292a, hs292b, fun j hj => by by_cases q9 : (j : Int) < L205.toInt; exact hs292 j q9; (have q8 : j = L205.toNatClampNeg := by omega); (rw [q8, e227]; (repeat' split) <;> first | exact (fa_eq _ _).mpr (by omega) | (exfalso; omega))⟩) (fun h9 => by have q0 : (1 : Int32).toInt = 1 := rfl; omega)  (by have q0 : (1 : Int32).toInt = 1 := rfl; omega) h (lv_sub hl [0, 1, 2, 3, 4, 5, 6, 7, 8, 9] rfl)
              · have hc229 : (L205).toInt = 0 := i_eq hc229 rfl rfl
                refine lv_iload_n hx hb dX9_spells_54 rfl (lv_at hl 4 rfl) ?_
                refine lv_goto (tgt := 103) hx hb dX9_spells_55 (by decide) ?_
                refine lv_icmp_ne (tgt := 110) hx hb dX9_spells_103 (by decide) (fun hc294 => ?_) (fun hc294 => ?_)
                · have hc294 : ¬ (v226).toInt = (s0).toInt := i_ne hc294 rfl rfl
                  refine lv_iconst (v := 0) hx hb dX9_spells_110 (by decide) ?_
                  refine lv_istore (lv' := [(8, .int 0), (9, .int L205), (0, .ref (ad 64)), (1, .int n), (2, .int s0), (3, .int s1), (4, .int s2), (5, .int s3), (6, .int s4), (7, .int s5)]) hx hb dX9_spells_111 hl (by decide) rfl (fun ls hl => ?_)
                  obtain ⟨z295, e296, t297⟩ := x_add (x := L205) (y := 1) (a := L205.toInt) (b := 1) rfl rfl (by omega) (by omega)
                  have n298 : z295.toNatClampNeg = L205.toNatClampNeg + 1 := cl_addn (x := L205) (y := 1) rfl rfl t297 (by omega) (by decide)
                  refine lv_iinc (v := z295) (lv' := [(9, .int z295), (8, .int 0), (0, .ref (ad 64)), (1, .int n), (2, .int s0), (3, .int s1), (4, .int s2), (5, .int s3), (6, .int s4), (7, .int s5)]) hx hb dX9_spells_113 hl (k := 1) rfl e296 (by decide) rfl (fun ls hl => ?_)
                  refine lv_goto (tgt := 26) hx hb dX9_spells_116 (by decide) ?_
                  have hk299 := cl_of (x := L205) (by omega)
                  exact ih209  z295 (0 : Int32)  _ _ _ (by have q0 : (0 : Int32).toInt = 0 := rfl; omega) (by have q0 : (0 : Int32).toInt = 0 := rfl; omega) (by have q0 : (0 : Int32).toInt = 0 := rfl; omega) (by have q0 : (0 : Int32).toInt = 0 := rfl; omega) (by have q0 : (0 : Int32).toInt = 0 := rfl; omega) (fun h9 => by have q0 : (0 : Int32).toInt = 0 := rfl; omega) (fun _ q9 => by have q8 := q9.2.2 L205.toNatClampNeg (by omega); rw [e227] at q8; revert q8; (repeat' split) <;> intro q8 <;> first | (have := (fa_eq _ _).mp q8; omega) | (exfalso; omega))  (by have q0 : (0 : Int32).toInt = 0 := rfl; omega) h (lv_sub hl [0, 1, 2, 3, 4, 5, 6, 7, 8, 9] rfl)
                · have hc294 : (v226).toInt = (s0).toInt := i_eq hc294 rfl rfl
                  refine lv_iconst (v := 1) hx hb dX9_spells_106 (by decide) ?_
                  refine lv_goto (tgt := 111) hx hb dX9_spells_107 (by decide) ?_
                  refine lv_istore (lv' := [(8, .int 1), (9, .int L205), (0, .ref (ad 64)), (1, .int n), (2, .int s0), (3, .int s1), (4, .int s2), (5, .int s3), (6, .int s4), (7, .int s5)]) hx hb dX9_spells_111 hl (by decide) rfl (fun ls hl => ?_)
                  obtain ⟨z300, e301, t302⟩ := x_add (x := L205) (y := 1) (a := L205.toInt) (b := 1) rfl rfl (by omega) (by omega)
                  have n303 : z300.toNatClampNeg = L205.toNatClampNeg + 1 := cl_addn (x := L205) (y := 1) rfl rfl t302 (by omega) (by decide)
                  refine lv_iinc (v := z300) (lv' := [(9, .int z300), (8, .int 1), (0, .ref (ad 64)), (1, .int n), (2, .int s0), (3, .int s1), (4, .int s2), (5, .int s3), (6, .int s4), (7, .int s5)]) hx hb dX9_spells_113 hl (k := 1) rfl e301 (by decide) rfl (fun ls hl => ?_)
                  refine lv_goto (tgt := 26) hx hb dX9_spells_116 (by decide) ?_
                  obtain ⟨hs304a, hs304b, hs304⟩ := hi216 (by omega)
                  have hk305 := cl_of (x := L205) (by omega)
                  exact ih209  z300 (1 : Int32)  _ _ _ (by have q0 : (1 : Int32).toInt = 1 := rfl; omega) (by have q0 : (1 : Int32).toInt = 1 := rfl; omega) (by have q0 : (1 : Int32).toInt = 1 := rfl; omega) (by have q0 : (1 : Int32).toInt = 1 := rfl; omega) (by have q0 : (1 : Int32).toInt = 1 := rfl; omega) (fun _ => ⟨hs304a, hs304b, fun j hj => by by_cases q9 : (j : Int) < L205.toInt; exact hs304 j q9; (have q8 : j = L205.toNatClampNeg := by omega); (rw [q8, e227]; (repeat' split) <;> first | exact (fa_eq _ _).mpr (by omega) | (exfalso; omega))⟩) (fun h9 => by have q0 : (1 : Int32).toInt = 1 := rfl; omega)  (by have q0 : (1 : Int32).toInt = 1 := rfl; omega) h (lv_sub hl [0, 1, 2, 3, 4, 5, 6, 7, 8, 9] rfl)
      exact hloop207 7 (0 : Int32) (1 : Int32)  _ _ _ (by have q0 : (0 : Int32).toInt = 0 := rfl; have q1 : (1 : Int32).toInt = 1 := rfl; omega) (by have q0 : (0 : Int32).toInt = 0 := rfl; have q1 : (1 : Int32).toInt = 1 := rfl; omega) (by have q0 : (0 : Int32).toInt = 0 := rfl; have q1 : (1 : Int32).toInt = 1 := rfl; omega) (by have q0 : (0 : Int32).toInt = 0 := rfl; have q1 : (1 : Int32).toInt = 1 := rfl; omega) (by have q0 : (0 : Int32).toInt = 0 := rfl; have q1 : (1 : Int32).toInt = 1 := rfl; omega) (fun _ => ⟨by omega, by omega, fun j hj => by have q0 : (0 : Int32).toInt = 0 := rfl; omega⟩) (fun h9 => by have q0 : (1 : Int32).toInt = 1 := rfl; omega)  (by have q0 : (0 : Int32).toInt = 0 := rfl; have q1 : (1 : Int32).toInt = 1 := rfl; omega) h (lv_sub hl [0, 1, 2, 3, 4, 5, 6, 7, 8, 9] rfl)
