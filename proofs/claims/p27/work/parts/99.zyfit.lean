set_option maxHeartbeats 4000000 in
set_option maxRecDepth 100000 in
theorem c_F_says1 (l : Launch) (G : va_G) (cI cB cZ cO : ClassId) (ad : Nat → Nat) (w : Nat → va_E)   (a1 : Int32) (a2 : Int32) (a3 : Int32) (hl_a2 : 0 ≤ a2.toInt) (hh_a2 : a2.toInt ≤ 60) (hl_a3 : 0 ≤ a3.toInt) (hh_a3 : a3.toInt ≤ 23)  : NI l G (tyq cI cB cZ cO) yX1_says cX1_says 4 (some .int) 1 25 74 ad w [.int 1, .int a1, .int a2, .int a3] (fun r w1 => w = w1 ∧ sayF 1 a1 a2 a3 = r) := by
  refine nk_i (own := "NoonShade$Guess") rfl (by decide) (Nat.le_of_ble_eq_true rfl) ?_
  intro p e s m below meth c ls X hD hN hr hlk h hl
  have hx := X.1.1
  have hb := X.1.2.1
  have hown := X.1.2.2.2.1
  have hts := X.1.2.2.2.2
  have hl : lv_has ls 4 [(0, .int 1), (1, .int a1), (2, .int a2), (3, .int a3)] := hl
  refine lv_iload_n hx hb dX1_says_0 rfl (lv_at hl 0 rfl) ?_
  refine lv_if_ne (tgt := 13) hx hb dX1_says_1 (by decide) (fun _ => ?_) (fun hc => absurd hc (by decide))
  refine lv_iload_n hx hb dX1_says_13 rfl (lv_at hl 1 rfl) ?_
  refine lv_iload_n hx hb dX1_says_14 rfl (lv_at hl 2 rfl) ?_
  refine lv_iload_n hx hb dX1_says_15 rfl (lv_at hl 3 rfl) ?_
  refine n_Si (na := 3) (As := [.int a1, .int a2, .int a3]) (rest := []) X hD hN h (c_F_lost l G cI cB cZ cO ad w   a1 a2 a3 (by omega) (by omega) ) ⟨kv_78, kv_8, kv_9, kv_10⟩ ⟨by decide, by decide, by decide⟩ ⟨Nat.le_of_ble_eq_true rfl, Nat.le_of_ble_eq_true rfl⟩ ⟨Nat.zero_le _, Nat.zero_le _⟩ rfl hl.1 rfl (Nat.le_of_ble_eq_true rfl) dX1_says_16 (fun r1 w2 H locs hp3 h => ?_)
  obtain ⟨rfl, hr4⟩ := hp3
  obtain ⟨hr5, h6, h7⟩ := hr4
  exact e_i X h hr hlk dX1_says_19 ⟨rfl, (by unfold sayF; rw [if_neg (by decide)]; exact hr5)⟩

set_option maxHeartbeats 4000000 in
set_option maxRecDepth 100000 in
theorem c_F_agree10 (l : Launch) (G : va_G) (cI cB cZ cO : ClassId) (ad : Nat → Nat) (w : Nat → va_E) (mz : Int32) (mc : Nat → Int32) (ok : OK cI cB cZ cO ad w) (who : Int32) (kd : Int32)  (n_8 : w 10 = .inr (4, [.ref (ad 11), .int mz])) (n_9 : w 11 = .inl (cI, 24, .inl mc)) (hz0 : 0 ≤ mz.toInt) (hz1 : mz.toInt ≤ 6) (hNR : NRG 60 mz mc) : NI l G (tyq cI cB cZ cO) yX6_agree cX6_agree 5 (some .boolean) 3 68 74 ad w [.ref (ad 10), .int 1, .int who, .int kd] (fun r w1 => w = w1 ∧ ((agP 1 mc mz.toNatClampNeg who kd ∧ r = 1) ∨ (¬ agP 1 mc mz.toNatClampNeg who kd ∧ r = 0))) := by
  refine nk_i (own := "NoonShade$Rows") rfl (by decide) (Nat.le_of_ble_eq_true rfl) ?_
  intro p e s m below meth c ls X hD hN hr hlk h hl
  have hx := X.1.1
  have hb := X.1.2.1
  have hown := X.1.2.2.2.1
  have hts := X.1.2.2.2.2
  have hl : lv_has ls 5 [(0, .ref (ad 10)), (1, .int 1), (2, .int who), (3, .int kd)] := hl
  refine lv_iconst (v := 0) hx hb dX6_agree_0 (by decide) ?_
  refine lv_istore (lv' := [(4, .int 0), (0, .ref (ad 10)), (1, .int 1), (2, .int who), (3, .int kd)]) hx hb dX6_agree_1 hl (by decide) rfl (fun ls hl => ?_)
  have hloop2 : ∀ (d3 : Nat) (L1 : Int32) (H : Heap) (locs : List Loc) (ls : Array Slot), 0 ≤ L1.toInt → L1.toInt ≤ 24 → L1.toInt % 4 = 0 → L1.toInt ≤ 4 * mz.toInt → (agU 1 mc (L1.toNatClampNeg / 4) who kd) → 24 - L1.toInt < (d3 : Int) → St G 74 ad (wA 74 ad s.heap.size) s.heap w H locs → lv_has ls 5 [(4, .int L1), (0, .ref (ad 10)), (1, .int 1), (2, .int who), (3, .int kd)] → W p l e { frames := 3, cells := 0, slots := 0, locals := 68 } s m [.ref (ad 10), .int 1, .int who, .int kd].toArray below meth c H locs 0 0 (MQ below (va_Qi (fun r w1 => w = w1 ∧ ((agP 1 mc mz.toNatClampNeg who kd ∧ r = 1) ∨ (¬ agP 1 mc mz.toNatClampNeg who kd ∧ r = 0))) (Aft G 74 ad) (wA 74 ad s.heap.size)) [.ref (ad 10), .int 1, .int who, .int kd].toArray s 0 0 (wA 74 ad s.heap.size)) (F0 m 3 ls []) := by
    intro d3
    induction d3 with
    | zero => intro L1 H locs ls hi6 hi7 hi8 hi9 hi10 hm5 h hl; exfalso; omega
    | succ d3 ih4 =>
      intro L1 H locs ls hi6 hi7 hi8 hi9 hi10 hm5 h hl
      refine lv_iload hx hb dX6_agree_3 (lv_at hl 0 rfl) ?_
      refine lv_aload_n hx hb dX6_agree_5 rfl (lv_at hl 1 rfl) ?_
      refine r_get kc6 X h 10 1 (by decide) rfl n_8 (by decide) kv_58 rfl dX6_agree_6 ?_
      refine lv_iconst (v := 4) hx hb dX6_agree_9 (by decide) ?_
      obtain ⟨z15, e13, t14⟩ := x_mul (x := mz) (y := (4 : Int32)) (a := (mz).toInt) (b := 4) rfl rfl (by omega) (by omega)
      refine o_imul (z := z15) hx hb dX6_agree_10 e13 ?_
      refine lv_icmp_ge (tgt := 68) hx hb dX6_agree_11 (by decide) (fun hc16 => ?_) (fun hc16 => ?_)
      · have hc16 : (z15).toInt ≤ (L1).toInt := i_le hc16 rfl rfl
        refine lv_iconst (v := 1) hx hb dX6_agree_68 (by decide) ?_
        have cq17 := cl_of (x := L1) (by omega)
        have eq18 : 4 * (L1.toNatClampNeg / 4) = L1.toNatClampNeg := by omega
        have cz19 := cl_of (x := mz) (by omega)
        exact e_n X h hr hlk rfl dX6_agree_69 ⟨rfl, Or.inl ⟨fun r9 h9 => hi10 r9 (by omega), rfl⟩⟩
      · have hc16 : ¬ (z15).toInt ≤ (L1).toInt := i_nle hc16 rfl rfl
        refine lv_aload_n hx hb dX6_agree_14 rfl (lv_at hl 1 rfl) ?_
        refine r_get kc6 X h 10 0 (by decide) rfl n_8 (by decide) kv_77 rfl dX6_agree_15 ?_
        refine lv_iload hx hb dX6_agree_18 (lv_at hl 0 rfl) ?_
        obtain ⟨v20, e21⟩ : ∃ z : Int32, mc L1.toNatClampNeg = z := ⟨_, rfl⟩
        have cq23 := cl_of (x := L1) (by omega)
        have eq24 : 4 * (L1.toNatClampNeg / 4) = L1.toNatClampNeg := by omega
        refine o_iald (v := v20) X h 11 0 (by decide) rfl n_9 rfl (in_of (by omega) (by omega)) e21 dX6_agree_20 ?_
        refine lv_iload_n hx hb dX6_agree_21 rfl (lv_at hl 3 rfl) ?_
        refine lv_icmp_ne (tgt := 62) hx hb dX6_agree_22 (by decide) (fun hc25 => ?_) (fun hc25 => ?_)
        · have hc25 : ¬ (v20).toInt = (who).toInt := i_ne hc25 rfl rfl
          obtain ⟨z26, e27, t28⟩ := x_add (x := L1) (y := 4) (a := L1.toInt) (b := 4) rfl rfl (by omega) (by omega)
          refine lv_iinc (v := z26) (lv' := [(4, .int z26), (0, .ref (ad 10)), (1, .int 1), (2, .int who), (3, .int kd)]) hx hb dX6_agree_62 hl (k := 0) rfl e27 (by decide) rfl (fun ls hl => ?_)
          refine lv_goto (tgt := 3) hx hb dX6_agree_65 (by decide) ?_
          have cz30 := cl_of (x := z26) (by omega)
          have hag29 : agU 1 mc (z26.toNatClampNeg / 4) who kd := by
            have q9 : z26.toNatClampNeg / 4 = L1.toNatClampNeg / 4 + 1 := by omega
            rw [q9]
            exact hi10.skip (v := v20) (by rw [eq24]; exact e21) (by omega)
          exact ih4  z26  _ _ _ (by omega) (by omega) (by omega) (by omega) hag29  (by omega) h (lv_sub hl [0, 1, 2, 3, 4] rfl)
        · have hc25 : (v20).toInt = (who).toInt := i_eq hc25 rfl rfl
          refine lv_iload_n hx hb dX6_agree_25 rfl (lv_at hl 2 rfl) ?_
          refine lv_iload_n hx hb dX6_agree_26 rfl (lv_at hl 4 rfl) ?_
          refine lv_aload_n hx hb dX6_agree_27 rfl (lv_at hl 1 rfl) ?_
          refine r_get kc6 X h 10 0 (by decide) rfl n_8 (by decide) kv_77 rfl dX6_agree_28 ?_
          refine lv_iload hx hb dX6_agree_31 (lv_at hl 0 rfl) ?_
          refine lv_iconst (v := 1) hx hb dX6_agree_33 (by decide) ?_
          obtain ⟨z33, e31, t32⟩ := x_add (x := L1) (y := (1 : Int32)) (a := (L1).toInt) (b := 1) rfl rfl (by omega) (by omega)
          have n34 : z33.toNatClampNeg = L1.toNatClampNeg + 1 := cl_addn (x := L1) (y := (1 : Int32)) rfl rfl t32 (by omega) (by decide)
          refine o_iadd (z := z33) hx hb dX6_agree_34 e31 ?_
          obtain ⟨v35, e36⟩ : ∃ z : Int32, mc (L1.toNatClampNeg + 1) = z := ⟨_, rfl⟩
          have q38 := hNR (L1.toNatClampNeg / 4) (by omega)
          rw [eq24] at q38
          have q38 : 0 ≤ v35.toInt ∧ v35.toInt ≤ 60 := by rw [← e36]; exact ⟨q38.1, q38.2.1⟩
          refine o_iald (v := v35) X h 11 0 (by decide) rfl n_9 rfl (in_of (by omega) (by omega)) (by rw [n34]; exact e36) dX6_agree_35 ?_
          refine lv_aload_n hx hb dX6_agree_36 rfl (lv_at hl 1 rfl) ?_
          refine r_get kc6 X h 10 0 (by decide) rfl n_8 (by decide) kv_77 rfl dX6_agree_37 ?_
          refine lv_iload hx hb dX6_agree_40 (lv_at hl 0 rfl) ?_
          refine lv_iconst (v := 2) hx hb dX6_agree_42 (by decide) ?_
          obtain ⟨z41, e39, t40⟩ := x_add (x := L1) (y := (2 : Int32)) (a := (L1).toInt) (b := 2) rfl rfl (by omega) (by omega)
          have n42 : z41.toNatClampNeg = L1.toNatClampNeg + 2 := cl_addn (x := L1) (y := (2 : Int32)) rfl rfl t40 (by omega) (by decide)
          refine o_iadd (z := z41) hx hb dX6_agree_43 e39 ?_
          obtain ⟨v43, e44⟩ : ∃ z : Int32, mc (L1.toNatClampNeg + 2) = z := ⟨_, rfl⟩
          have q46 := hNR (L1.toNatClampNeg / 4) (by omega)
          rw [eq24] at q46
          have q46 : 0 ≤ v43.toInt ∧ v43.toInt ≤ 23 := by rw [← e44]; exact ⟨q46.2.2.1, q46.2.2.2⟩
          refine o_iald (v := v43) X h 11 0 (by decide) rfl n_9 rfl (in_of (by omega) (by omega)) (by rw [n42]; exact e44) dX6_agree_44 ?_
          refine n_Si (na := 4) (As := [.int 1, .int kd, .int v35, .int v43]) (rest := []) X hD hN h (c_F_says1 l G cI cB cZ cO ad w kd v35 v43 (by omega) (by omega) (by omega) (by omega)) ⟨kv_80, kv_81, kv_82, kv_83⟩ ⟨by decide, by decide, by decide⟩ ⟨Nat.le_of_ble_eq_true rfl, Nat.le_of_ble_eq_true rfl⟩ ⟨Nat.zero_le _, Nat.zero_le _⟩ rfl hl.1 rfl (Nat.le_of_ble_eq_true rfl) dX6_agree_45 (fun r47 w48 H locs hp49 h => ?_)
          obtain ⟨rfl, hr50⟩ := hp49
          refine lv_aload_n hx hb dX6_agree_48 rfl (lv_at hl 1 rfl) ?_
          refine r_get kc6 X h 10 0 (by decide) rfl n_8 (by decide) kv_77 rfl dX6_agree_49 ?_
          refine lv_iload hx hb dX6_agree_52 (lv_at hl 0 rfl) ?_
          refine lv_iconst (v := 3) hx hb dX6_agree_54 (by decide) ?_
          obtain ⟨z53, e51, t52⟩ := x_add (x := L1) (y := (3 : Int32)) (a := (L1).toInt) (b := 3) rfl rfl (by omega) (by omega)
          have n54 : z53.toNatClampNeg = L1.toNatClampNeg + 3 := cl_addn (x := L1) (y := (3 : Int32)) rfl rfl t52 (by omega) (by decide)
          refine o_iadd (z := z53) hx hb dX6_agree_55 e51 ?_
          obtain ⟨v55, e56⟩ : ∃ z : Int32, mc (L1.toNatClampNeg + 3) = z := ⟨_, rfl⟩
          refine o_iald (v := v55) X h 11 0 (by decide) rfl n_9 rfl (in_of (by omega) (by omega)) (by rw [n54]; exact e56) dX6_agree_56 ?_
          refine lv_icmp_eq (tgt := 62) hx hb dX6_agree_57 (by decide) (fun hc58 => ?_) (fun hc58 => ?_)
          · have hc58 : (r47).toInt = (v55).toInt := i_eq hc58 rfl rfl
            obtain ⟨z59, e60, t61⟩ := x_add (x := L1) (y := 4) (a := L1.toInt) (b := 4) rfl rfl (by omega) (by omega)
            refine lv_iinc (v := z59) (lv' := [(4, .int z59), (0, .ref (ad 10)), (1, .int 1), (2, .int who), (3, .int kd)]) hx hb dX6_agree_62 hl (k := 0) rfl e60 (by decide) rfl (fun ls hl => ?_)
            refine lv_goto (tgt := 3) hx hb dX6_agree_65 (by decide) ?_
            have cz63 := cl_of (x := z59) (by omega)
            have hag62 : agU 1 mc (z59.toNatClampNeg / 4) who kd := by
              have q9 : z59.toNatClampNeg / 4 = L1.toNatClampNeg / 4 + 1 := by omega
              rw [q9]
              exact hi10.go (a := v35) (b := v43) (x := v55) (by rw [eq24]; exact e36) (by rw [eq24]; exact e44) (by rw [eq24]; exact e56) hr50 (by omega)
            exact ih4  z59  _ _ _ (by omega) (by omega) (by omega) (by omega) hag62  (by omega) h (lv_sub hl [0, 1, 2, 3, 4] rfl)
          · have hc58 : ¬ (r47).toInt = (v55).toInt := i_ne hc58 rfl rfl
            refine lv_iconst (v := 0) hx hb dX6_agree_60 (by decide) ?_
            have cz64 := cl_of (x := mz) (by omega)
            exact e_n X h hr hlk rfl dX6_agree_61 ⟨rfl, Or.inr ⟨agP_not (m := L1.toNatClampNeg / 4) (v := v20) (a := v35) (b := v43) (x := v55) (by omega) (by rw [eq24]; exact e21) (by omega) (by rw [eq24]; exact e36) (by rw [eq24]; exact e44) (by rw [eq24]; exact e56) hr50 (by omega), rfl⟩⟩
  exact hloop2 25 (0 : Int32)  _ _ _ (by have q0 : (0 : Int32).toInt = 0 := rfl; omega) (by have q0 : (0 : Int32).toInt = 0 := rfl; omega) (by have q0 : (0 : Int32).toInt = 0 := rfl; omega) (by have q0 : (0 : Int32).toInt = 0 := rfl; omega) (show agU 1 mc (0 / 4) who kd from agU.nil)  (by have q0 : (0 : Int32).toInt = 0 := rfl; omega) h (lv_sub hl [0, 1, 2, 3, 4] rfl)

set_option maxHeartbeats 4000000 in
set_option maxRecDepth 100000 in
theorem c_F_fitting10 (l : Launch) (G : va_G) (cI cB cZ cO : ClassId) (ad : Nat → Nat) (w : Nat → va_E) (mz : Int32) (mc : Nat → Int32) (ok : OK cI cB cZ cO ad w) (i : Int32)  (n_8 : w 10 = .inr (4, [.ref (ad 11), .int mz])) (n_9 : w 11 = .inl (cI, 24, .inl mc)) (hz0 : 0 ≤ mz.toInt) (hz1 : mz.toInt ≤ 6) (hNR : NRG 60 mz mc) : NI l G (tyq cI cB cZ cO) yX1_fitting cX1_fitting 6 (some .int) 4 92 74 ad w [.ref (ad 62), .int 1, .ref (ad 10), .int i] (fun r w1 => w = w1 ∧ fitN (fun k9 => agP 1 mc mz.toNatClampNeg i (nI k9)) 6 = r) := by
  refine nk_i (own := "NoonShade$Guess") rfl (by decide) (Nat.le_of_ble_eq_true rfl) ?_
  intro p e s m below meth c ls X hD hN hr hlk h hl
  have hx := X.1.1
  have hb := X.1.2.1
  have hown := X.1.2.2.2.1
  have hts := X.1.2.2.2.2
  have hl : lv_has ls 6 [(0, .ref (ad 62)), (1, .int 1), (2, .ref (ad 10)), (3, .int i)] := hl
  refine lv_iconst (v := 0) hx hb dX1_fitting_0 (by decide) ?_
  refine lv_istore (lv' := [(4, .int 0), (0, .ref (ad 62)), (1, .int 1), (2, .ref (ad 10)), (3, .int i)]) hx hb dX1_fitting_1 hl (by decide) rfl (fun ls hl => ?_)
  refine lv_iconst (v := 0) hx hb dX1_fitting_3 (by decide) ?_
  refine lv_istore (lv' := [(5, .int 0), (4, .int 0), (0, .ref (ad 62)), (1, .int 1), (2, .ref (ad 10)), (3, .int i)]) hx hb dX1_fitting_4 hl (by decide) rfl (fun ls hl => ?_)
  have hloop3 : ∀ (d4 : Nat) (L1 : Int32) (L2 : Int32) (H : Heap) (locs : List Loc) (ls : Array Slot), 0 ≤ L1.toInt → L1.toInt ≤ 6 → (fitN (fun k9 => agP 1 mc mz.toNatClampNeg i (nI k9)) L1.toNatClampNeg = L2) → 6 - L1.toInt < (d4 : Int) → St G 74 ad (wA 74 ad s.heap.size) s.heap w H locs → lv_has ls 6 [(5, .int L1), (4, .int L2), (0, .ref (ad 62)), (1, .int 1), (2, .ref (ad 10)), (3, .int i)] → W p l e { frames := 4, cells := 0, slots := 0, locals := 92 } s m [.ref (ad 62), .int 1, .ref (ad 10), .int i].toArray below meth c H locs 0 0 (MQ below (va_Qi (fun r w1 => w = w1 ∧ fitN (fun k9 => agP 1 mc mz.toNatClampNeg i (nI k9)) 6 = r) (Aft G 74 ad) (wA 74 ad s.heap.size)) [.ref (ad 62), .int 1, .ref (ad 10), .int i].toArray s 0 0 (wA 74 ad s.heap.size)) (F0 m 6 ls []) := by
    intro d4
    induction d4 with
    | zero => intro L1 L2 H locs ls hi7 hi8 hi9 hm6 h hl; exfalso; omega
    | succ d4 ih5 =>
      intro L1 L2 H locs ls hi7 hi8 hi9 hm6 h hl
      refine lv_iload hx hb dX1_fitting_6 (lv_at hl 0 rfl) ?_
      refine lv_bipush (v := 6) hx hb dX1_fitting_8 (by decide) ?_
      refine lv_icmp_ge (tgt := 39) hx hb dX1_fitting_10 (by decide) (fun hc12 => ?_) (fun hc12 => ?_)
      · have hc12 : 6 ≤ (L1).toInt := i_le hc12 rfl rfl
        refine lv_iload hx hb dX1_fitting_39 (lv_at hl 1 rfl) ?_
        have hf13 : fitN (fun k9 => agP 1 mc mz.toNatClampNeg i (nI k9)) 6 = L2 := by
          have c9 := cl_of (x := L1) (by omega)
          have e9 : L1.toNatClampNeg = 6 := by omega
          rw [← hi9, e9]
        exact e_i X h hr hlk dX1_fitting_41 ⟨rfl, hf13⟩
      · have hc12 : ¬ 6 ≤ (L1).toInt := i_nle hc12 rfl rfl
        refine lv_aload_n hx hb dX1_fitting_13 rfl (lv_at hl 4 rfl) ?_
        refine lv_iload_n hx hb dX1_fitting_14 rfl (lv_at hl 3 rfl) ?_
        refine lv_iload_n hx hb dX1_fitting_15 rfl (lv_at hl 5 rfl) ?_
        refine lv_iload hx hb dX1_fitting_16 (lv_at hl 0 rfl) ?_
        refine n_Vi (na := 3) (As := [.int 1, .int i, .int L1]) (rest := []) X hD hN h rfl (c_F_agree10 l G cI cB cZ cO ad w mz mc ok i L1 n_8 n_9 (by omega) (by omega) hNR) ⟨kv_106, kv_107, kv_108, kv_64, kv_109⟩ rfl ⟨by decide, by decide, by decide⟩ ⟨Nat.le_of_ble_eq_true rfl, Nat.le_of_ble_eq_true rfl⟩ ⟨Nat.zero_le _, Nat.zero_le _⟩ (by decide) n_8 rfl rfl hl.1 rfl (Nat.le_of_ble_eq_true rfl) dX1_fitting_18 (fun r14 w15 H locs hp16 h => ?_)
        obtain ⟨rfl, hr17⟩ := hp16
        rcases hr17 with ⟨hA18, rfl⟩ | ⟨hA18, rfl⟩
        · refine lv_if_eq (tgt := 33) hx hb dX1_fitting_21 (by decide) (fun hc => absurd hc (by decide)) (fun _ => ?_)
          refine lv_iload hx hb dX1_fitting_24 (lv_at hl 1 rfl) ?_
          refine lv_iconst (v := 1) hx hb dX1_fitting_26 (by decide) ?_
          refine lv_iload hx hb dX1_fitting_27 (lv_at hl 0 rfl) ?_
          obtain ⟨z21, e19, t20, t20b⟩ := x_shl7 (i := L1) (by omega) (by omega)
          refine o_ishl (z := z21) hx hb dX1_fitting_29 e19 ?_
          obtain ⟨z24, e22⟩ : ∃ z : Int32, L2 ||| z21 = z := ⟨_, rfl⟩
          refine o_ior (z := z24) hx hb dX1_fitting_30 e22 ?_
          refine lv_istore (lv' := [(4, .int z24), (5, .int L1), (0, .ref (ad 62)), (1, .int 1), (2, .ref (ad 10)), (3, .int i)]) hx hb dX1_fitting_31 hl (by decide) rfl (fun ls hl => ?_)
          obtain ⟨z25, e26, t27⟩ := x_add (x := L1) (y := 1) (a := L1.toInt) (b := 1) rfl rfl (by omega) (by omega)
          have n28 : z25.toNatClampNeg = L1.toNatClampNeg + 1 := cl_addn (x := L1) (y := 1) rfl rfl t27 (by omega) (by decide)
          refine lv_iinc (v := z25) (lv' := [(5, .int z25), (4, .int z24), (0, .ref (ad 62)), (1, .int 1), (2, .ref (ad 10)), (3, .int i)]) hx hb dX1_fitting_33 hl (k := 1) rfl e26 (by decide) rfl (fun ls hl => ?_)
          refine lv_goto (tgt := 6) hx hb dX1_fitting_36 (by decide) ?_
          have hf29 : fitN (fun k9 => agP 1 mc mz.toNatClampNeg i (nI k9)) z25.toNatClampNeg = z24 := by
            have n9 := nI_cl (x := L1) (by omega)
            rw [n28, fitN_y (by show agP 1 mc mz.toNatClampNeg i (nI L1.toNatClampNeg); rw [n9]; exact hA18), n9, hi9]
            subst e26; subst e22; subst e19; rfl
          exact ih5  z25 z24  _ _ _ (by omega) (by omega) hf29  (by omega) h (lv_sub hl [0, 1, 2, 3, 4, 5] rfl)
        · refine lv_if_eq (tgt := 33) hx hb dX1_fitting_21 (by decide) (fun _ => ?_) (fun hc => absurd (by decide) hc)
          obtain ⟨z30, e31, t32⟩ := x_add (x := L1) (y := 1) (a := L1.toInt) (b := 1) rfl rfl (by omega) (by omega)
          have n33 : z30.toNatClampNeg = L1.toNatClampNeg + 1 := cl_addn (x := L1) (y := 1) rfl rfl t32 (by omega) (by decide)
          refine lv_iinc (v := z30) (lv' := [(5, .int z30), (4, .int L2), (0, .ref (ad 62)), (1, .int 1), (2, .ref (ad 10)), (3, .int i)]) hx hb dX1_fitting_33 hl (k := 0) rfl e31 (by decide) rfl (fun ls hl => ?_)
          refine lv_goto (tgt := 6) hx hb dX1_fitting_36 (by decide) ?_
          have hf34 : fitN (fun k9 => agP 1 mc mz.toNatClampNeg i (nI k9)) z30.toNatClampNeg = L2 := by
            have n9 := nI_cl (x := L1) (by omega)
            rw [n33, fitN_n (by show ¬ agP 1 mc mz.toNatClampNeg i (nI L1.toNatClampNeg); rw [n9]; exact hA18), hi9]
          exact ih5  z30 L2  _ _ _ (by omega) (by omega) hf34  (by omega) h (lv_sub hl [0, 1, 2, 3, 4, 5] rfl)
  exact hloop3 7 (0 : Int32) (0 : Int32)  _ _ _ (by have q0 : (0 : Int32).toInt = 0 := rfl; omega) (by have q0 : (0 : Int32).toInt = 0 := rfl; omega) (show fitN (fun k9 => agP 1 mc mz.toNatClampNeg i (nI k9)) 0 = (0 : Int32) from rfl)  (by have q0 : (0 : Int32).toInt = 0 := rfl; omega) h (lv_sub hl [0, 1, 2, 3, 4, 5] rfl)

set_option maxHeartbeats 4000000 in
set_option maxRecDepth 100000 in
theorem c_F_kinds (l : Launch) (G : va_G) (cI cB cZ cO : ClassId) (ad : Nat → Nat) (w : Nat → va_E) (ho so mi ca ja : Int32) (mz : Int32) (mc : Nat → Int32) (ok : OK cI cB cZ cO ad w) (i : Int32)  (n_1 : w 1 = .inr (1, [.int ho, .int so, .int mi, .int ca, .int ja, .ref (ad 2), .ref (ad 3), .ref (ad 4), .ref (ad 5), .ref (ad 6), .ref (ad 7), .ref (ad 8), .ref (ad 10), .ref (ad 12)])) (n_8 : w 10 = .inr (4, [.ref (ad 11), .int mz])) (n_9 : w 11 = .inl (cI, 24, .inl mc)) (hz0 : 0 ≤ mz.toInt) (hz1 : mz.toInt ≤ 6) (hNR : NRG 60 mz mc) (hca : 0 ≤ ca.toInt ∧ ca.toInt ≤ 7) (hja : 0 ≤ ja.toInt ∧ ja.toInt ≤ 4) : NI l G (tyq cI cB cZ cO) yX8_kinds cX8_kinds 2 (some .int) 5 117 74 ad w [.ref (ad 0), .int i] (fun r w1 => OK cI cB cZ cO ad w1 ∧ KX w w1 ∧ (((0 ≤ i.toInt ∧ i.toInt < ja.toInt) ∧ fitN (fun k9 => agP 1 mc mz.toNatClampNeg i (nI k9)) 6 = r) ∨ (¬ (0 ≤ i.toInt ∧ i.toInt < ja.toInt) ∧ r = -2))) := by
  refine nk_i (own := "NoonShade") rfl (by decide) (Nat.le_of_ble_eq_true rfl) ?_
  intro p e s m below meth c ls X hD hN hr hlk h hl
  have hx := X.1.1
  have hb := X.1.2.1
  have hown := X.1.2.2.2.1
  have hts := X.1.2.2.2.2
  have hl : lv_has ls 2 [(0, .ref (ad 0)), (1, .int i)] := hl
  refine lv_aload_n hx hb dX8_kinds_0 rfl (lv_at hl 0 rfl) ?_
  obtain ⟨x2, x3, q4, q5, q6, f1⟩ := (show sN ad (w 0) from ok 0 (by decide))
  have f7 : w 0 = .inr (6, [.ref (ad 1), .ref (ad 14), .ref (ad 27), .ref (ad 54), .ref (ad 55), .ref (ad 58), .ref (ad 62), .long x2, .long x3, .int q4, .int q5, .int q6]) := f1
  refine r_get kc8 X h 0 0 (by decide) rfl f7 (by decide) kv_172 rfl dX8_kinds_1 ?_
  refine lv_iload_n hx hb dX8_kinds_4 rfl (lv_at hl 1 rfl) ?_
  refine n_Vi (na := 1) (As := [.int i]) (rest := []) X hD hN h rfl (c_F1_hasJar l G cI cB cZ cO ad w ho so mi ca ja  i  n_1) ⟨kv_223, kv_224, kv_225, kv_37, kv_226⟩ rfl ⟨by decide, by decide, by decide⟩ ⟨Nat.le_of_ble_eq_true rfl, Nat.le_of_ble_eq_true rfl⟩ ⟨Nat.zero_le _, Nat.zero_le _⟩ (by decide) n_1 rfl rfl hl.1 rfl (Nat.le_of_ble_eq_true rfl) dX8_kinds_5 (fun r8 w9 H locs hp10 h => ?_)
  obtain ⟨rfl, hr11⟩ := hp10
  rcases hr11 with ⟨hq12, hq13, rfl⟩ | ⟨hq14, rfl⟩
  · refine lv_if_ne (tgt := 18) hx hb dX8_kinds_8 (by decide) (fun _ => ?_) (fun hc => absurd hc (by decide))
    refine lv_aload_n hx hb dX8_kinds_18 rfl (lv_at hl 0 rfl) ?_
    refine r_get kc8 X h 0 6 (by decide) rfl f7 (by decide) kv_280 rfl dX8_kinds_19 ?_
    refine lv_iconst (v := 1) hx hb dX8_kinds_22 (by decide) ?_
    refine lv_aload_n hx hb dX8_kinds_23 rfl (lv_at hl 0 rfl) ?_
    refine r_get kc8 X h 0 0 (by decide) rfl f7 (by decide) kv_172 rfl dX8_kinds_24 ?_
    refine r_get kc2 X h 1 12 (by decide) rfl n_1 (by decide) kv_188 rfl dX8_kinds_27 ?_
    refine lv_iload_n hx hb dX8_kinds_30 rfl (lv_at hl 1 rfl) ?_
    have f18 : w 62 = .inr (0, [.ref (ad 63)]) := ok 62 (by decide)
    have f19 : w 62 = .inr (0, [.ref (ad 63)]) := f18
    refine n_Vi (na := 3) (As := [.int 1, .ref (ad 10), .int i]) (rest := []) X hD hN h rfl (c_F_fitting10 l G cI cB cZ cO ad w mz mc ok i n_8 n_9 (by omega) (by omega) hNR) ⟨kv_281, kv_282, kv_283, kv_82, kv_284⟩ rfl ⟨by decide, by decide, by decide⟩ ⟨Nat.le_of_ble_eq_true rfl, Nat.le_of_ble_eq_true rfl⟩ ⟨Nat.zero_le _, Nat.zero_le _⟩ (by decide) f19 rfl rfl hl.1 rfl (Nat.le_of_ble_eq_true rfl) dX8_kinds_31 (fun r15 w16 H locs hp17 h => ?_)
    obtain ⟨rfl, hr20⟩ := hp17
    exact e_i X h hr hlk dX8_kinds_34 ⟨ok, KX.rf, Or.inl ⟨by omega, hr20⟩⟩
  · refine lv_if_ne (tgt := 18) hx hb dX8_kinds_8 (by decide) (fun hc => absurd (by decide) hc) (fun _ => ?_)
    refine lv_aload_n hx hb dX8_kinds_11 rfl (lv_at hl 0 rfl) ?_
    refine lv_bipush (v := (-2)) hx hb dX8_kinds_12 (by decide) ?_
    refine n_Vi (na := 1) (As := [.int (-2)]) (rest := []) X hD hN h rfl (c_refused l G cI cB cZ cO ad w  ok ((-2) : Int32)  ) ⟨kv_227, kv_228, kv_229, kv_212, kv_230⟩ rfl ⟨by decide, by decide, by decide⟩ ⟨Nat.le_of_ble_eq_true rfl, Nat.le_of_ble_eq_true rfl⟩ ⟨Nat.zero_le _, Nat.zero_le _⟩ (by decide) f7 rfl rfl hl.1 rfl (Nat.le_of_ble_eq_true rfl) dX8_kinds_14 (fun r21 w22 H locs hp23 h => ?_)
    have kX24 : KX w w22 := hp23.2.1
    obtain ⟨ok27, kk28, hr26⟩ := hp23
    have kx29 : KX w w22 := kk28
    subst hr26
    exact e_i X h hr hlk dX8_kinds_17 ⟨ok27, kx29, Or.inr ⟨by omega, rfl⟩⟩

set_option maxHeartbeats 4000000 in
set_option maxRecDepth 100000 in
theorem c_MF_kindsBy1 (l : Launch) (G : va_G) (cI cB cZ cO : ClassId) (ad : Nat → Nat) (w : Nat → va_E) (f : Nat → Int32) (ok : OK cI cB cZ cO ad w) (i : Int32) (n : Int32) (hl_n : 0 ≤ n.toInt) (hh_n : n.toInt ≤ 6) (pf : w 65 = .inl (cI, 177, .inl f)) (pal : alA f) : NI l G (tyq cI cB cZ cO) yX9_kindsBy cX9_kindsBy 11 (some .int) 1 23 74 ad w [.ref (ad 64), .int i, .int 65, .int n, .int 0] (fun r w1 => w = w1 ∧ fitN (fun k9 => agP 1 (fun j9 => f (65 + j9)) n.toNatClampNeg i (nI k9)) 6 = r) := by
  refine nk_i (own := "NoonShadeModel") rfl (by decide) (Nat.le_of_ble_eq_true rfl) ?_
  intro p e s m below meth c ls X hD hN hr hlk h hl
  have hx := X.1.1
  have hb := X.1.2.1
  have hown := X.1.2.2.2.1
  have hts := X.1.2.2.2.2
  have hl : lv_has ls 11 [(0, .ref (ad 64)), (1, .int i), (2, .int 65), (3, .int n), (4, .int 0)] := hl
  refine lv_iconst (v := 0) hx hb dX9_kindsBy_0 (by decide) ?_
  refine lv_istore (lv' := [(5, .int 0), (0, .ref (ad 64)), (1, .int i), (2, .int 65), (3, .int n), (4, .int 0)]) hx hb dX9_kindsBy_1 hl (by decide) rfl (fun ls hl => ?_)
  refine lv_iconst (v := 0) hx hb dX9_kindsBy_3 (by decide) ?_
  refine lv_istore (lv' := [(6, .int 0), (5, .int 0), (0, .ref (ad 64)), (1, .int i), (2, .int 65), (3, .int n), (4, .int 0)]) hx hb dX9_kindsBy_4 hl (by decide) rfl (fun ls hl => ?_)
  have hloop3 : ∀ (d4 : Nat) (L1 : Int32) (L2 : Int32) (H : Heap) (locs : List Loc) (ls : Array Slot), 0 ≤ L1.toInt → L1.toInt ≤ 6 → (fitN (fun k9 => agP 1 (fun j9 => f (65 + j9)) n.toNatClampNeg i (nI k9)) L1.toNatClampNeg = L2) → 6 - L1.toInt < (d4 : Int) → St G 74 ad (wA 74 ad s.heap.size) s.heap w H locs → lv_has ls 11 [(6, .int L1), (5, .int L2), (0, .ref (ad 64)), (1, .int i), (2, .int 65), (3, .int n), (4, .int 0)] → W p l e { frames := 1, cells := 0, slots := 0, locals := 23 } s m [.ref (ad 64), .int i, .int 65, .int n, .int 0].toArray below meth c H locs 0 0 (MQ below (va_Qi (fun r w1 => w = w1 ∧ fitN (fun k9 => agP 1 (fun j9 => f (65 + j9)) n.toNatClampNeg i (nI k9)) 6 = r) (Aft G 74 ad) (wA 74 ad s.heap.size)) [.ref (ad 64), .int i, .int 65, .int n, .int 0].toArray s 0 0 (wA 74 ad s.heap.size)) (F0 m 6 ls []) := by
    intro d4
    induction d4 with
    | zero => intro L1 L2 H locs ls hi7 hi8 hi9 hm6 h hl; exfalso; omega
    | succ d4 ih5 =>
      intro L1 L2 H locs ls hi7 hi8 hi9 hm6 h hl
      refine lv_iload hx hb dX9_kindsBy_6 (lv_at hl 0 rfl) ?_
      refine lv_bipush (v := 6) hx hb dX9_kindsBy_8 (by decide) ?_
      refine lv_icmp_ge (tgt := 156) hx hb dX9_kindsBy_10 (by decide) (fun hc12 => ?_) (fun hc12 => ?_)
      · have hc12 : 6 ≤ (L1).toInt := i_le hc12 rfl rfl
        refine lv_iload hx hb dX9_kindsBy_156 (lv_at hl 1 rfl) ?_
        have hf13 : fitN (fun k9 => agP 1 (fun j9 => f (65 + j9)) n.toNatClampNeg i (nI k9)) 6 = L2 := by
          have c9 := cl_of (x := L1) (by omega)
          have e9 : L1.toNatClampNeg = 6 := by omega
          rw [← hi9, e9]
        exact e_i X h hr hlk dX9_kindsBy_158 ⟨rfl, hf13⟩
      · have hc12 : ¬ 6 ≤ (L1).toInt := i_nle hc12 rfl rfl
        refine lv_iconst (v := 1) hx hb dX9_kindsBy_13 (by decide) ?_
        refine lv_istore (lv' := [(7, .int 1), (6, .int L1), (5, .int L2), (0, .ref (ad 64)), (1, .int i), (2, .int 65), (3, .int n), (4, .int 0)]) hx hb dX9_kindsBy_14 hl (by decide) rfl (fun ls hl => ?_)
        refine lv_iconst (v := 0) hx hb dX9_kindsBy_16 (by decide) ?_
        refine lv_istore (lv' := [(8, .int 0), (7, .int 1), (6, .int L1), (5, .int L2), (0, .ref (ad 64)), (1, .int i), (2, .int 65), (3, .int n), (4, .int 0)]) hx hb dX9_kindsBy_17 hl (by decide) rfl (fun ls hl => ?_)
        have hloop16 : ∀ (d17 : Nat) (L14 : Int32) (L15 : Int32) (H : Heap) (locs : List Loc) (ls : Array Slot), 0 ≤ L15.toInt → L15.toInt ≤ 1 → 0 ≤ L14.toInt → L14.toInt ≤ 6 → L14.toInt ≤ n.toInt → (((L15.toInt = 1 ∧ agU 1 (fun j9 => f (65 + j9)) L14.toNatClampNeg i L1) ∨ (L15.toInt = 0 ∧ ¬ agP 1 (fun j9 => f (65 + j9)) n.toNatClampNeg i L1))) → 6 - L14.toInt < (d17 : Int) → St G 74 ad (wA 74 ad s.heap.size) s.heap w H locs → lv_has ls 11 [(8, .int L14), (7, .int L15), (6, .int L1), (5, .int L2), (0, .ref (ad 64)), (1, .int i), (2, .int 65), (3, .int n), (4, .int 0)] → W p l e { frames := 1, cells := 0, slots := 0, locals := 23 } s m [.ref (ad 64), .int i, .int 65, .int n, .int 0].toArray below meth c H locs 0 0 (MQ below (va_Qi (fun r w1 => w = w1 ∧ fitN (fun k9 => agP 1 (fun j9 => f (65 + j9)) n.toNatClampNeg i (nI k9)) 6 = r) (Aft G 74 ad) (wA 74 ad s.heap.size)) [.ref (ad 64), .int i, .int 65, .int n, .int 0].toArray s 0 0 (wA 74 ad s.heap.size)) (F0 m 19 ls []) := by
          intro d17
          induction d17 with
          | zero => intro L14 L15 H locs ls hi20 hi21 hi22 hi23 hi24 hi25 hm19 h hl; exfalso; omega
          | succ d17 ih18 =>
            intro L14 L15 H locs ls hi20 hi21 hi22 hi23 hi24 hi25 hm19 h hl
            refine lv_iload hx hb dX9_kindsBy_19 (lv_at hl 0 rfl) ?_
            refine lv_iload_n hx hb dX9_kindsBy_21 rfl (lv_at hl 7 rfl) ?_
            refine lv_icmp_ge (tgt := 132) hx hb dX9_kindsBy_22 (by decide) (fun hc28 => ?_) (fun hc28 => ?_)
            · have hc28 : (n).toInt ≤ (L14).toInt := i_le hc28 rfl rfl
              refine lv_iload hx hb dX9_kindsBy_132 (lv_at hl 3 rfl) ?_
              refine lv_iload hx hb dX9_kindsBy_134 (lv_at hl 1 rfl) ?_
              refine lv_if_eq (tgt := 146) hx hb dX9_kindsBy_136 (by decide) (fun hc29 => ?_) (fun hc29 => ?_)
              · have hc29 : (L15).toInt = 0 := i_eq hc29 rfl rfl
                refine lv_iconst (v := 0) hx hb dX9_kindsBy_146 (by decide) ?_
                obtain ⟨z32, e30⟩ : ∃ z : Int32, L2 ||| (0 : Int32) = z := ⟨_, rfl⟩
                refine o_ior (z := z32) hx hb dX9_kindsBy_147 e30 ?_
                refine lv_istore (lv' := [(5, .int z32), (8, .int L14), (7, .int L15), (6, .int L1), (0, .ref (ad 64)), (1, .int i), (2, .int 65), (3, .int n), (4, .int 0)]) hx hb dX9_kindsBy_148 hl (by decide) rfl (fun ls hl => ?_)
                obtain ⟨z33, e34, t35⟩ := x_add (x := L1) (y := 1) (a := L1.toInt) (b := 1) rfl rfl (by omega) (by omega)
                have n36 : z33.toNatClampNeg = L1.toNatClampNeg + 1 := cl_addn (x := L1) (y := 1) rfl rfl t35 (by omega) (by decide)
                refine lv_iinc (v := z33) (lv' := [(6, .int z33), (5, .int z32), (8, .int L14), (7, .int L15), (0, .ref (ad 64)), (1, .int i), (2, .int 65), (3, .int n), (4, .int 0)]) hx hb dX9_kindsBy_150 hl (k := 3) rfl e34 (by decide) rfl (fun ls hl => ?_)
                refine lv_goto (tgt := 6) hx hb dX9_kindsBy_153 (by decide) ?_
                have hf37 : fitN (fun k9 => agP 1 (fun j9 => f (65 + j9)) n.toNatClampNeg i (nI k9)) z33.toNatClampNeg = z32 := by
                  have n9 := nI_cl (x := L1) (by omega)
                  have c8 := cl_of (x := L14) (by omega)
                  have c7 := cl_of (x := n) (by omega)
                  rcases hi25 with ⟨s1, s2⟩ | ⟨s1, s2⟩
                  · exfalso; omega
                  · rw [n36, fitN_n (by show ¬ agP 1 (fun j9 => f (65 + j9)) n.toNatClampNeg i (nI L1.toNatClampNeg); rw [n9]; exact s2), hi9]
                    subst e34; subst e30; exact (or0 _).symm
                exact ih5  z33 z32  _ _ _ (by omega) (by omega) hf37  (by omega) h (lv_sub hl [0, 1, 4, 5, 6, 7, 8] rfl)
              · have hc29 : ¬ (L15).toInt = 0 := i_ne hc29 rfl rfl
                refine lv_iconst (v := 1) hx hb dX9_kindsBy_139 (by decide) ?_
                refine lv_iload hx hb dX9_kindsBy_140 (lv_at hl 2 rfl) ?_
                obtain ⟨z40, e38, t39, t39b⟩ := x_shl7 (i := L1) (by omega) (by omega)
                refine o_ishl (z := z40) hx hb dX9_kindsBy_142 e38 ?_
                refine lv_goto (tgt := 147) hx hb dX9_kindsBy_143 (by decide) ?_
                obtain ⟨z43, e41⟩ : ∃ z : Int32, L2 ||| z40 = z := ⟨_, rfl⟩
                refine o_ior (z := z43) hx hb dX9_kindsBy_147 e41 ?_
                refine lv_istore (lv' := [(5, .int z43), (8, .int L14), (7, .int L15), (6, .int L1), (0, .ref (ad 64)), (1, .int i), (2, .int 65), (3, .int n), (4, .int 0)]) hx hb dX9_kindsBy_148 hl (by decide) rfl (fun ls hl => ?_)
                obtain ⟨z44, e45, t46⟩ := x_add (x := L1) (y := 1) (a := L1.toInt) (b := 1) rfl rfl (by omega) (by omega)
                have n47 : z44.toNatClampNeg = L1.toNatClampNeg + 1 := cl_addn (x := L1) (y := 1) rfl rfl t46 (by omega) (by decide)
                refine lv_iinc (v := z44) (lv' := [(6, .int z44), (5, .int z43), (8, .int L14), (7, .int L15), (0, .ref (ad 64)), (1, .int i), (2, .int 65), (3, .int n), (4, .int 0)]) hx hb dX9_kindsBy_150 hl (k := 3) rfl e45 (by decide) rfl (fun ls hl => ?_)
                refine lv_goto (tgt := 6) hx hb dX9_kindsBy_153 (by decide) ?_
                have hf48 : fitN (fun k9 => agP 1 (fun j9 => f (65 + j9)) n.toNatClampNeg i (nI k9)) z44.toNatClampNeg = z43 := by
                  have n9 := nI_cl (x := L1) (by omega)
                  have c8 := cl_of (x := L14) (by omega)
                  have c7 := cl_of (x := n) (by omega)
                  rcases hi25 with ⟨s1, s2⟩ | ⟨s1, s2⟩
                  · rw [n47, fitN_y (by show agP 1 (fun j9 => f (65 + j9)) n.toNatClampNeg i (nI L1.toNatClampNeg); rw [n9]; exact fun r9 h9 => s2 r9 (by omega)), n9, hi9]
                    subst e45; subst e41; subst e38; rfl
                  · exfalso; omega
                exact ih5  z44 z43  _ _ _ (by omega) (by omega) hf48  (by omega) h (lv_sub hl [0, 1, 4, 5, 6, 7, 8] rfl)
            · have hc28 : ¬ (n).toInt ≤ (L14).toInt := i_nle hc28 rfl rfl
              refine lv_iload_n hx hb dX9_kindsBy_25 rfl (lv_at hl 6 rfl) ?_
              refine lv_iconst (v := 4) hx hb dX9_kindsBy_26 (by decide) ?_
              refine lv_iload hx hb dX9_kindsBy_27 (lv_at hl 0 rfl) ?_
              obtain ⟨z51, e49, t50⟩ := x_mul (x := (4 : Int32)) (y := L14) (a := 4) (b := (L14).toInt) rfl rfl (by omega) (by omega)
              refine o_imul (z := z51) hx hb dX9_kindsBy_29 e49 ?_
              obtain ⟨z54, e52, t53⟩ := x_add (x := (65 : Int32)) (y := z51) (a := 65) (b := (z51).toInt) rfl rfl (by omega) (by omega)
              have n55 : z54.toNatClampNeg = 65 + z51.toNatClampNeg := cl_addn (x := (65 : Int32)) (y := z51) rfl rfl t53 (by decide) (by omega)
              refine o_iadd (z := z54) hx hb dX9_kindsBy_30 e52 ?_
              refine lv_istore (lv' := [(9, .int z54), (8, .int L14), (7, .int L15), (6, .int L1), (5, .int L2), (0, .ref (ad 64)), (1, .int i), (2, .int 65), (3, .int n), (4, .int 0)]) hx hb dX9_kindsBy_31 hl (by decide) rfl (fun ls hl => ?_)
              refine lv_iload hx hb dX9_kindsBy_33 (lv_at hl 9 rfl) ?_
              refine lv_if_eq (tgt := 64) hx hb dX9_kindsBy_35 (by decide) (fun _ => ?_) (fun hc => absurd (by decide) hc)
              refine lv_iload hx hb dX9_kindsBy_64 (lv_at hl 3 rfl) ?_
              refine lv_aload_n hx hb dX9_kindsBy_66 rfl (lv_at hl 5 rfl) ?_
              obtain ⟨x57, x58, t59, t60, t61, t62, t63, t64, f56, h65, h66⟩ := (show sM ad (w 64) from ok 64 (by decide))
              have f67 : w 64 = .inr (7, [.ref (ad 65), .ref (ad 66), .ref (ad 67), .ref (ad 68), .long x57, .long x58, .ref (ad 69), .int t59, .ref (ad 70), .ref (ad 71), .int t60, .int t61, .int t62, .int t63, .int t64, .ref (ad 72), .ref (ad 73)]) := f56
              refine r_get kc9 X h 64 0 (by decide) rfl f67 (by decide) kv_467 rfl dX9_kindsBy_67 ?_
              refine lv_iload hx hb dX9_kindsBy_70 (lv_at hl 0 rfl) ?_
              refine lv_iconst (v := 1) hx hb dX9_kindsBy_72 (by decide) ?_
              obtain ⟨z70, e68, t69⟩ := x_add (x := z54) (y := (1 : Int32)) (a := (z54).toInt) (b := 1) rfl rfl (by omega) (by omega)
              have n71 : z70.toNatClampNeg = 65 + z51.toNatClampNeg + 1 := cl_addn (x := z54) (y := (1 : Int32)) n55 rfl t69 (by omega) (by decide)
              refine o_iadd (z := z70) hx hb dX9_kindsBy_73 e68 ?_
              obtain ⟨v72, e73⟩ : ∃ z : Int32, f (65 + z51.toNatClampNeg + 1) = z := ⟨_, rfl⟩
              refine o_iald (v := v72) X h 65 0 (by decide) rfl pf rfl (in_of (by omega) (by omega)) (by rw [n71]; exact e73) dX9_kindsBy_74 ?_
              refine lv_aload_n hx hb dX9_kindsBy_75 rfl (lv_at hl 5 rfl) ?_
              refine r_get kc9 X h 64 0 (by decide) rfl f67 (by decide) kv_467 rfl dX9_kindsBy_76 ?_
              refine lv_iload hx hb dX9_kindsBy_79 (lv_at hl 0 rfl) ?_
              refine lv_iconst (v := 2) hx hb dX9_kindsBy_81 (by decide) ?_
              obtain ⟨z77, e75, t76⟩ := x_add (x := z54) (y := (2 : Int32)) (a := (z54).toInt) (b := 2) rfl rfl (by omega) (by omega)
              have n78 : z77.toNatClampNeg = 65 + z51.toNatClampNeg + 2 := cl_addn (x := z54) (y := (2 : Int32)) n55 rfl t76 (by omega) (by decide)
              refine o_iadd (z := z77) hx hb dX9_kindsBy_82 e75 ?_
              obtain ⟨v79, e80⟩ : ∃ z : Int32, f (65 + z51.toNatClampNeg + 2) = z := ⟨_, rfl⟩
              refine o_iald (v := v79) X h 65 0 (by decide) rfl pf rfl (in_of (by omega) (by omega)) (by rw [n78]; exact e80) dX9_kindsBy_83 ?_
              refine n_Si (na := 3) (As := [.int L1, .int v72, .int v79]) (rest := []) X hD hN h (c_MF_losesAs l G cI cB cZ cO ad w   L1 v72 v79  ) ⟨kv_480, kv_481, kv_470, kv_482⟩ ⟨by decide, by decide, by decide⟩ ⟨Nat.le_of_ble_eq_true rfl, Nat.le_of_ble_eq_true rfl⟩ ⟨Nat.zero_le _, Nat.zero_le _⟩ rfl hl.1 rfl (Nat.le_of_ble_eq_true rfl) dX9_kindsBy_84 (fun r82 w83 H locs hp84 h => ?_)
              obtain ⟨rfl, hr85⟩ := hp84
              refine lv_istore (lv' := [(10, .int r82), (9, .int z54), (8, .int L14), (7, .int L15), (6, .int L1), (5, .int L2), (0, .ref (ad 64)), (1, .int i), (2, .int 65), (3, .int n), (4, .int 0)]) hx hb dX9_kindsBy_87 hl (by decide) rfl (fun ls hl => ?_)
              refine lv_iload hx hb dX9_kindsBy_89 (lv_at hl 3 rfl) ?_
              refine lv_if_eq (tgt := 123) hx hb dX9_kindsBy_91 (by decide) (fun hc86 => ?_) (fun hc86 => ?_)
              · have hc86 : (L15).toInt = 0 := i_eq hc86 rfl rfl
                refine lv_iconst (v := 0) hx hb dX9_kindsBy_123 (by decide) ?_
                refine lv_istore (lv' := [(7, .int 0), (10, .int r82), (9, .int z54), (8, .int L14), (6, .int L1), (5, .int L2), (0, .ref (ad 64)), (1, .int i), (2, .int 65), (3, .int n), (4, .int 0)]) hx hb dX9_kindsBy_124 hl (by decide) rfl (fun ls hl => ?_)
                obtain ⟨z87, e88, t89⟩ := x_add (x := L14) (y := 1) (a := L14.toInt) (b := 1) rfl rfl (by omega) (by omega)
                have n90 : z87.toNatClampNeg = L14.toNatClampNeg + 1 := cl_addn (x := L14) (y := 1) rfl rfl t89 (by omega) (by decide)
                refine lv_iinc (v := z87) (lv' := [(8, .int z87), (7, .int 0), (10, .int r82), (9, .int z54), (6, .int L1), (5, .int L2), (0, .ref (ad 64)), (1, .int i), (2, .int 65), (3, .int n), (4, .int 0)]) hx hb dX9_kindsBy_126 hl (k := 3) rfl e88 (by decide) rfl (fun ls hl => ?_)
                refine lv_goto (tgt := 19) hx hb dX9_kindsBy_129 (by decide) ?_
                have ca93 := cl_of (x := L14) (by omega)
                have cb94 := cl_of (x := z54) (by omega)
                have ae95 : 65 + z51.toNatClampNeg = 65 + (4 * L14.toNatClampNeg) := by omega
                have ae96 : 65 + z51.toNatClampNeg + 1 = 65 + (4 * L14.toNatClampNeg + 1) := by omega
                have ae97 : 65 + z51.toNatClampNeg + 2 = 65 + (4 * L14.toNatClampNeg + 2) := by omega
                have ae98 : 65 + z51.toNatClampNeg + 3 = 65 + (4 * L14.toNatClampNeg + 3) := by omega
                have cn92 := cl_of (x := n) (by omega)
                have hso91 : (((0 : Int32)).toInt = 1 ∧ agU 1 (fun j9 => f (65 + j9)) z87.toNatClampNeg i L1) ∨ (((0 : Int32)).toInt = 0 ∧ ¬ agP 1 (fun j9 => f (65 + j9)) n.toNatClampNeg i L1) := by
                  rw [n90]
                  rcases hi25 with ⟨s1, s2⟩ | ⟨s1, s2⟩
                  · exfalso; omega
                  · exact Or.inr ⟨by decide, s2⟩
                exact ih18  z87 (0 : Int32)  _ _ _ (by have q0 : (0 : Int32).toInt = 0 := rfl; omega) (by have q0 : (0 : Int32).toInt = 0 := rfl; omega) (by have q0 : (0 : Int32).toInt = 0 := rfl; omega) (by have q0 : (0 : Int32).toInt = 0 := rfl; omega) (by have q0 : (0 : Int32).toInt = 0 := rfl; omega) hso91  (by have q0 : (0 : Int32).toInt = 0 := rfl; omega) h (lv_sub hl [0, 1, 4, 5, 6, 7, 8, 9, 10] rfl)
              · have hc86 : ¬ (L15).toInt = 0 := i_ne hc86 rfl rfl
                refine lv_aload_n hx hb dX9_kindsBy_94 rfl (lv_at hl 6 rfl) ?_
                refine r_get kc9 X h 64 0 (by decide) rfl f67 (by decide) kv_467 rfl dX9_kindsBy_95 ?_
                refine lv_iload hx hb dX9_kindsBy_98 (lv_at hl 1 rfl) ?_
                obtain ⟨v99, e100⟩ : ∃ z : Int32, f (65 + z51.toNatClampNeg) = z := ⟨_, rfl⟩
                refine o_iald (v := v99) X h 65 0 (by decide) rfl pf rfl (in_of (by omega) (by omega)) (by rw [n55]; exact e100) dX9_kindsBy_100 ?_
                refine lv_iload_n hx hb dX9_kindsBy_101 rfl (lv_at hl 7 rfl) ?_
                refine lv_icmp_ne (tgt := 119) hx hb dX9_kindsBy_102 (by decide) (fun hc102 => ?_) (fun hc102 => ?_)
                · have hc102 : ¬ (v99).toInt = (i).toInt := i_ne hc102 rfl rfl
                  refine lv_iconst (v := 1) hx hb dX9_kindsBy_119 (by decide) ?_
                  refine lv_goto (tgt := 124) hx hb dX9_kindsBy_120 (by decide) ?_
                  refine lv_istore (lv' := [(7, .int 1), (10, .int r82), (9, .int z54), (8, .int L14), (6, .int L1), (5, .int L2), (0, .ref (ad 64)), (1, .int i), (2, .int 65), (3, .int n), (4, .int 0)]) hx hb dX9_kindsBy_124 hl (by decide) rfl (fun ls hl => ?_)
                  obtain ⟨z103, e104, t105⟩ := x_add (x := L14) (y := 1) (a := L14.toInt) (b := 1) rfl rfl (by omega) (by omega)
                  have n106 : z103.toNatClampNeg = L14.toNatClampNeg + 1 := cl_addn (x := L14) (y := 1) rfl rfl t105 (by omega) (by decide)
                  refine lv_iinc (v := z103) (lv' := [(8, .int z103), (7, .int 1), (10, .int r82), (9, .int z54), (6, .int L1), (5, .int L2), (0, .ref (ad 64)), (1, .int i), (2, .int 65), (3, .int n), (4, .int 0)]) hx hb dX9_kindsBy_126 hl (k := 3) rfl e104 (by decide) rfl (fun ls hl => ?_)
                  refine lv_goto (tgt := 19) hx hb dX9_kindsBy_129 (by decide) ?_
                  have ca109 := cl_of (x := L14) (by omega)
                  have cb110 := cl_of (x := z54) (by omega)
                  have ae111 : 65 + z51.toNatClampNeg = 65 + (4 * L14.toNatClampNeg) := by omega
                  have ae112 : 65 + z51.toNatClampNeg + 1 = 65 + (4 * L14.toNatClampNeg + 1) := by omega
                  have ae113 : 65 + z51.toNatClampNeg + 2 = 65 + (4 * L14.toNatClampNeg + 2) := by omega
                  have ae114 : 65 + z51.toNatClampNeg + 3 = 65 + (4 * L14.toNatClampNeg + 3) := by omega
                  have cn108 := cl_of (x := n) (by omega)
                  have hso107 : (((1 : Int32)).toInt = 1 ∧ agU 1 (fun j9 => f (65 + j9)) z103.toNatClampNeg i L1) ∨ (((1 : Int32)).toInt = 0 ∧ ¬ agP 1 (fun j9 => f (65 + j9)) n.toNatClampNeg i L1) := by
                    rw [n106]
                    rcases hi25 with ⟨s1, s2⟩ | ⟨s1, s2⟩
                    · exact Or.inl ⟨by decide, s2.skip (v := v99) (by show f (65 + (4 * L14.toNatClampNeg)) = _; rw [← ae111]; exact e100) (by omega)⟩
                    · exfalso; omega
                  exact ih18  z103 (1 : Int32)  _ _ _ (by have q0 : (1 : Int32).toInt = 1 := rfl; omega) (by have q0 : (1 : Int32).toInt = 1 := rfl; omega) (by have q0 : (1 : Int32).toInt = 1 := rfl; omega) (by have q0 : (1 : Int32).toInt = 1 := rfl; omega) (by have q0 : (1 : Int32).toInt = 1 := rfl; omega) hso107  (by have q0 : (1 : Int32).toInt = 1 := rfl; omega) h (lv_sub hl [0, 1, 4, 5, 6, 7, 8, 9, 10] rfl)
                · have hc102 : (v99).toInt = (i).toInt := i_eq hc102 rfl rfl
                  refine lv_iload hx hb dX9_kindsBy_105 (lv_at hl 0 rfl) ?_
                  refine lv_aload_n hx hb dX9_kindsBy_107 rfl (lv_at hl 6 rfl) ?_
                  refine r_get kc9 X h 64 0 (by decide) rfl f67 (by decide) kv_467 rfl dX9_kindsBy_108 ?_
                  refine lv_iload hx hb dX9_kindsBy_111 (lv_at hl 1 rfl) ?_
                  refine lv_iconst (v := 3) hx hb dX9_kindsBy_113 (by decide) ?_
                  obtain ⟨z117, e115, t116⟩ := x_add (x := z54) (y := (3 : Int32)) (a := (z54).toInt) (b := 3) rfl rfl (by omega) (by omega)
                  have n118 : z117.toNatClampNeg = 65 + z51.toNatClampNeg + 3 := cl_addn (x := z54) (y := (3 : Int32)) n55 rfl t116 (by omega) (by decide)
                  refine o_iadd (z := z117) hx hb dX9_kindsBy_114 e115 ?_
                  obtain ⟨v119, e120⟩ : ∃ z : Int32, f (65 + z51.toNatClampNeg + 3) = z := ⟨_, rfl⟩
                  refine o_iald (v := v119) X h 65 0 (by decide) rfl pf rfl (in_of (by omega) (by omega)) (by rw [n118]; exact e120) dX9_kindsBy_115 ?_
                  refine lv_icmp_ne (tgt := 123) hx hb dX9_kindsBy_116 (by decide) (fun hc122 => ?_) (fun hc122 => ?_)
                  · have hc122 : ¬ (r82).toInt = (v119).toInt := i_ne hc122 rfl rfl
                    refine lv_iconst (v := 0) hx hb dX9_kindsBy_123 (by decide) ?_
                    refine lv_istore (lv' := [(7, .int 0), (10, .int r82), (9, .int z54), (8, .int L14), (6, .int L1), (5, .int L2), (0, .ref (ad 64)), (1, .int i), (2, .int 65), (3, .int n), (4, .int 0)]) hx hb dX9_kindsBy_124 hl (by decide) rfl (fun ls hl => ?_)
                    obtain ⟨z123, e124, t125⟩ := x_add (x := L14) (y := 1) (a := L14.toInt) (b := 1) rfl rfl (by omega) (by omega)
                    have n126 : z123.toNatClampNeg = L14.toNatClampNeg + 1 := cl_addn (x := L14) (y := 1) rfl rfl t125 (by omega) (by decide)
                    refine lv_iinc (v := z123) (lv' := [(8, .int z123), (7, .int 0), (10, .int r82), (9, .int z54), (6, .int L1), (5, .int L2), (0, .ref (ad 64)), (1, .int i), (2, .int 65), (3, .int n), (4, .int 0)]) hx hb dX9_kindsBy_126 hl (k := 3) rfl e124 (by decide) rfl (fun ls hl => ?_)
                    refine lv_goto (tgt := 19) hx hb dX9_kindsBy_129 (by decide) ?_
                    have ca129 := cl_of (x := L14) (by omega)
                    have cb130 := cl_of (x := z54) (by omega)
                    have ae131 : 65 + z51.toNatClampNeg = 65 + (4 * L14.toNatClampNeg) := by omega
                    have ae132 : 65 + z51.toNatClampNeg + 1 = 65 + (4 * L14.toNatClampNeg + 1) := by omega
                    have ae133 : 65 + z51.toNatClampNeg + 2 = 65 + (4 * L14.toNatClampNeg + 2) := by omega
                    have ae134 : 65 + z51.toNatClampNeg + 3 = 65 + (4 * L14.toNatClampNeg + 3) := by omega
                    have cn128 := cl_of (x := n) (by omega)
                    have hso127 : (((0 : Int32)).toInt = 1 ∧ agU 1 (fun j9 => f (65 + j9)) z123.toNatClampNeg i L1) ∨ (((0 : Int32)).toInt = 0 ∧ ¬ agP 1 (fun j9 => f (65 + j9)) n.toNatClampNeg i L1) := by
                      rw [n126]
                      exact Or.inr ⟨by decide, agP_not (m := L14.toNatClampNeg) (v := v99) (a := v72) (b := v79) (x := v119) (y := r82) (by omega) (by show f (65 + (4 * L14.toNatClampNeg)) = _; rw [← ae131]; exact e100) (by omega) (by show f (65 + (4 * L14.toNatClampNeg + 1)) = _; rw [← ae132]; exact e73) (by show f (65 + (4 * L14.toNatClampNeg + 2)) = _; rw [← ae133]; exact e80) (by show f (65 + (4 * L14.toNatClampNeg + 3)) = _; rw [← ae134]; exact e120) (by unfold sayF; rw [if_neg (by decide)]; exact hr85) (by omega)⟩
                    exact ih18  z123 (0 : Int32)  _ _ _ (by have q0 : (0 : Int32).toInt = 0 := rfl; omega) (by have q0 : (0 : Int32).toInt = 0 := rfl; omega) (by have q0 : (0 : Int32).toInt = 0 := rfl; omega) (by have q0 : (0 : Int32).toInt = 0 := rfl; omega) (by have q0 : (0 : Int32).toInt = 0 := rfl; omega) hso127  (by have q0 : (0 : Int32).toInt = 0 := rfl; omega) h (lv_sub hl [0, 1, 4, 5, 6, 7, 8, 9, 10] rfl)
                  · have hc122 : (r82).toInt = (v119).toInt := i_eq hc122 rfl rfl
                    refine lv_iconst (v := 1) hx hb dX9_kindsBy_119 (by decide) ?_
                    refine lv_goto (tgt := 124) hx hb dX9_kindsBy_120 (by decide) ?_
                    refine lv_istore (lv' := [(7, .int 1), (10, .int r82), (9, .int z54), (8, .int L14), (6, .int L1), (5, .int L2), (0, .ref (ad 64)), (1, .int i), (2, .int 65), (3, .int n), (4, .int 0)]) hx hb dX9_kindsBy_124 hl (by decide) rfl (fun ls hl => ?_)
                    obtain ⟨z135, e136, t137⟩ := x_add (x := L14) (y := 1) (a := L14.toInt) (b := 1) rfl rfl (by omega) (by omega)
                    have n138 : z135.toNatClampNeg = L14.toNatClampNeg + 1 := cl_addn (x := L14) (y := 1) rfl rfl t137 (by omega) (by decide)
                    refine lv_iinc (v := z135) (lv' := [(8, .int z135), (7, .int 1), (10, .int r82), (9, .int z54), (6, .int L1), (5, .int L2), (0, .ref (ad 64)), (1, .int i), (2, .int 65), (3, .int n), (4, .int 0)]) hx hb dX9_kindsBy_126 hl (k := 3) rfl e136 (by decide) rfl (fun ls hl => ?_)
                    refine lv_goto (tgt := 19) hx hb dX9_kindsBy_129 (by decide) ?_
                    have ca141 := cl_of (x := L14) (by omega)
                    have cb142 := cl_of (x := z54) (by omega)
                    have ae143 : 65 + z51.toNatClampNeg = 65 + (4 * L14.toNatClampNeg) := by omega
                    have ae144 : 65 + z51.toNatClampNeg + 1 = 65 + (4 * L14.toNatClampNeg + 1) := by omega
                    have ae145 : 65 + z51.toNatClampNeg + 2 = 65 + (4 * L14.toNatClampNeg + 2) := by omega
                    have ae146 : 65 + z51.toNatClampNeg + 3 = 65 + (4 * L14.toNatClampNeg + 3) := by omega
                    have cn140 := cl_of (x := n) (by omega)
                    have hso139 : (((1 : Int32)).toInt = 1 ∧ agU 1 (fun j9 => f (65 + j9)) z135.toNatClampNeg i L1) ∨ (((1 : Int32)).toInt = 0 ∧ ¬ agP 1 (fun j9 => f (65 + j9)) n.toNatClampNeg i L1) := by
                      rw [n138]
                      rcases hi25 with ⟨s1, s2⟩ | ⟨s1, s2⟩
                      · exact Or.inl ⟨by decide, s2.go (a := v72) (b := v79) (x := v119) (y := r82) (by show f (65 + (4 * L14.toNatClampNeg + 1)) = _; rw [← ae144]; exact e73) (by show f (65 + (4 * L14.toNatClampNeg + 2)) = _; rw [← ae145]; exact e80) (by show f (65 + (4 * L14.toNatClampNeg + 3)) = _; rw [← ae146]; exact e120) (by unfold sayF; rw [if_neg (by decide)]; exact hr85) (by omega)⟩
                      · exfalso; omega
                    exact ih18  z135 (1 : Int32)  _ _ _ (by have q0 : (1 : Int32).toInt = 1 := rfl; omega) (by have q0 : (1 : Int32).toInt = 1 := rfl; omega) (by have q0 : (1 : Int32).toInt = 1 := rfl; omega) (by have q0 : (1 : Int32).toInt = 1 := rfl; omega) (by have q0 : (1 : Int32).toInt = 1 := rfl; omega) hso139  (by have q0 : (1 : Int32).toInt = 1 := rfl; omega) h (lv_sub hl [0, 1, 4, 5, 6, 7, 8, 9, 10] rfl)
        exact hloop16 7 (0 : Int32) (1 : Int32)  _ _ _ (by have q0 : (0 : Int32).toInt = 0 := rfl; have q1 : (1 : Int32).toInt = 1 := rfl; omega) (by have q0 : (0 : Int32).toInt = 0 := rfl; have q1 : (1 : Int32).toInt = 1 := rfl; omega) (by have q0 : (0 : Int32).toInt = 0 := rfl; have q1 : (1 : Int32).toInt = 1 := rfl; omega) (by have q0 : (0 : Int32).toInt = 0 := rfl; have q1 : (1 : Int32).toInt = 1 := rfl; omega) (by have q0 : (0 : Int32).toInt = 0 := rfl; have q1 : (1 : Int32).toInt = 1 := rfl; omega) (Or.inl ⟨by decide, agU.nil⟩)  (by have q0 : (0 : Int32).toInt = 0 := rfl; have q1 : (1 : Int32).toInt = 1 := rfl; omega) h (lv_sub hl [0, 1, 2, 3, 4, 5, 6, 7, 8] rfl)
  exact hloop3 7 (0 : Int32) (0 : Int32)  _ _ _ (by have q0 : (0 : Int32).toInt = 0 := rfl; omega) (by have q0 : (0 : Int32).toInt = 0 := rfl; omega) (show fitN (fun k9 => agP 1 (fun j9 => f (65 + j9)) n.toNatClampNeg i (nI k9)) 0 = (0 : Int32) from rfl)  (by have q0 : (0 : Int32).toInt = 0 := rfl; omega) h (lv_sub hl [0, 1, 2, 3, 4, 5, 6] rfl)

set_option maxHeartbeats 4000000 in
set_option maxRecDepth 100000 in
theorem c_MF_kindsOfJar (l : Launch) (G : va_G) (cI cB cZ cO : ClassId) (ad : Nat → Nat) (w : Nat → va_E) (f : Nat → Int32) (ok : OK cI cB cZ cO ad w) (i : Int32)  (pf : w 65 = .inl (cI, 177, .inl f)) (pal : alA f) : NI l G (tyq cI cB cZ cO) yX9_kindsOfJar cX9_kindsOfJar 2 (some .int) 2 55 74 ad w [.ref (ad 64), .int i] (fun r w1 => w = w1 ∧ fitN (fun k9 => agP 1 (fun j9 => f (65 + j9)) (f 3).toNatClampNeg i (nI k9)) 6 = r) := by
  refine nk_i (own := "NoonShadeModel") rfl (by decide) (Nat.le_of_ble_eq_true rfl) ?_
  intro p e s m below meth c ls X hD hN hr hlk h hl
  have hx := X.1.1
  have hb := X.1.2.1
  have hown := X.1.2.2.2.1
  have hts := X.1.2.2.2.2
  have hl : lv_has ls 2 [(0, .ref (ad 64)), (1, .int i)] := hl
  obtain ⟨v3, ev3⟩ : ∃ z : Int32, f 3 = z := ⟨_, rfl⟩
  have hv3 := (alA_rd pal ev3).2.2.2.1 rfl
  have hw3 := congrArg Int32.toInt ev3
  refine lv_aload_n hx hb dX9_kindsOfJar_0 rfl (lv_at hl 0 rfl) ?_
  refine lv_iload_n hx hb dX9_kindsOfJar_1 rfl (lv_at hl 1 rfl) ?_
  refine lv_bipush (v := 65) hx hb dX9_kindsOfJar_2 (by decide) ?_
  refine lv_aload_n hx hb dX9_kindsOfJar_4 rfl (lv_at hl 0 rfl) ?_
  obtain ⟨x2, x3, t4, t5, t6, t7, t8, t9, f1, h10, h11⟩ := (show sM ad (w 64) from ok 64 (by decide))
  have f12 : w 64 = .inr (7, [.ref (ad 65), .ref (ad 66), .ref (ad 67), .ref (ad 68), .long x2, .long x3, .ref (ad 69), .int t4, .ref (ad 70), .ref (ad 71), .int t5, .int t6, .int t7, .int t8, .int t9, .ref (ad 72), .ref (ad 73)]) := f1
  refine r_get kc9 X h 64 0 (by decide) rfl f12 (by decide) kv_467 rfl dX9_kindsOfJar_5 ?_
  refine lv_iconst (v := 3) hx hb dX9_kindsOfJar_8 (by decide) ?_
  refine o_iald (v := v3) X h 65 0 (by decide) rfl pf rfl (by unfold vp_in; decide) ev3 dX9_kindsOfJar_9 ?_
  refine lv_iconst (v := 0) hx hb dX9_kindsOfJar_10 (by decide) ?_
  refine n_Vi (na := 4) (As := [.int i, .int 65, .int v3, .int 0]) (rest := []) X hD hN h rfl (c_MF_kindsBy1 l G cI cB cZ cO ad w f ok i v3 (by omega) (by omega) pf pal) ⟨kv_514, kv_515, kv_516, kv_470, kv_517⟩ rfl ⟨by decide, by decide, by decide⟩ ⟨Nat.le_of_ble_eq_true rfl, Nat.le_of_ble_eq_true rfl⟩ ⟨Nat.zero_le _, Nat.zero_le _⟩ (by decide) f12 rfl rfl hl.1 rfl (Nat.le_of_ble_eq_true rfl) dX9_kindsOfJar_11 (fun r13 w14 H locs hp15 h => ?_)
  obtain ⟨rfl, hr16⟩ := hp15
  exact e_i X h hr hlk dX9_kindsOfJar_14 ⟨rfl, (by rw [ev3]; exact hr16)⟩

set_option maxHeartbeats 4000000 in
set_option maxRecDepth 100000 in
theorem c_MF_kinds (l : Launch) (G : va_G) (cI cB cZ cO : ClassId) (ad : Nat → Nat) (w : Nat → va_E) (f : Nat → Int32) (ok : OK cI cB cZ cO ad w) (i : Int32)  (pf : w 65 = .inl (cI, 177, .inl f)) (pal : alA f) : NI l G (tyq cI cB cZ cO) yX9_kinds cX9_kinds 2 (some .int) 3 76 74 ad w [.ref (ad 64), .int i] (fun r w1 => OK cI cB cZ cO ad w1 ∧ KM w w1 ∧ (((0 ≤ i.toInt ∧ i.toInt < (f 1).toInt) ∧ fitN (fun k9 => agP 1 (fun j9 => f (65 + j9)) (f 3).toNatClampNeg i (nI k9)) 6 = r) ∨ (¬ (0 ≤ i.toInt ∧ i.toInt < (f 1).toInt) ∧ r = -2))) := by
  refine nk_i (own := "NoonShadeModel") rfl (by decide) (Nat.le_of_ble_eq_true rfl) ?_
  intro p e s m below meth c ls X hD hN hr hlk h hl
  have hx := X.1.1
  have hb := X.1.2.1
  have hown := X.1.2.2.2.1
  have hts := X.1.2.2.2.2
  have hl : lv_has ls 2 [(0, .ref (ad 64)), (1, .int i)] := hl
  obtain ⟨v1, ev1⟩ : ∃ z : Int32, f 1 = z := ⟨_, rfl⟩
  have hv1 := (alA_rd pal ev1).2.1 rfl
  have hw1 := congrArg Int32.toInt ev1
  refine lv_aload_n hx hb dX9_kinds_0 rfl (lv_at hl 0 rfl) ?_
  refine lv_iload_n hx hb dX9_kinds_1 rfl (lv_at hl 1 rfl) ?_
  obtain ⟨x5, x6, t7, t8, t9, t10, t11, t12, f4, h13, h14⟩ := (show sM ad (w 64) from ok 64 (by decide))
  have f15 : w 64 = .inr (7, [.ref (ad 65), .ref (ad 66), .ref (ad 67), .ref (ad 68), .long x5, .long x6, .ref (ad 69), .int t7, .ref (ad 70), .ref (ad 71), .int t8, .int t9, .int t10, .int t11, .int t12, .ref (ad 72), .ref (ad 73)]) := f4
  refine n_Vi (na := 1) (As := [.int i]) (rest := []) X hD hN h rfl (c_MF_isJar l G cI cB cZ cO ad w f ok i  pf pal) ⟨kv_541, kv_542, kv_543, kv_470, kv_544⟩ rfl ⟨by decide, by decide, by decide⟩ ⟨Nat.le_of_ble_eq_true rfl, Nat.le_of_ble_eq_true rfl⟩ ⟨Nat.zero_le _, Nat.zero_le _⟩ (by decide) f15 rfl rfl hl.1 rfl (Nat.le_of_ble_eq_true rfl) dX9_kinds_2 (fun r1 w2 H locs hp3 h => ?_)
  obtain ⟨rfl, hr16⟩ := hp3
  rcases hr16 with ⟨hq17, hq18, rfl⟩ | ⟨hq19, rfl⟩
  · refine lv_if_eq (tgt := 16) hx hb dX9_kinds_5 (by decide) (fun hc => absurd hc (by decide)) (fun _ => ?_)
    refine lv_aload_n hx hb dX9_kinds_8 rfl (lv_at hl 0 rfl) ?_
    refine lv_iload_n hx hb dX9_kinds_9 rfl (lv_at hl 1 rfl) ?_
    refine n_Vi (na := 1) (As := [.int i]) (rest := []) X hD hN h rfl (c_MF_kindsOfJar l G cI cB cZ cO ad w f ok i pf pal) ⟨kv_592, kv_593, kv_594, kv_470, kv_595⟩ rfl ⟨by decide, by decide, by decide⟩ ⟨Nat.le_of_ble_eq_true rfl, Nat.le_of_ble_eq_true rfl⟩ ⟨Nat.zero_le _, Nat.zero_le _⟩ (by decide) f15 rfl rfl hl.1 rfl (Nat.le_of_ble_eq_true rfl) dX9_kinds_10 (fun r20 w21 H locs hp22 h => ?_)
    obtain ⟨rfl, hr23⟩ := hp22
    refine lv_goto (tgt := 22) hx hb dX9_kinds_13 (by decide) ?_
    exact e_i X h hr hlk dX9_kinds_22 ⟨ok, KM.rf, Or.inl ⟨by omega, hr23⟩⟩
  · refine lv_if_eq (tgt := 16) hx hb dX9_kinds_5 (by decide) (fun _ => ?_) (fun hc => absurd (by decide) hc)
    refine lv_aload_n hx hb dX9_kinds_16 rfl (lv_at hl 0 rfl) ?_
    refine lv_bipush (v := (-2)) hx hb dX9_kinds_17 (by decide) ?_
    refine n_Vi (na := 1) (As := [.int (-2)]) (rest := []) X hD hN h rfl (c_M_bad l G cI cB cZ cO ad w  ok ((-2) : Int32)  ) ⟨kv_553, kv_554, kv_555, kv_470, kv_556⟩ rfl ⟨by decide, by decide, by decide⟩ ⟨Nat.le_of_ble_eq_true rfl, Nat.le_of_ble_eq_true rfl⟩ ⟨Nat.zero_le _, Nat.zero_le _⟩ (by decide) f15 rfl rfl hl.1 rfl (Nat.le_of_ble_eq_true rfl) dX9_kinds_19 (fun r24 w25 H locs hp26 h => ?_)
    have kM27 : KM w w25 := hp26.2.1
    obtain ⟨ok30, kk31, hr29⟩ := hp26
    have kx32 : KM w w25 := kk31
    subst hr29
    exact e_i X h hr hlk dX9_kinds_22 ⟨ok30, kx32, Or.inr ⟨by omega, rfl⟩⟩

