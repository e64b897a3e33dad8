set_option maxHeartbeats 4000000 in
set_option maxRecDepth 100000 in
theorem c_F_look (l : Launch) (G : va_G) (cI cB cZ cO : ClassId) (ad : Nat → Nat) (w : Nat → va_E) (ho so mi ca ja : Int32) (nz : Int32) (nc : Nat → Int32) (hh : Nat → Int32) (ok : OK cI cB cZ cO ad w) (i : Int32)  (n_1 : w 1 = .inr (1, [.int ho, .int so, .int mi, .int ca, .int ja, .ref (ad 2), .ref (ad 3), .ref (ad 4), .ref (ad 5), .ref (ad 6), .ref (ad 7), .ref (ad 8), .ref (ad 10), .ref (ad 12)])) (n_8 : w 8 = .inr (4, [.ref (ad 9), .int nz])) (n_9 : w 9 = .inl (cI, 24, .inl nc)) (n_3 : w 3 = .inl (cI, 7, .inl hh)) (hrn : rgA 0 9 hh) (hz0 : 0 ≤ nz.toInt) (hz1 : nz.toInt ≤ 6) (hNR : NRG 9 nz nc) (hca : 0 ≤ ca.toInt ∧ ca.toInt ≤ 7) (hja : 0 ≤ ja.toInt ∧ ja.toInt ≤ 4) : NI l G (tyq cI cB cZ cO) yX8_look cX8_look 4 (some .int) 5 125 74 ad w [.ref (ad 0), .int i] (fun r w1 => OK cI cB cZ cO ad w1 ∧ KX w w1 ∧ (((0 ≤ i.toInt ∧ i.toInt < ca.toInt) ∧ LKP (fitN (fun k9 => agP 0 nc nz.toNatClampNeg i (nI k9)) 6) (hh i.toNatClampNeg).toNatClampNeg r) ∨ (¬ (0 ≤ i.toInt ∧ i.toInt < ca.toInt) ∧ r = -2))) := by
  refine nk_i (own := "NoonShade") rfl (by decide) (Nat.le_of_ble_eq_true rfl) ?_
  intro p e s m below meth c ls X hD hN hr hlk h hl
  have hx := X.1.1
  have hb := X.1.2.1
  have hown := X.1.2.2.2.1
  have hts := X.1.2.2.2.2
  have hl : lv_has ls 4 [(0, .ref (ad 0)), (1, .int i)] := hl
  refine lv_aload_n hx hb dX8_look_0 rfl (lv_at hl 0 rfl) ?_
  obtain ⟨x2, x3, q4, q5, q6, f1⟩ := (show sN ad (w 0) from ok 0 (by decide))
  have f7 : w 0 = .inr (6, [.ref (ad 1), .ref (ad 14), .ref (ad 27), .ref (ad 54), .ref (ad 55), .ref (ad 58), .ref (ad 62), .long x2, .long x3, .int q4, .int q5, .int q6]) := f1
  refine r_get kc8 X h 0 0 (by decide) rfl f7 (by decide) kv_172 rfl dX8_look_1 ?_
  refine lv_iload_n hx hb dX8_look_4 rfl (lv_at hl 1 rfl) ?_
  refine n_Vi (na := 1) (As := [.int i]) (rest := []) X hD hN h rfl (c_F1_hasCaster l G cI cB cZ cO ad w ho so mi ca ja  i  n_1) ⟨kv_219, kv_220, kv_221, kv_37, kv_222⟩ rfl ⟨by decide, by decide, by decide⟩ ⟨Nat.le_of_ble_eq_true rfl, Nat.le_of_ble_eq_true rfl⟩ ⟨Nat.zero_le _, Nat.zero_le _⟩ (by decide) n_1 rfl rfl hl.1 rfl (Nat.le_of_ble_eq_true rfl) dX8_look_5 (fun r8 w9 H locs hp10 h => ?_)
  obtain ⟨rfl, hr11⟩ := hp10
  rcases hr11 with ⟨hq12, hq13, rfl⟩ | ⟨hq14, rfl⟩
  · refine lv_if_ne (tgt := 18) hx hb dX8_look_8 (by decide) (fun _ => ?_) (fun hc => absurd hc (by decide))
    refine lv_aload_n hx hb dX8_look_18 rfl (lv_at hl 0 rfl) ?_
    refine r_get kc8 X h 0 6 (by decide) rfl f7 (by decide) kv_280 rfl dX8_look_19 ?_
    refine lv_iconst (v := 0) hx hb dX8_look_22 (by decide) ?_
    refine lv_aload_n hx hb dX8_look_23 rfl (lv_at hl 0 rfl) ?_
    refine r_get kc8 X h 0 0 (by decide) rfl f7 (by decide) kv_172 rfl dX8_look_24 ?_
    refine r_get kc2 X h 1 11 (by decide) rfl n_1 (by decide) kv_186 rfl dX8_look_27 ?_
    refine lv_iload_n hx hb dX8_look_30 rfl (lv_at hl 1 rfl) ?_
    have f18 : w 62 = .inr (0, [.ref (ad 63)]) := ok 62 (by decide)
    have f19 : w 62 = .inr (0, [.ref (ad 63)]) := f18
    refine n_Vi (na := 3) (As := [.int 0, .ref (ad 8), .int i]) (rest := []) X hD hN h rfl (c_F_fitting8 l G cI cB cZ cO ad w nz nc ok i n_8 n_9 (by omega) (by omega) hNR) ⟨kv_281, kv_282, kv_283, kv_82, kv_284⟩ rfl ⟨by decide, by decide, by decide⟩ ⟨Nat.le_of_ble_eq_true rfl, Nat.le_of_ble_eq_true rfl⟩ ⟨Nat.zero_le _, Nat.zero_le _⟩ (by decide) f19 rfl rfl hl.1 rfl (Nat.le_of_ble_eq_true rfl) dX8_look_31 (fun r15 w16 H locs hp17 h => ?_)
    obtain ⟨rfl, hr20⟩ := hp17
    have hfr21 : 0 ≤ r15.toInt ∧ r15.toInt ≤ 63 := by rw [← hr20]; exact fitN_rg 6 (Nat.le_refl _)
    refine lv_istore_n (lv' := [(2, .int r15), (0, .ref (ad 0)), (1, .int i)]) hx hb dX8_look_34 rfl hl (by decide) rfl (fun ls hl => ?_)
    refine lv_aload_n hx hb dX8_look_35 rfl (lv_at hl 1 rfl) ?_
    refine r_get kc8 X h 0 6 (by decide) rfl f7 (by decide) kv_280 rfl dX8_look_36 ?_
    refine lv_iconst (v := 0) hx hb dX8_look_39 (by decide) ?_
    refine lv_iload_n hx hb dX8_look_40 rfl (lv_at hl 0 rfl) ?_
    refine lv_aload_n hx hb dX8_look_41 rfl (lv_at hl 1 rfl) ?_
    refine r_get kc8 X h 0 0 (by decide) rfl f7 (by decide) kv_172 rfl dX8_look_42 ?_
    refine r_get kc2 X h 1 6 (by decide) rfl n_1 (by decide) kv_259 rfl dX8_look_45 ?_
    refine lv_iload_n hx hb dX8_look_48 rfl (lv_at hl 2 rfl) ?_
    obtain ⟨v22, e23⟩ : ∃ z : Int32, hh i.toNatClampNeg = z := ⟨_, rfl⟩
    have h24 := rgA_rd hrn e23
    refine o_iald (v := v22) X h 3 0 (by decide) rfl n_3 rfl (in_of (by omega) (by omega)) e23 dX8_look_49 ?_
    refine lv_aload_n hx hb dX8_look_50 rfl (lv_at hl 1 rfl) ?_
    refine r_get kc8 X h 0 0 (by decide) rfl f7 (by decide) kv_172 rfl dX8_look_51 ?_
    refine r_get kc2 X h 1 6 (by decide) rfl n_1 (by decide) kv_259 rfl dX8_look_54 ?_
    refine lv_iload_n hx hb dX8_look_57 rfl (lv_at hl 2 rfl) ?_
    refine o_iald (v := v22) X h 3 0 (by decide) rfl n_3 rfl (in_of (by omega) (by omega)) e23 dX8_look_58 ?_
    refine n_Vi (na := 4) (As := [.int 0, .int r15, .int v22, .int v22]) (rest := []) X hD hN h rfl (c_F_tellingMost0 l G cI cB cZ cO ad w ok r15 v22 v22 hfr21.1 hfr21.2 (by omega) (by omega) (by omega) (by omega) (Int.le_refl _)) ⟨kv_285, kv_286, kv_287, kv_82, kv_288⟩ rfl ⟨by decide, by decide, by decide⟩ ⟨Nat.le_of_ble_eq_true rfl, Nat.le_of_ble_eq_true rfl⟩ ⟨Nat.zero_le _, Nat.zero_le _⟩ (by decide) f19 rfl rfl hl.1 rfl (Nat.le_of_ble_eq_true rfl) dX8_look_59 (fun r25 w26 H locs hp27 h => ?_)
    obtain ⟨ok28, kk29, hr30⟩ := hp27
    have kx31 : KX w w26 := kk29
    have hb32 : -1 ≤ r25.toInt ∧ r25.toInt ≤ 20000 := by
      rcases hr30 with ⟨a9, b9⟩ | ⟨a9, b9⟩
      · rw [b9]; decide
      · have k1 := cl_of (x := v22) (by omega)
        have c9 : r25.toInt = 100 * ((v22.toNatClampNeg + scB (tT 0 r15 v22.toNatClampNeg) (24 * (v22.toNatClampNeg + 1 - v22.toNatClampNeg)) / 24 : Nat) : Int) + ((scB (tT 0 r15 v22.toNatClampNeg) (24 * (v22.toNatClampNeg + 1 - v22.toNatClampNeg)) % 24 : Nat) : Int) := b9
        have l9 := scB_lt (T := (tT 0 r15 v22.toNatClampNeg)) (24 * (v22.toNatClampNeg + 1 - v22.toNatClampNeg)) (by omega)
        omega
    refine lv_istore_n (lv' := [(3, .int r25), (2, .int r15), (0, .ref (ad 0)), (1, .int i)]) hx hb dX8_look_62 rfl hl (by decide) rfl (fun ls hl => ?_)
    refine lv_iload_n hx hb dX8_look_63 rfl (lv_at hl 0 rfl) ?_
    refine lv_iconst (v := (-1)) hx hb dX8_look_64 (by decide) ?_
    refine lv_icmp_ne (tgt := 72) hx hb dX8_look_65 (by decide) (fun hc33 => ?_) (fun hc33 => ?_)
    · have hc33 : ¬ (r25).toInt = (-1) := i_ne hc33 rfl rfl
      refine lv_iload_n hx hb dX8_look_72 rfl (lv_at hl 0 rfl) ?_
      refine lv_bipush (v := 100) hx hb dX8_look_73 (by decide) ?_
      obtain ⟨z36, e34, t35⟩ := x_rem (x := r25) (y := (100 : Int32)) (a := (r25).toInt) (b := 100) rfl rfl (by omega) (by omega)
      refine o_irem (z := z36) hx hb dX8_look_75 (by decide) e34 ?_
      have hlk37 : LKP r15 (hh i.toNatClampNeg).toNatClampNeg z36 := by
        rw [e23]
        rcases hr30 with ⟨a9, b9⟩ | ⟨a9, b9⟩
        · exfalso; have c9 := congrArg Int32.toInt b9; have d9 : (-1 : Int32).toInt = -1 := rfl; omega
        · refine Or.inr ⟨a9, ?_⟩
          have n9 : 24 * (v22.toNatClampNeg + 1 - v22.toNatClampNeg) = 24 := by omega
          rw [n9] at b9
          have c9 : r25.toInt = 100 * ((v22.toNatClampNeg + scB (tT 0 r15 v22.toNatClampNeg) 24 / 24 : Nat) : Int) + ((scB (tT 0 r15 v22.toNatClampNeg) 24 % 24 : Nat) : Int) := b9
          have l9 := scB_lt (T := tT 0 r15 v22.toNatClampNeg) 24 (by decide)
          omega
      exact e_i X h hr hlk dX8_look_76 ⟨ok28, kx31, Or.inl ⟨by omega, by rw [hr20]; exact hlk37⟩⟩
    · have hc33 : (r25).toInt = (-1) := i_eq hc33 rfl rfl
      refine lv_iconst (v := (-1)) hx hb dX8_look_68 (by decide) ?_
      refine lv_goto (tgt := 76) hx hb dX8_look_69 (by decide) ?_
      have hlk38 : LKP r15 (hh i.toNatClampNeg).toNatClampNeg ((-1) : Int32) := by
        rw [e23]
        rcases hr30 with ⟨a9, b9⟩ | ⟨a9, b9⟩
        · exact Or.inl ⟨a9, by decide⟩
        · exfalso; have c9 : r25.toInt = 100 * ((v22.toNatClampNeg + scB (tT 0 r15 v22.toNatClampNeg) (24 * (v22.toNatClampNeg + 1 - v22.toNatClampNeg)) / 24 : Nat) : Int) + ((scB (tT 0 r15 v22.toNatClampNeg) (24 * (v22.toNatClampNeg + 1 - v22.toNatClampNeg)) % 24 : Nat) : Int) := b9; omega
      exact e_i X h hr hlk dX8_look_76 ⟨ok28, kx31, Or.inl ⟨by omega, by rw [hr20]; exact hlk38⟩⟩
  · refine lv_if_ne (tgt := 18) hx hb dX8_look_8 (by decide) (fun hc => absurd (by decide) hc) (fun _ => ?_)
    refine lv_aload_n hx hb dX8_look_11 rfl (lv_at hl 0 rfl) ?_
    refine lv_bipush (v := (-2)) hx hb dX8_look_12 (by decide) ?_
    refine n_Vi (na := 1) (As := [.int (-2)]) (rest := []) X hD hN h rfl (c_refused l G cI cB cZ cO ad w  ok ((-2) : Int32)  ) ⟨kv_227, kv_228, kv_229, kv_212, kv_230⟩ rfl ⟨by decide, by decide, by decide⟩ ⟨Nat.le_of_ble_eq_true rfl, Nat.le_of_ble_eq_true rfl⟩ ⟨Nat.zero_le _, Nat.zero_le _⟩ (by decide) f7 rfl rfl hl.1 rfl (Nat.le_of_ble_eq_true rfl) dX8_look_14 (fun r39 w40 H locs hp41 h => ?_)
    have kX42 : KX w w40 := hp41.2.1
    obtain ⟨ok45, kk46, hr44⟩ := hp41
    have kx47 : KX w w40 := kk46
    subst hr44
    exact e_i X h hr hlk dX8_look_17 ⟨ok45, kx47, Or.inr ⟨by omega, rfl⟩⟩

set_option maxHeartbeats 4000000 in
set_option maxRecDepth 100000 in
theorem c_MF_mostAlike (l : Launch) (G : va_G) (cI cB cZ cO : ClassId) (ad : Nat → Nat) (w : Nat → va_E) (te : Nat → Int32) (ok : OK cI cB cZ cO ad w) (x : Int32)  (p70 : w 70 = .inl (cI, 6, .inl te)) : NI l G (tyq cI cB cZ cO) yX9_mostAlike cX9_mostAlike 6 (some .int) 1 21 74 ad w [.ref (ad 64), .int x] (fun r w1 => w = w1 ∧ r.toInt = ((mxS te (fun k9 => ¬ bitF x (nI k9) = 0) 6 6 : Nat) : Int)) := by
  refine nk_i (own := "NoonShadeModel") rfl (by decide) (Nat.le_of_ble_eq_true rfl) ?_
  intro p e s m below meth c ls X hD hN hr hlk h hl
  have hx := X.1.1
  have hb := X.1.2.1
  have hown := X.1.2.2.2.1
  have hts := X.1.2.2.2.2
  have hl : lv_has ls 6 [(0, .ref (ad 64)), (1, .int x)] := hl
  refine lv_iconst (v := 0) hx hb dX9_mostAlike_0 (by decide) ?_
  refine lv_istore_n (lv' := [(2, .int 0), (0, .ref (ad 64)), (1, .int x)]) hx hb dX9_mostAlike_1 rfl hl (by decide) rfl (fun ls hl => ?_)
  refine lv_iconst (v := 0) hx hb dX9_mostAlike_2 (by decide) ?_
  refine lv_istore_n (lv' := [(3, .int 0), (2, .int 0), (0, .ref (ad 64)), (1, .int x)]) hx hb dX9_mostAlike_3 rfl hl (by decide) rfl (fun ls hl => ?_)
  have hloop3 : ∀ (d4 : Nat) (L1 : Int32) (L2 : Int32) (H : Heap) (locs : List Loc) (ls : Array Slot), 0 ≤ L2.toInt → L2.toInt ≤ 6 → 0 ≤ L1.toInt → L1.toInt ≤ 6 → (L2.toInt = ((mxS te (fun k9 => ¬ bitF x (nI k9) = 0) 6 L1.toNatClampNeg : Nat) : Int)) → 6 - L1.toInt < (d4 : Int) → St G 74 ad (wA 74 ad s.heap.size) s.heap w H locs → lv_has ls 6 [(3, .int L1), (2, .int L2), (0, .ref (ad 64)), (1, .int x)] → W p l e { frames := 1, cells := 0, slots := 0, locals := 21 } s m [.ref (ad 64), .int x].toArray below meth c H locs 0 0 (MQ below (va_Qi (fun r w1 => w = w1 ∧ r.toInt = ((mxS te (fun k9 => ¬ bitF x (nI k9) = 0) 6 6 : Nat) : Int)) (Aft G 74 ad) (wA 74 ad s.heap.size)) [.ref (ad 64), .int x].toArray s 0 0 (wA 74 ad s.heap.size)) (F0 m 4 ls []) := by
    intro d4
    induction d4 with
    | zero => intro L1 L2 H locs ls hi7 hi8 hi9 hi10 hi11 hm6 h hl; exfalso; omega
    | succ d4 ih5 =>
      intro L1 L2 H locs ls hi7 hi8 hi9 hi10 hi11 hm6 h hl
      refine lv_iload_n hx hb dX9_mostAlike_4 rfl (lv_at hl 0 rfl) ?_
      refine lv_bipush (v := 6) hx hb dX9_mostAlike_5 (by decide) ?_
      refine lv_icmp_ge (tgt := 91) hx hb dX9_mostAlike_7 (by decide) (fun hc14 => ?_) (fun hc14 => ?_)
      · have hc14 : 6 ≤ (L1).toInt := i_le hc14 rfl rfl
        refine lv_iload_n hx hb dX9_mostAlike_91 rfl (lv_at hl 1 rfl) ?_
        have hmm15 : L2.toInt = ((mxS te (fun k9 => ¬ bitF x (nI k9) = 0) 6 6 : Nat) : Int) := by
          have c3 := cl_of (x := L1) (by omega)
          have e9 : L1.toNatClampNeg = 6 := by omega
          rw [hi11, e9]
        exact e_i X h hr hlk dX9_mostAlike_92 ⟨rfl, hmm15⟩
      · have hc14 : ¬ 6 ≤ (L1).toInt := i_nle hc14 rfl rfl
        refine lv_iconst (v := 0) hx hb dX9_mostAlike_10 (by decide) ?_
        refine lv_istore (lv' := [(4, .int 0), (3, .int L1), (2, .int L2), (0, .ref (ad 64)), (1, .int x)]) hx hb dX9_mostAlike_11 hl (by decide) rfl (fun ls hl => ?_)
        refine lv_iconst (v := 0) hx hb dX9_mostAlike_13 (by decide) ?_
        refine lv_istore (lv' := [(5, .int 0), (4, .int 0), (3, .int L1), (2, .int L2), (0, .ref (ad 64)), (1, .int x)]) hx hb dX9_mostAlike_14 hl (by decide) rfl (fun ls hl => ?_)
        have hloop18 : ∀ (d19 : Nat) (L16 : Int32) (L17 : Int32) (H : Heap) (locs : List Loc) (ls : Array Slot), 0 ≤ L17.toInt → L17.toInt ≤ 6 → 0 ≤ L16.toInt → L16.toInt ≤ 6 → L17.toInt ≤ L16.toInt → (L17.toInt = ((cntS te (fun k9 => ¬ bitF x (nI k9) = 0) L16.toNatClampNeg (te L1.toNatClampNeg) : Nat) : Int)) → (0 < L16.toInt → ¬ bitF x L1 = 0) → 6 - L16.toInt < (d19 : Int) → St G 74 ad (wA 74 ad s.heap.size) s.heap w H locs → lv_has ls 6 [(5, .int L16), (4, .int L17), (3, .int L1), (2, .int L2), (0, .ref (ad 64)), (1, .int x)] → W p l e { frames := 1, cells := 0, slots := 0, locals := 21 } s m [.ref (ad 64), .int x].toArray below meth c H locs 0 0 (MQ below (va_Qi (fun r w1 => w = w1 ∧ r.toInt = ((mxS te (fun k9 => ¬ bitF x (nI k9) = 0) 6 6 : Nat) : Int)) (Aft G 74 ad) (wA 74 ad s.heap.size)) [.ref (ad 64), .int x].toArray s 0 0 (wA 74 ad s.heap.size)) (F0 m 16 ls []) := by
          intro d19
          induction d19 with
          | zero => intro L16 L17 H locs ls hi22 hi23 hi24 hi25 hi26 hi27 hi28 hm21 h hl; exfalso; omega
          | succ d19 ih20 =>
            intro L16 L17 H locs ls hi22 hi23 hi24 hi25 hi26 hi27 hi28 hm21 h hl
            refine lv_iload hx hb dX9_mostAlike_16 (lv_at hl 0 rfl) ?_
            refine lv_bipush (v := 6) hx hb dX9_mostAlike_18 (by decide) ?_
            refine lv_icmp_ge (tgt := 72) hx hb dX9_mostAlike_20 (by decide) (fun hc31 => ?_) (fun hc31 => ?_)
            · have hc31 : 6 ≤ (L16).toInt := i_le hc31 rfl rfl
              refine lv_iload hx hb dX9_mostAlike_72 (lv_at hl 1 rfl) ?_
              refine lv_iload_n hx hb dX9_mostAlike_74 rfl (lv_at hl 3 rfl) ?_
              refine lv_icmp_le (tgt := 83) hx hb dX9_mostAlike_75 (by decide) (fun hc32 => ?_) (fun hc32 => ?_)
              · have hc32 : (L17).toInt ≤ (L2).toInt := i_le hc32 rfl rfl
                refine lv_iload_n hx hb dX9_mostAlike_83 rfl (lv_at hl 3 rfl) ?_
                refine lv_istore_n (lv' := [(2, .int L2), (5, .int L16), (4, .int L17), (3, .int L1), (0, .ref (ad 64)), (1, .int x)]) hx hb dX9_mostAlike_84 rfl hl (by decide) rfl (fun ls hl => ?_)
                obtain ⟨z33, e34, t35⟩ := x_add (x := L1) (y := 1) (a := L1.toInt) (b := 1) rfl rfl (by omega) (by omega)
                have n36 : z33.toNatClampNeg = L1.toNatClampNeg + 1 := cl_addn (x := L1) (y := 1) rfl rfl t35 (by omega) (by decide)
                refine lv_iinc (v := z33) (lv' := [(3, .int z33), (2, .int L2), (5, .int L16), (4, .int L17), (0, .ref (ad 64)), (1, .int x)]) hx hb dX9_mostAlike_85 hl (k := 3) rfl e34 (by decide) rfl (fun ls hl => ?_)
                refine lv_goto (tgt := 4) hx hb dX9_mostAlike_88 (by decide) ?_
                have hmt37 : L2.toInt = ((mxS te (fun k9 => ¬ bitF x (nI k9) = 0) 6 z33.toNatClampNeg : Nat) : Int) := by
                  have c5 := cl_of (x := L16) (by omega)
                  have b9 := bitF_01 x L1
                  have d9 : ((pick (¬ bitF x (nI L1.toNatClampNeg) = 0) (cntS te (fun k9 => ¬ bitF x (nI k9) = 0) 6 (te L1.toNatClampNeg)) 0 : Nat) : Int) = L17.toInt := by
                    rw [nI_cl (x := L1) (by omega)]
                    have e5 : L16.toNatClampNeg = 6 := by omega
                    have := hi28 (by omega)
                    rw [pick_y this, hi27, e5]
                  have m9 : mxS te (fun k9 => ¬ bitF x (nI k9) = 0) 6 (L1.toNatClampNeg + 1) = max (mxS te (fun k9 => ¬ bitF x (nI k9) = 0) 6 L1.toNatClampNeg) (pick (¬ bitF x (nI L1.toNatClampNeg) = 0) (cntS te (fun k9 => ¬ bitF x (nI k9) = 0) 6 (te L1.toNatClampNeg)) 0) := rfl
                  rw [n36, m9]
                  omega
                exact ih5  z33 L2  _ _ _ (by omega) (by omega) (by omega) (by omega) hmt37  (by omega) h (lv_sub hl [0, 1, 4, 5] rfl)
              · have hc32 : ¬ (L17).toInt ≤ (L2).toInt := i_nle hc32 rfl rfl
                refine lv_iload hx hb dX9_mostAlike_78 (lv_at hl 1 rfl) ?_
                refine lv_goto (tgt := 84) hx hb dX9_mostAlike_80 (by decide) ?_
                refine lv_istore_n (lv' := [(2, .int L17), (5, .int L16), (4, .int L17), (3, .int L1), (0, .ref (ad 64)), (1, .int x)]) hx hb dX9_mostAlike_84 rfl hl (by decide) rfl (fun ls hl => ?_)
                obtain ⟨z38, e39, t40⟩ := x_add (x := L1) (y := 1) (a := L1.toInt) (b := 1) rfl rfl (by omega) (by omega)
                have n41 : z38.toNatClampNeg = L1.toNatClampNeg + 1 := cl_addn (x := L1) (y := 1) rfl rfl t40 (by omega) (by decide)
                refine lv_iinc (v := z38) (lv' := [(3, .int z38), (2, .int L17), (5, .int L16), (4, .int L17), (0, .ref (ad 64)), (1, .int x)]) hx hb dX9_mostAlike_85 hl (k := 3) rfl e39 (by decide) rfl (fun ls hl => ?_)
                refine lv_goto (tgt := 4) hx hb dX9_mostAlike_88 (by decide) ?_
                have hmt42 : L17.toInt = ((mxS te (fun k9 => ¬ bitF x (nI k9) = 0) 6 z38.toNatClampNeg : Nat) : Int) := by
                  have c5 := cl_of (x := L16) (by omega)
                  have b9 := bitF_01 x L1
                  have d9 : ((pick (¬ bitF x (nI L1.toNatClampNeg) = 0) (cntS te (fun k9 => ¬ bitF x (nI k9) = 0) 6 (te L1.toNatClampNeg)) 0 : Nat) : Int) = L17.toInt := by
                    rw [nI_cl (x := L1) (by omega)]
                    have e5 : L16.toNatClampNeg = 6 := by omega
                    have := hi28 (by omega)
                    rw [pick_y this, hi27, e5]
                  have m9 : mxS te (fun k9 => ¬ bitF x (nI k9) = 0) 6 (L1.toNatClampNeg + 1) = max (mxS te (fun k9 => ¬ bitF x (nI k9) = 0) 6 L1.toNatClampNeg) (pick (¬ bitF x (nI L1.toNatClampNeg) = 0) (cntS te (fun k9 => ¬ bitF x (nI k9) = 0) 6 (te L1.toNatClampNeg)) 0) := rfl
                  rw [n41, m9]
                  omega
                exact ih5  z38 L17  _ _ _ (by omega) (by omega) (by omega) (by omega) hmt42  (by omega) h (lv_sub hl [0, 1, 4, 5] rfl)
            · have hc31 : ¬ 6 ≤ (L16).toInt := i_nle hc31 rfl rfl
              refine lv_iload_n hx hb dX9_mostAlike_23 rfl (lv_at hl 5 rfl) ?_
              refine lv_iload_n hx hb dX9_mostAlike_24 rfl (lv_at hl 2 rfl) ?_
              refine n_Si (na := 2) (As := [.int x, .int L1]) (rest := []) X hD hN h (c_MF_has l G cI cB cZ cO ad w   x L1  ) ⟨kv_496, kv_497, kv_470, kv_498⟩ ⟨by decide, by decide, by decide⟩ ⟨Nat.le_of_ble_eq_true rfl, Nat.le_of_ble_eq_true rfl⟩ ⟨Nat.zero_le _, Nat.zero_le _⟩ rfl hl.1 rfl (Nat.le_of_ble_eq_true rfl) dX9_mostAlike_25 (fun r43 w44 H locs hp45 h => ?_)
              obtain ⟨rfl, hr46⟩ := hp45
              rcases hr46 with ⟨hq47, rfl⟩ | ⟨hq48, rfl⟩
              · refine lv_if_eq (tgt := 72) hx hb dX9_mostAlike_28 (by decide) (fun hc => absurd hc (by decide)) (fun _ => ?_)
                refine lv_iload hx hb dX9_mostAlike_31 (lv_at hl 1 rfl) ?_
                refine lv_iload_n hx hb dX9_mostAlike_33 rfl (lv_at hl 5 rfl) ?_
                refine lv_iload hx hb dX9_mostAlike_34 (lv_at hl 0 rfl) ?_
                refine n_Si (na := 2) (As := [.int x, .int L16]) (rest := [.int L17]) X hD hN h (c_MF_has l G cI cB cZ cO ad w   x L16  ) ⟨kv_496, kv_497, kv_470, kv_498⟩ ⟨by decide, by decide, by decide⟩ ⟨Nat.le_of_ble_eq_true rfl, Nat.le_of_ble_eq_true rfl⟩ ⟨Nat.zero_le _, Nat.zero_le _⟩ rfl hl.1 rfl (Nat.le_of_ble_eq_true rfl) dX9_mostAlike_36 (fun r49 w50 H locs hp51 h => ?_)
                obtain ⟨rfl, hr52⟩ := hp51
                rcases hr52 with ⟨hq53, rfl⟩ | ⟨hq54, rfl⟩
                · refine lv_if_eq (tgt := 62) hx hb dX9_mostAlike_39 (by decide) (fun hc => absurd hc (by decide)) (fun _ => ?_)
                  refine lv_aload_n hx hb dX9_mostAlike_42 rfl (lv_at hl 4 rfl) ?_
                  obtain ⟨x56, x57, t58, t59, t60, t61, t62, t63, f55, h64, h65⟩ := (show sM ad (w 64) from ok 64 (by decide))
                  have f66 : w 64 = .inr (7, [.ref (ad 65), .ref (ad 66), .ref (ad 67), .ref (ad 68), .long x56, .long x57, .ref (ad 69), .int t58, .ref (ad 70), .ref (ad 71), .int t59, .int t60, .int t61, .int t62, .int t63, .ref (ad 72), .ref (ad 73)]) := f55
                  refine r_get kc9 X h 64 8 (by decide) rfl f66 (by decide) kv_518 rfl dX9_mostAlike_43 ?_
                  refine lv_iload_n hx hb dX9_mostAlike_46 rfl (lv_at hl 2 rfl) ?_
                  obtain ⟨v67, e68⟩ : ∃ z : Int32, te L1.toNatClampNeg = z := ⟨_, rfl⟩
                  refine o_iald (v := v67) X h 70 0 (by decide) rfl p70 rfl (in_of (by omega) (by omega)) e68 dX9_mostAlike_47 ?_
                  refine lv_aload_n hx hb dX9_mostAlike_48 rfl (lv_at hl 4 rfl) ?_
                  refine r_get kc9 X h 64 8 (by decide) rfl f66 (by decide) kv_518 rfl dX9_mostAlike_49 ?_
                  refine lv_iload hx hb dX9_mostAlike_52 (lv_at hl 0 rfl) ?_
                  obtain ⟨v70, e71⟩ : ∃ z : Int32, te L16.toNatClampNeg = z := ⟨_, rfl⟩
                  refine o_iald (v := v70) X h 70 0 (by decide) rfl p70 rfl (in_of (by omega) (by omega)) e71 dX9_mostAlike_54 ?_
                  refine lv_icmp_ne (tgt := 62) hx hb dX9_mostAlike_55 (by decide) (fun hc73 => ?_) (fun hc73 => ?_)
                  · have hc73 : ¬ (v67).toInt = (v70).toInt := i_ne hc73 rfl rfl
                    refine lv_iconst (v := 0) hx hb dX9_mostAlike_62 (by decide) ?_
                    obtain ⟨z76, e74, t75⟩ := x_add (x := L17) (y := (0 : Int32)) (a := (L17).toInt) (b := 0) rfl rfl (by omega) (by omega)
                    have n77 : z76.toNatClampNeg = L17.toNatClampNeg + 0 := cl_addn (x := L17) (y := (0 : Int32)) rfl rfl t75 (by omega) (by decide)
                    refine o_iadd (z := z76) hx hb dX9_mostAlike_63 e74 ?_
                    refine lv_istore (lv' := [(4, .int z76), (5, .int L16), (3, .int L1), (2, .int L2), (0, .ref (ad 64)), (1, .int x)]) hx hb dX9_mostAlike_64 hl (by decide) rfl (fun ls hl => ?_)
                    obtain ⟨z78, e79, t80⟩ := x_add (x := L16) (y := 1) (a := L16.toInt) (b := 1) rfl rfl (by omega) (by omega)
                    have n81 : z78.toNatClampNeg = L16.toNatClampNeg + 1 := cl_addn (x := L16) (y := 1) rfl rfl t80 (by omega) (by decide)
                    refine lv_iinc (v := z78) (lv' := [(5, .int z78), (4, .int z76), (3, .int L1), (2, .int L2), (0, .ref (ad 64)), (1, .int x)]) hx hb dX9_mostAlike_66 hl (k := 1) rfl e79 (by decide) rfl (fun ls hl => ?_)
                    refine lv_goto (tgt := 16) hx hb dX9_mostAlike_69 (by decide) ?_
                    have hml82 : z76.toInt = ((cntS te (fun k9 => ¬ bitF x (nI k9) = 0) z78.toNatClampNeg (te L1.toNatClampNeg) : Nat) : Int) := by
                      rw [n81, cntS_y (by show ¬ bitF x (nI L16.toNatClampNeg) = 0; rw [nI_cl (x := L16) (by omega)]; have := bitF_01 x L16; omega) (v := v70) e71, pick_n (fun q9 => by rw [e68] at q9; have := congrArg Int32.toInt q9; omega)]; omega
                    exact ih20  z78 z76  _ _ _ (by omega) (by omega) (by omega) (by omega) (by omega) hml82 (fun _ => by have := bitF_01 x L1; omega)  (by omega) h (lv_sub hl [0, 1, 2, 3, 4, 5] rfl)
                  · have hc73 : (v67).toInt = (v70).toInt := i_eq hc73 rfl rfl
                    refine lv_iconst (v := 1) hx hb dX9_mostAlike_58 (by decide) ?_
                    refine lv_goto (tgt := 63) hx hb dX9_mostAlike_59 (by decide) ?_
                    obtain ⟨z85, e83, t84⟩ := x_add (x := L17) (y := (1 : Int32)) (a := (L17).toInt) (b := 1) rfl rfl (by omega) (by omega)
                    have n86 : z85.toNatClampNeg = L17.toNatClampNeg + 1 := cl_addn (x := L17) (y := (1 : Int32)) rfl rfl t84 (by omega) (by decide)
                    refine o_iadd (z := z85) hx hb dX9_mostAlike_63 e83 ?_
                    refine lv_istore (lv' := [(4, .int z85), (5, .int L16), (3, .int L1), (2, .int L2), (0, .ref (ad 64)), (1, .int x)]) hx hb dX9_mostAlike_64 hl (by decide) rfl (fun ls hl => ?_)
                    obtain ⟨z87, e88, t89⟩ := x_add (x := L16) (y := 1) (a := L16.toInt) (b := 1) rfl rfl (by omega) (by omega)
                    have n90 : z87.toNatClampNeg = L16.toNatClampNeg + 1 := cl_addn (x := L16) (y := 1) rfl rfl t89 (by omega) (by decide)
                    refine lv_iinc (v := z87) (lv' := [(5, .int z87), (4, .int z85), (3, .int L1), (2, .int L2), (0, .ref (ad 64)), (1, .int x)]) hx hb dX9_mostAlike_66 hl (k := 1) rfl e88 (by decide) rfl (fun ls hl => ?_)
                    refine lv_goto (tgt := 16) hx hb dX9_mostAlike_69 (by decide) ?_
                    have hml91 : z85.toInt = ((cntS te (fun k9 => ¬ bitF x (nI k9) = 0) z87.toNatClampNeg (te L1.toNatClampNeg) : Nat) : Int) := by
                      rw [n90, cntS_y (by show ¬ bitF x (nI L16.toNatClampNeg) = 0; rw [nI_cl (x := L16) (by omega)]; have := bitF_01 x L16; omega) (v := v70) e71, pick_y (by rw [e68]; exact (fa_eq _ _).mpr (by omega))]; omega
                    exact ih20  z87 z85  _ _ _ (by omega) (by omega) (by omega) (by omega) (by omega) hml91 (fun _ => by have := bitF_01 x L1; omega)  (by omega) h (lv_sub hl [0, 1, 2, 3, 4, 5] rfl)
                · refine lv_if_eq (tgt := 62) hx hb dX9_mostAlike_39 (by decide) (fun _ => ?_) (fun hc => absurd (by decide) hc)
                  refine lv_iconst (v := 0) hx hb dX9_mostAlike_62 (by decide) ?_
                  obtain ⟨z94, e92, t93⟩ := x_add (x := L17) (y := (0 : Int32)) (a := (L17).toInt) (b := 0) rfl rfl (by omega) (by omega)
                  have n95 : z94.toNatClampNeg = L17.toNatClampNeg + 0 := cl_addn (x := L17) (y := (0 : Int32)) rfl rfl t93 (by omega) (by decide)
                  refine o_iadd (z := z94) hx hb dX9_mostAlike_63 e92 ?_
                  refine lv_istore (lv' := [(4, .int z94), (5, .int L16), (3, .int L1), (2, .int L2), (0, .ref (ad 64)), (1, .int x)]) hx hb dX9_mostAlike_64 hl (by decide) rfl (fun ls hl => ?_)
                  obtain ⟨z96, e97, t98⟩ := x_add (x := L16) (y := 1) (a := L16.toInt) (b := 1) rfl rfl (by omega) (by omega)
                  have n99 : z96.toNatClampNeg = L16.toNatClampNeg + 1 := cl_addn (x := L16) (y := 1) rfl rfl t98 (by omega) (by decide)
                  refine lv_iinc (v := z96) (lv' := [(5, .int z96), (4, .int z94), (3, .int L1), (2, .int L2), (0, .ref (ad 64)), (1, .int x)]) hx hb dX9_mostAlike_66 hl (k := 1) rfl e97 (by decide) rfl (fun ls hl => ?_)
                  refine lv_goto (tgt := 16) hx hb dX9_mostAlike_69 (by decide) ?_
                  have hml100 : z94.toInt = ((cntS te (fun k9 => ¬ bitF x (nI k9) = 0) z96.toNatClampNeg (te L1.toNatClampNeg) : Nat) : Int) := by
                    rw [n99, cntS_n (by show ¬ ¬ bitF x (nI L16.toNatClampNeg) = 0; rw [nI_cl (x := L16) (by omega)]; have := bitF_01 x L16; omega)]; omega
                  exact ih20  z96 z94  _ _ _ (by omega) (by omega) (by omega) (by omega) (by omega) hml100 (fun _ => by have := bitF_01 x L1; omega)  (by omega) h (lv_sub hl [0, 1, 2, 3, 4, 5] rfl)
              · refine lv_if_eq (tgt := 72) hx hb dX9_mostAlike_28 (by decide) (fun _ => ?_) (fun hc => absurd (by decide) hc)
                refine lv_iload hx hb dX9_mostAlike_72 (lv_at hl 1 rfl) ?_
                refine lv_iload_n hx hb dX9_mostAlike_74 rfl (lv_at hl 3 rfl) ?_
                refine lv_icmp_le (tgt := 83) hx hb dX9_mostAlike_75 (by decide) (fun hc101 => ?_) (fun hc101 => ?_)
                · have hc101 : (L17).toInt ≤ (L2).toInt := i_le hc101 rfl rfl
                  refine lv_iload_n hx hb dX9_mostAlike_83 rfl (lv_at hl 3 rfl) ?_
                  refine lv_istore_n (lv' := [(2, .int L2), (5, .int L16), (4, .int L17), (3, .int L1), (0, .ref (ad 64)), (1, .int x)]) hx hb dX9_mostAlike_84 rfl hl (by decide) rfl (fun ls hl => ?_)
                  obtain ⟨z102, e103, t104⟩ := x_add (x := L1) (y := 1) (a := L1.toInt) (b := 1) rfl rfl (by omega) (by omega)
                  have n105 : z102.toNatClampNeg = L1.toNatClampNeg + 1 := cl_addn (x := L1) (y := 1) rfl rfl t104 (by omega) (by decide)
                  refine lv_iinc (v := z102) (lv' := [(3, .int z102), (2, .int L2), (5, .int L16), (4, .int L17), (0, .ref (ad 64)), (1, .int x)]) hx hb dX9_mostAlike_85 hl (k := 3) rfl e103 (by decide) rfl (fun ls hl => ?_)
                  refine lv_goto (tgt := 4) hx hb dX9_mostAlike_88 (by decide) ?_
                  have hmt106 : L2.toInt = ((mxS te (fun k9 => ¬ bitF x (nI k9) = 0) 6 z102.toNatClampNeg : Nat) : Int) := by
                    have c5 := cl_of (x := L16) (by omega)
                    have b9 := bitF_01 x L1
                    have d9 : ((pick (¬ bitF x (nI L1.toNatClampNeg) = 0) (cntS te (fun k9 => ¬ bitF x (nI k9) = 0) 6 (te L1.toNatClampNeg)) 0 : Nat) : Int) = L17.toInt := by
                      rw [nI_cl (x := L1) (by omega)]
                      have e5 : L16.toNatClampNeg = 0 := by by_cases q : 0 < L16.toInt; (have := hi28 q; omega); omega
                      rw [pick_n (by omega), hi27, e5]; rfl
                    have m9 : mxS te (fun k9 => ¬ bitF x (nI k9) = 0) 6 (L1.toNatClampNeg + 1) = max (mxS te (fun k9 => ¬ bitF x (nI k9) = 0) 6 L1.toNatClampNeg) (pick (¬ bitF x (nI L1.toNatClampNeg) = 0) (cntS te (fun k9 => ¬ bitF x (nI k9) = 0) 6 (te L1.toNatClampNeg)) 0) := rfl
                    rw [n105, m9]
                    omega
                  exact ih5  z102 L2  _ _ _ (by omega) (by omega) (by omega) (by omega) hmt106  (by omega) h (lv_sub hl [0, 1, 4, 5] rfl)
                · have hc101 : ¬ (L17).toInt ≤ (L2).toInt := i_nle hc101 rfl rfl
                  refine lv_iload hx hb dX9_mostAlike_78 (lv_at hl 1 rfl) ?_
                  refine lv_goto (tgt := 84) hx hb dX9_mostAlike_80 (by decide) ?_
                  refine lv_istore_n (lv' := [(2, .int L17), (5, .int L16), (4, .int L17), (3, .int L1), (0, .ref (ad 64)), (1, .int x)]) hx hb dX9_mostAlike_84 rfl hl (by decide) rfl (fun ls hl => ?_)
                  obtain ⟨z107, e108, t109⟩ := x_add (x := L1) (y := 1) (a := L1.toInt) (b := 1) rfl rfl (by omega) (by omega)
                  have n110 : z107.toNatClampNeg = L1.toNatClampNeg + 1 := cl_addn (x := L1) (y := 1) rfl rfl t109 (by omega) (by decide)
                  refine lv_iinc (v := z107) (lv' := [(3, .int z107), (2, .int L17), (5, .int L16), (4, .int L17), (0, .ref (ad 64)), (1, .int x)]) hx hb dX9_mostAlike_85 hl (k := 3) rfl e108 (by decide) rfl (fun ls hl => ?_)
                  refine lv_goto (tgt := 4) hx hb dX9_mostAlike_88 (by decide) ?_
                  have hmt111 : L17.toInt = ((mxS te (fun k9 => ¬ bitF x (nI k9) = 0) 6 z107.toNatClampNeg : Nat) : Int) := by
                    have c5 := cl_of (x := L16) (by omega)
                    have b9 := bitF_01 x L1
                    have d9 : ((pick (¬ bitF x (nI L1.toNatClampNeg) = 0) (cntS te (fun k9 => ¬ bitF x (nI k9) = 0) 6 (te L1.toNatClampNeg)) 0 : Nat) : Int) = L17.toInt := by
                      rw [nI_cl (x := L1) (by omega)]
                      have e5 : L16.toNatClampNeg = 0 := by by_cases q : 0 < L16.toInt; (have := hi28 q; omega); omega
                      rw [pick_n (by omega), hi27, e5]; rfl
                    have m9 : mxS te (fun k9 => ¬ bitF x (nI k9) = 0) 6 (L1.toNatClampNeg + 1) = max (mxS te (fun k9 => ¬ bitF x (nI k9) = 0) 6 L1.toNatClampNeg) (pick (¬ bitF x (nI L1.toNatClampNeg) = 0) (cntS te (fun k9 => ¬ bitF x (nI k9) = 0) 6 (te L1.toNatClampNeg)) 0) := rfl
                    rw [n110, m9]
                    omega
                  exact ih5  z107 L17  _ _ _ (by omega) (by omega) (by omega) (by omega) hmt111  (by omega) h (lv_sub hl [0, 1, 4, 5] rfl)
        exact hloop18 7 (0 : Int32) (0 : Int32)  _ _ _ (by have q0 : (0 : Int32).toInt = 0 := rfl; omega) (by have q0 : (0 : Int32).toInt = 0 := rfl; omega) (by have q0 : (0 : Int32).toInt = 0 := rfl; omega) (by have q0 : (0 : Int32).toInt = 0 := rfl; omega) (by have q0 : (0 : Int32).toInt = 0 := rfl; omega) (show (0 : Int32).toInt = ((cntS te (fun k9 => ¬ bitF x (nI k9) = 0) 0 (te L1.toNatClampNeg) : Nat) : Int) from rfl) (fun h9 => by have q0 : (0 : Int32).toInt = 0 := rfl; omega)  (by have q0 : (0 : Int32).toInt = 0 := rfl; omega) h (lv_sub hl [0, 1, 2, 3, 4, 5] rfl)
  exact hloop3 7 (0 : Int32) (0 : Int32)  _ _ _ (by have q0 : (0 : Int32).toInt = 0 := rfl; omega) (by have q0 : (0 : Int32).toInt = 0 := rfl; omega) (by have q0 : (0 : Int32).toInt = 0 := rfl; omega) (by have q0 : (0 : Int32).toInt = 0 := rfl; omega) (show (0 : Int32).toInt = ((mxS te (fun k9 => ¬ bitF x (nI k9) = 0) 6 0 : Nat) : Int) from rfl)  (by have q0 : (0 : Int32).toInt = 0 := rfl; omega) h (lv_sub hl [0, 1, 2, 3] rfl)

set_option maxHeartbeats 4000000 in
set_option maxRecDepth 100000 in
theorem c_MF_look (l : Launch) (G : va_G) (cI cB cZ cO : ClassId) (ad : Nat → Nat) (w : Nat → va_E) (f : Nat → Int32) (ok : OK cI cB cZ cO ad w) (i : Int32)  (pf : w 65 = .inl (cI, 177, .inl f)) (pal : alA f) (hht : 0 ≤ i.toInt ∧ i.toInt < (f 0).toInt → 0 ≤ (f (23 + i.toNatClampNeg)).toInt) : NI l G (tyq cI cB cZ cO) yX9_look cX9_look 7 (some .int) 3 76 74 ad w [.ref (ad 64), .int i] (fun r w1 => OK cI cB cZ cO ad w1 ∧ KM w w1 ∧ (((0 ≤ i.toInt ∧ i.toInt < (f 0).toInt) ∧ LKP (fitN (fun k9 => agP 0 (fun j9 => f (41 + j9)) (f 2).toNatClampNeg i (nI k9)) 6) (f (23 + i.toNatClampNeg)).toNatClampNeg r) ∨ (¬ (0 ≤ i.toInt ∧ i.toInt < (f 0).toInt) ∧ r = -2))) := by
  refine nk_i (own := "NoonShadeModel") rfl (by decide) (Nat.le_of_ble_eq_true rfl) ?_
  intro p e s m below meth c ls X hD hN hr hlk h hl
  have hx := X.1.1
  have hb := X.1.2.1
  have hown := X.1.2.2.2.1
  have hts := X.1.2.2.2.2
  have hl : lv_has ls 7 [(0, .ref (ad 64)), (1, .int i)] := hl
  obtain ⟨v0, ev0⟩ : ∃ z : Int32, f 0 = z := ⟨_, rfl⟩
  have hv0 := (alA_rd pal ev0).1 rfl
  have hw0 := congrArg Int32.toInt ev0
  obtain ⟨vh, evh⟩ : ∃ z : Int32, f (23 + i.toNatClampNeg) = z := ⟨_, rfl⟩
  refine lv_aload_n hx hb dX9_look_0 rfl (lv_at hl 0 rfl) ?_
  refine lv_iload_n hx hb dX9_look_1 rfl (lv_at hl 1 rfl) ?_
  obtain ⟨x5, x6, t7, t8, t9, t10, t11, t12, f4, h13, h14⟩ := (show sM ad (w 64) from ok 64 (by decide))
  have f15 : w 64 = .inr (7, [.ref (ad 65), .ref (ad 66), .ref (ad 67), .ref (ad 68), .long x5, .long x6, .ref (ad 69), .int t7, .ref (ad 70), .ref (ad 71), .int t8, .int t9, .int t10, .int t11, .int t12, .ref (ad 72), .ref (ad 73)]) := f4
  refine n_Vi (na := 1) (As := [.int i]) (rest := []) X hD hN h rfl (c_MF_isCaster l G cI cB cZ cO ad w f ok i  pf pal) ⟨kv_519, kv_520, kv_521, kv_470, kv_522⟩ rfl ⟨by decide, by decide, by decide⟩ ⟨Nat.le_of_ble_eq_true rfl, Nat.le_of_ble_eq_true rfl⟩ ⟨Nat.zero_le _, Nat.zero_le _⟩ (by decide) f15 rfl rfl hl.1 rfl (Nat.le_of_ble_eq_true rfl) dX9_look_2 (fun r1 w2 H locs hp3 h => ?_)
  obtain ⟨rfl, hr16⟩ := hp3
  rcases hr16 with ⟨hq17, hq18, rfl⟩ | ⟨hq19, rfl⟩
  · refine lv_if_ne (tgt := 15) hx hb dX9_look_5 (by decide) (fun _ => ?_) (fun hc => absurd hc (by decide))
    refine lv_aload_n hx hb dX9_look_15 rfl (lv_at hl 0 rfl) ?_
    refine lv_iload_n hx hb dX9_look_16 rfl (lv_at hl 1 rfl) ?_
    have hvh : 0 ≤ vh.toInt := by rw [← evh]; exact hht ⟨by omega, by omega⟩
    refine n_Vi (na := 1) (As := [.int i]) (rest := []) X hD hN h rfl (c_MF_kindsOfCaster l G cI cB cZ cO ad w f ok i pf pal) ⟨kv_588, kv_589, kv_590, kv_470, kv_591⟩ rfl ⟨by decide, by decide, by decide⟩ ⟨Nat.le_of_ble_eq_true rfl, Nat.le_of_ble_eq_true rfl⟩ ⟨Nat.zero_le _, Nat.zero_le _⟩ (by decide) f15 rfl rfl hl.1 rfl (Nat.le_of_ble_eq_true rfl) dX9_look_17 (fun r20 w21 H locs hp22 h => ?_)
    obtain ⟨rfl, hr23⟩ := hp22
    have hfr24 : 0 ≤ r20.toInt ∧ r20.toInt ≤ 63 := by rw [← hr23]; exact fitN_rg 6 (Nat.le_refl _)
    refine lv_istore_n (lv' := [(2, .int r20), (0, .ref (ad 64)), (1, .int i)]) hx hb dX9_look_20 rfl hl (by decide) rfl (fun ls hl => ?_)
    refine lv_iconst (v := (-1)) hx hb dX9_look_21 (by decide) ?_
    refine lv_istore_n (lv' := [(3, .int (-1)), (2, .int r20), (0, .ref (ad 64)), (1, .int i)]) hx hb dX9_look_22 rfl hl (by decide) rfl (fun ls hl => ?_)
    refine lv_ldc (v := 1000000) hx hb hown (hts _ kv_596) dX9_look_23 ?_
    refine lv_istore (lv' := [(4, .int 1000000), (3, .int (-1)), (2, .int r20), (0, .ref (ad 64)), (1, .int i)]) hx hb dX9_look_25 hl (by decide) rfl (fun ls hl => ?_)
    refine lv_iconst (v := 0) hx hb dX9_look_27 (by decide) ?_
    refine lv_istore (lv' := [(5, .int 0), (4, .int 1000000), (3, .int (-1)), (2, .int r20), (0, .ref (ad 64)), (1, .int i)]) hx hb dX9_look_28 hl (by decide) rfl (fun ls hl => ?_)
    have hloop29 : ∀ (d30 : Nat) (L25 : Int32) (L26 : Int32) (L27 : Int32) (wL28 : Nat → va_E) (H : Heap) (locs : List Loc) (ls : Array Slot), 0 ≤ L25.toInt → L25.toInt ≤ 24 → (L25.toInt = 0 ∨ 0 < r20.toInt) → (SC (tT 0 r20 (f (23 + i.toNatClampNeg)).toNatClampNeg) 1000000 (fun k9 => (k9 : Int)) L25.toNatClampNeg L27 L26) → OK cI cB cZ cO ad wL28 → KM w wL28 → wL28 65 = .inl (cI, 177, .inl f) → 24 - L25.toInt < (d30 : Int) → St G 74 ad (wA 74 ad s.heap.size) s.heap wL28 H locs → lv_has ls 7 [(5, .int L25), (4, .int L26), (3, .int L27), (2, .int r20), (0, .ref (ad 64)), (1, .int i)] → W p l e { frames := 3, cells := 0, slots := 0, locals := 76 } s m [.ref (ad 64), .int i].toArray below meth c H locs 0 0 (MQ below (va_Qi (fun r w1 => OK cI cB cZ cO ad w1 ∧ KM w w1 ∧ (((0 ≤ i.toInt ∧ i.toInt < (f 0).toInt) ∧ LKP (fitN (fun k9 => agP 0 (fun j9 => f (41 + j9)) (f 2).toNatClampNeg i (nI k9)) 6) (f (23 + i.toNatClampNeg)).toNatClampNeg r) ∨ (¬ (0 ≤ i.toInt ∧ i.toInt < (f 0).toInt) ∧ r = -2))) (Aft G 74 ad) (wA 74 ad s.heap.size)) [.ref (ad 64), .int i].toArray s 0 0 (wA 74 ad s.heap.size)) (F0 m 30 ls []) := by
      intro d30
      induction d30 with
      | zero => intro L25 L26 L27 wL28 H locs ls hi33 hi34 hi35 hi36 ok37 kx38 cf39 hm32 h hl; exfalso; omega
      | succ d30 ih31 =>
        intro L25 L26 L27 wL28 H locs ls hi33 hi34 hi35 hi36 ok37 kx38 cf39 hm32 h hl
        refine lv_iload hx hb dX9_look_30 (lv_at hl 0 rfl) ?_
        refine lv_bipush (v := 24) hx hb dX9_look_32 (by decide) ?_
        refine lv_icmp_ge (tgt := 123) hx hb dX9_look_34 (by decide) (fun hc40 => ?_) (fun hc40 => ?_)
        · have hc40 : 24 ≤ (L25).toInt := i_le hc40 rfl rfl
          refine lv_iload_n hx hb dX9_look_123 rfl (lv_at hl 2 rfl) ?_
          have c542 := cl_of (x := L25) (by omega)
          have hlk41 : LKP r20 (f (23 + i.toNatClampNeg)).toNatClampNeg L27 := by
            rcases hi36 with ⟨a9, b9, c9⟩ | ⟨a9, b9, c9⟩
            · exfalso; omega
            · have e9 : L25.toNatClampNeg = 24 := by omega
              rw [e9] at c9
              exact Or.inr ⟨by omega, c9⟩
          exact e_i X h hr hlk dX9_look_124 ⟨ok37, kx38, Or.inl ⟨by omega, by rw [hr23]; exact hlk41⟩⟩
        · have hc40 : ¬ 24 ≤ (L25).toInt := i_nle hc40 rfl rfl
          refine lv_iload_n hx hb dX9_look_37 rfl (lv_at hl 3 rfl) ?_
          refine lv_if_le (tgt := 123) hx hb dX9_look_38 (by decide) (fun hc43 => ?_) (fun hc43 => ?_)
          · have hc43 : (r20).toInt ≤ 0 := i_le hc43 rfl rfl
            refine lv_iload_n hx hb dX9_look_123 rfl (lv_at hl 2 rfl) ?_
            have c545 := cl_of (x := L25) (by omega)
            have hlk44 : LKP r20 (f (23 + i.toNatClampNeg)).toNatClampNeg L27 := by
              rcases hi36 with ⟨a9, b9, c9⟩ | ⟨a9, b9, c9⟩
              · exact Or.inl ⟨by omega, c9⟩
              · exfalso; omega
            exact e_i X h hr hlk dX9_look_124 ⟨ok37, kx38, Or.inl ⟨by omega, by rw [hr23]; exact hlk44⟩⟩
          · have hc43 : ¬ (r20).toInt ≤ 0 := i_nle hc43 rfl rfl
            refine lv_iconst (v := 0) hx hb dX9_look_41 (by decide) ?_
            refine lv_istore (lv' := [(6, .int 0), (5, .int L25), (4, .int L26), (3, .int L27), (2, .int r20), (0, .ref (ad 64)), (1, .int i)]) hx hb dX9_look_42 hl (by decide) rfl (fun ls hl => ?_)
            have hloop49 : ∀ (d50 : Nat) (L46 : Int32) (C47 : Nat → Int32) (wL48 : Nat → va_E) (H : Heap) (locs : List Loc) (ls : Array Slot), 0 ≤ L46.toInt → L46.toInt ≤ 6 → (∀ j : Nat, j < L46.toNatClampNeg → C47 j = sayF 0 (nI j) vh L25) → OK cI cB cZ cO ad wL48 → KM w wL48 → wL48 70 = .inl (cI, 6, .inl C47) → wL48 65 = .inl (cI, 177, .inl f) → 6 - L46.toInt < (d50 : Int) → St G 74 ad (wA 74 ad s.heap.size) s.heap wL48 H locs → lv_has ls 7 [(6, .int L46), (5, .int L25), (4, .int L26), (3, .int L27), (2, .int r20), (0, .ref (ad 64)), (1, .int i)] → W p l e { frames := 3, cells := 0, slots := 0, locals := 76 } s m [.ref (ad 64), .int i].toArray below meth c H locs 0 0 (MQ below (va_Qi (fun r w1 => OK cI cB cZ cO ad w1 ∧ KM w w1 ∧ (((0 ≤ i.toInt ∧ i.toInt < (f 0).toInt) ∧ LKP (fitN (fun k9 => agP 0 (fun j9 => f (41 + j9)) (f 2).toNatClampNeg i (nI k9)) 6) (f (23 + i.toNatClampNeg)).toNatClampNeg r) ∨ (¬ (0 ≤ i.toInt ∧ i.toInt < (f 0).toInt) ∧ r = -2))) (Aft G 74 ad) (wA 74 ad s.heap.size)) [.ref (ad 64), .int i].toArray s 0 0 (wA 74 ad s.heap.size)) (F0 m 44 ls []) := by
              intro d50
              induction d50 with
              | zero => intro L46 C47 wL48 H locs ls hi53 hi54 hi55 ok56 kx57 cf58 cf59 hm52 h hl; exfalso; omega
              | succ d50 ih51 =>
                intro L46 C47 wL48 H locs ls hi53 hi54 hi55 ok56 kx57 cf58 cf59 hm52 h hl
                refine lv_iload hx hb dX9_look_44 (lv_at hl 0 rfl) ?_
                refine lv_bipush (v := 6) hx hb dX9_look_46 (by decide) ?_
                refine lv_icmp_ge (tgt := 80) hx hb dX9_look_48 (by decide) (fun hc60 => ?_) (fun hc60 => ?_)
                · have hc60 : 6 ≤ (L46).toInt := i_le hc60 rfl rfl
                  refine lv_aload_n hx hb dX9_look_80 rfl (lv_at hl 5 rfl) ?_
                  refine lv_iload_n hx hb dX9_look_81 rfl (lv_at hl 4 rfl) ?_
                  obtain ⟨x65, x66, t67, t68, t69, t70, t71, t72, f64, h73, h74⟩ := (show sM ad (wL48 64) from ok56 64 (by decide))
                  have f75 : wL48 64 = .inr (7, [.ref (ad 65), .ref (ad 66), .ref (ad 67), .ref (ad 68), .long x65, .long x66, .ref (ad 69), .int t67, .ref (ad 70), .ref (ad 71), .int t68, .int t69, .int t70, .int t71, .int t72, .ref (ad 72), .ref (ad 73)]) := f64
                  refine n_Vi (na := 1) (As := [.int r20]) (rest := []) X hD hN h rfl (c_MF_mostAlike l G cI cB cZ cO ad wL48 C47 ok56 r20 cf58) ⟨kv_597, kv_598, kv_599, kv_470, kv_600⟩ rfl ⟨by decide, by decide, by decide⟩ ⟨Nat.le_of_ble_eq_true rfl, Nat.le_of_ble_eq_true rfl⟩ ⟨Nat.zero_le _, Nat.zero_le _⟩ (by decide) f75 rfl rfl hl.1 rfl (Nat.le_of_ble_eq_true rfl) dX9_look_82 (fun r61 w62 H locs hp63 h => ?_)
                  obtain ⟨rfl, hr76⟩ := hp63
                  refine lv_istore (lv' := [(6, .int r61), (5, .int L25), (4, .int L26), (3, .int L27), (2, .int r20), (0, .ref (ad 64)), (1, .int i)]) hx hb dX9_look_85 hl (by decide) rfl (fun ls hl => ?_)
                  refine lv_iload hx hb dX9_look_87 (lv_at hl 0 rfl) ?_
                  refine lv_iload hx hb dX9_look_89 (lv_at hl 2 rfl) ?_
                  refine lv_icmp_ge (tgt := 99) hx hb dX9_look_91 (by decide) (fun hc77 => ?_) (fun hc77 => ?_)
                  · have hc77 : (L26).toInt ≤ (r61).toInt := i_le hc77 rfl rfl
                    refine lv_iload_n hx hb dX9_look_99 rfl (lv_at hl 3 rfl) ?_
                    refine lv_istore_n (lv' := [(3, .int L27), (6, .int r61), (5, .int L25), (4, .int L26), (2, .int r20), (0, .ref (ad 64)), (1, .int i)]) hx hb dX9_look_100 rfl hl (by decide) rfl (fun ls hl => ?_)
                    refine lv_iload hx hb dX9_look_101 (lv_at hl 1 rfl) ?_
                    refine lv_iload hx hb dX9_look_103 (lv_at hl 3 rfl) ?_
                    refine lv_icmp_ge (tgt := 113) hx hb dX9_look_105 (by decide) (fun hc78 => ?_) (fun hc78 => ?_)
                    · have hc78 : (L26).toInt ≤ (r61).toInt := i_le hc78 rfl rfl
                      refine lv_iload hx hb dX9_look_113 (lv_at hl 3 rfl) ?_
                      refine lv_istore (lv' := [(4, .int L26), (3, .int L27), (6, .int r61), (5, .int L25), (2, .int r20), (0, .ref (ad 64)), (1, .int i)]) hx hb dX9_look_115 hl (by decide) rfl (fun ls hl => ?_)
                      obtain ⟨z79, e80, t81⟩ := x_add (x := L25) (y := 1) (a := L25.toInt) (b := 1) rfl rfl (by omega) (by omega)
                      have n82 : z79.toNatClampNeg = L25.toNatClampNeg + 1 := cl_addn (x := L25) (y := 1) rfl rfl t81 (by omega) (by decide)
                      refine lv_iinc (v := z79) (lv' := [(5, .int z79), (4, .int L26), (3, .int L27), (6, .int r61), (2, .int r20), (0, .ref (ad 64)), (1, .int i)]) hx hb dX9_look_117 hl (k := 3) rfl e80 (by decide) rfl (fun ls hl => ?_)
                      refine lv_goto (tgt := 30) hx hb dX9_look_120 (by decide) ?_
                      have c1_hsc83 := cl_of (x := L25) (by omega)
                      have c2_hsc83 := cl_of (x := L46) (by omega)
                      have ht_hsc83 : r61.toInt = (((tT 0 r20 (f (23 + i.toNatClampNeg)).toNatClampNeg) L25.toNatClampNeg : Nat) : Int) := by
                        have d1 : (f (23 + i.toNatClampNeg)).toNatClampNeg + L25.toNatClampNeg / 24 = (f (23 + i.toNatClampNeg)).toNatClampNeg := by omega
                        have d2 : L25.toNatClampNeg % 24 = L25.toNatClampNeg := by omega
                        show r61.toInt = ((mcS (fun k9 => sayF 0 (nI k9) (nI ((f (23 + i.toNatClampNeg)).toNatClampNeg + L25.toNatClampNeg / 24)) (nI (L25.toNatClampNeg % 24))) (fun k9 => ¬ bitF r20 (nI k9) = 0) 6 : Nat) : Int)
                        rw [d1, d2, nI_cl (x := (f (23 + i.toNatClampNeg))) (by rw [evh]; omega), evh, nI_cl (x := L25) (by omega), mc_mx, hr76, mxS_cong (fun k hk => hi55 k (by omega)) 6 (Nat.le_refl _)]
                      have hsc83 : SC (tT 0 r20 (f (23 + i.toNatClampNeg)).toNatClampNeg) 1000000 (fun k9 => (k9 : Int)) (L25.toNatClampNeg + 1) L27 L26 := by
                        exact hi36.ge ht_hsc83 (by omega) (by have := tT_le (bk := 0) (bits := r20) (lo := (f (23 + i.toNatClampNeg)).toNatClampNeg) L25.toNatClampNeg; omega)
                      have hst84 : SC (tT 0 r20 (f (23 + i.toNatClampNeg)).toNatClampNeg) 1000000 (fun k9 => (k9 : Int)) z79.toNatClampNeg L27 L26 := by
                        have e9 : z79.toNatClampNeg = L25.toNatClampNeg + 1 := by rw [n82]
                        rw [e9]; exact hsc83
                      exact ih31  z79 L26 L27 wL48 _ _ _ (by omega) (by omega) (by omega) hst84 ok56 kx57 cf59 (by omega) h (lv_sub hl [0, 1, 2, 4, 5, 6] rfl)
                    · have hc78 : ¬ (L26).toInt ≤ (r61).toInt := i_nle hc78 rfl rfl
                      refine lv_iload hx hb dX9_look_108 (lv_at hl 1 rfl) ?_
                      refine lv_goto (tgt := 115) hx hb dX9_look_110 (by decide) ?_
                      refine lv_istore (lv' := [(4, .int r61), (3, .int L27), (6, .int r61), (5, .int L25), (2, .int r20), (0, .ref (ad 64)), (1, .int i)]) hx hb dX9_look_115 hl (by decide) rfl (fun ls hl => ?_)
                      obtain ⟨z85, e86, t87⟩ := x_add (x := L25) (y := 1) (a := L25.toInt) (b := 1) rfl rfl (by omega) (by omega)
                      have n88 : z85.toNatClampNeg = L25.toNatClampNeg + 1 := cl_addn (x := L25) (y := 1) rfl rfl t87 (by omega) (by decide)
                      refine lv_iinc (v := z85) (lv' := [(5, .int z85), (4, .int r61), (3, .int L27), (6, .int r61), (2, .int r20), (0, .ref (ad 64)), (1, .int i)]) hx hb dX9_look_117 hl (k := 3) rfl e86 (by decide) rfl (fun ls hl => ?_)
                      refine lv_goto (tgt := 30) hx hb dX9_look_120 (by decide) ?_
                      have c1_hsc89 := cl_of (x := L25) (by omega)
                      have c2_hsc89 := cl_of (x := L46) (by omega)
                      have ht_hsc89 : r61.toInt = (((tT 0 r20 (f (23 + i.toNatClampNeg)).toNatClampNeg) L25.toNatClampNeg : Nat) : Int) := by
                        have d1 : (f (23 + i.toNatClampNeg)).toNatClampNeg + L25.toNatClampNeg / 24 = (f (23 + i.toNatClampNeg)).toNatClampNeg := by omega
                        have d2 : L25.toNatClampNeg % 24 = L25.toNatClampNeg := by omega
                        show r61.toInt = ((mcS (fun k9 => sayF 0 (nI k9) (nI ((f (23 + i.toNatClampNeg)).toNatClampNeg + L25.toNatClampNeg / 24)) (nI (L25.toNatClampNeg % 24))) (fun k9 => ¬ bitF r20 (nI k9) = 0) 6 : Nat) : Int)
                        rw [d1, d2, nI_cl (x := (f (23 + i.toNatClampNeg))) (by rw [evh]; omega), evh, nI_cl (x := L25) (by omega), mc_mx, hr76, mxS_cong (fun k hk => hi55 k (by omega)) 6 (Nat.le_refl _)]
                      have hsc89 : SC (tT 0 r20 (f (23 + i.toNatClampNeg)).toNatClampNeg) 1000000 (fun k9 => (k9 : Int)) (L25.toNatClampNeg + 1) L27 r61 := by
                        exfalso; omega
                      have hst90 : SC (tT 0 r20 (f (23 + i.toNatClampNeg)).toNatClampNeg) 1000000 (fun k9 => (k9 : Int)) z85.toNatClampNeg L27 r61 := by
                        have e9 : z85.toNatClampNeg = L25.toNatClampNeg + 1 := by rw [n88]
                        rw [e9]; exact hsc89
                      exact ih31  z85 r61 L27 wL48 _ _ _ (by omega) (by omega) (by omega) hst90 ok56 kx57 cf59 (by omega) h (lv_sub hl [0, 1, 2, 4, 5, 6] rfl)
                  · have hc77 : ¬ (L26).toInt ≤ (r61).toInt := i_nle hc77 rfl rfl
                    refine lv_iload hx hb dX9_look_94 (lv_at hl 1 rfl) ?_
                    refine lv_goto (tgt := 100) hx hb dX9_look_96 (by decide) ?_
                    refine lv_istore_n (lv' := [(3, .int L25), (6, .int r61), (5, .int L25), (4, .int L26), (2, .int r20), (0, .ref (ad 64)), (1, .int i)]) hx hb dX9_look_100 rfl hl (by decide) rfl (fun ls hl => ?_)
                    refine lv_iload hx hb dX9_look_101 (lv_at hl 1 rfl) ?_
                    refine lv_iload hx hb dX9_look_103 (lv_at hl 3 rfl) ?_
                    refine lv_icmp_ge (tgt := 113) hx hb dX9_look_105 (by decide) (fun hc91 => ?_) (fun hc91 => ?_)
                    · have hc91 : (L26).toInt ≤ (r61).toInt := i_le hc91 rfl rfl
                      refine lv_iload hx hb dX9_look_113 (lv_at hl 3 rfl) ?_
                      refine lv_istore (lv' := [(4, .int L26), (3, .int L25), (6, .int r61), (5, .int L25), (2, .int r20), (0, .ref (ad 64)), (1, .int i)]) hx hb dX9_look_115 hl (by decide) rfl (fun ls hl => ?_)
                      obtain ⟨z92, e93, t94⟩ := x_add (x := L25) (y := 1) (a := L25.toInt) (b := 1) rfl rfl (by omega) (by omega)
                      have n95 : z92.toNatClampNeg = L25.toNatClampNeg + 1 := cl_addn (x := L25) (y := 1) rfl rfl t94 (by omega) (by decide)
                      refine lv_iinc (v := z92) (lv' := [(5, .int z92), (4, .int L26), (3, .int L25), (6, .int r61), (2, .int r20), (0, .ref (ad 64)), (1, .int i)]) hx hb dX9_look_117 hl (k := 3) rfl e93 (by decide) rfl (fun ls hl => ?_)
                      refine lv_goto (tgt := 30) hx hb dX9_look_120 (by decide) ?_
                      have c1_hsc96 := cl_of (x := L25) (by omega)
                      have c2_hsc96 := cl_of (x := L46) (by omega)
                      have ht_hsc96 : r61.toInt = (((tT 0 r20 (f (23 + i.toNatClampNeg)).toNatClampNeg) L25.toNatClampNeg : Nat) : Int) := by
                        have d1 : (f (23 + i.toNatClampNeg)).toNatClampNeg + L25.toNatClampNeg / 24 = (f (23 + i.toNatClampNeg)).toNatClampNeg := by omega
                        have d2 : L25.toNatClampNeg % 24 = L25.toNatClampNeg := by omega
                        show r61.toInt = ((mcS (fun k9 => sayF 0 (nI k9) (nI ((f (23 + i.toNatClampNeg)).toNatClampNeg + L25.toNatClampNeg / 24)) (nI (L25.toNatClampNeg % 24))) (fun k9 => ¬ bitF r20 (nI k9) = 0) 6 : Nat) : Int)
                        rw [d1, d2, nI_cl (x := (f (23 + i.toNatClampNeg))) (by rw [evh]; omega), evh, nI_cl (x := L25) (by omega), mc_mx, hr76, mxS_cong (fun k hk => hi55 k (by omega)) 6 (Nat.le_refl _)]
                      have hsc96 : SC (tT 0 r20 (f (23 + i.toNatClampNeg)).toNatClampNeg) 1000000 (fun k9 => (k9 : Int)) (L25.toNatClampNeg + 1) L25 L26 := by
                        exfalso; omega
                      have hst97 : SC (tT 0 r20 (f (23 + i.toNatClampNeg)).toNatClampNeg) 1000000 (fun k9 => (k9 : Int)) z92.toNatClampNeg L25 L26 := by
                        have e9 : z92.toNatClampNeg = L25.toNatClampNeg + 1 := by rw [n95]
                        rw [e9]; exact hsc96
                      exact ih31  z92 L26 L25 wL48 _ _ _ (by omega) (by omega) (by omega) hst97 ok56 kx57 cf59 (by omega) h (lv_sub hl [0, 1, 2, 4, 5, 6] rfl)
                    · have hc91 : ¬ (L26).toInt ≤ (r61).toInt := i_nle hc91 rfl rfl
                      refine lv_iload hx hb dX9_look_108 (lv_at hl 1 rfl) ?_
                      refine lv_goto (tgt := 115) hx hb dX9_look_110 (by decide) ?_
                      refine lv_istore (lv' := [(4, .int r61), (3, .int L25), (6, .int r61), (5, .int L25), (2, .int r20), (0, .ref (ad 64)), (1, .int i)]) hx hb dX9_look_115 hl (by decide) rfl (fun ls hl => ?_)
                      obtain ⟨z98, e99, t100⟩ := x_add (x := L25) (y := 1) (a := L25.toInt) (b := 1) rfl rfl (by omega) (by omega)
                      have n101 : z98.toNatClampNeg = L25.toNatClampNeg + 1 := cl_addn (x := L25) (y := 1) rfl rfl t100 (by omega) (by decide)
                      refine lv_iinc (v := z98) (lv' := [(5, .int z98), (4, .int r61), (3, .int L25), (6, .int r61), (2, .int r20), (0, .ref (ad 64)), (1, .int i)]) hx hb dX9_look_117 hl (k := 3) rfl e99 (by decide) rfl (fun ls hl => ?_)
                      refine lv_goto (tgt := 30) hx hb dX9_look_120 (by decide) ?_
                      have c1_hsc102 := cl_of (x := L25) (by omega)
                      have c2_hsc102 := cl_of (x := L46) (by omega)
                      have ht_hsc102 : r61.toInt = (((tT 0 r20 (f (23 + i.toNatClampNeg)).toNatClampNeg) L25.toNatClampNeg : Nat) : Int) := by
                        have d1 : (f (23 + i.toNatClampNeg)).toNatClampNeg + L25.toNatClampNeg / 24 = (f (23 + i.toNatClampNeg)).toNatClampNeg := by omega
                        have d2 : L25.toNatClampNeg % 24 = L25.toNatClampNeg := by omega
                        show r61.toInt = ((mcS (fun k9 => sayF 0 (nI k9) (nI ((f (23 + i.toNatClampNeg)).toNatClampNeg + L25.toNatClampNeg / 24)) (nI (L25.toNatClampNeg % 24))) (fun k9 => ¬ bitF r20 (nI k9) = 0) 6 : Nat) : Int)
                        rw [d1, d2, nI_cl (x := (f (23 + i.toNatClampNeg))) (by rw [evh]; omega), evh, nI_cl (x := L25) (by omega), mc_mx, hr76, mxS_cong (fun k hk => hi55 k (by omega)) 6 (Nat.le_refl _)]
                      have hsc102 : SC (tT 0 r20 (f (23 + i.toNatClampNeg)).toNatClampNeg) 1000000 (fun k9 => (k9 : Int)) (L25.toNatClampNeg + 1) L25 r61 := by
                        exact hi36.lt ht_hsc102 (by omega) (by show L25.toInt = ((L25.toNatClampNeg : Nat) : Int); omega)
                      have hst103 : SC (tT 0 r20 (f (23 + i.toNatClampNeg)).toNatClampNeg) 1000000 (fun k9 => (k9 : Int)) z98.toNatClampNeg L25 r61 := by
                        have e9 : z98.toNatClampNeg = L25.toNatClampNeg + 1 := by rw [n101]
                        rw [e9]; exact hsc102
                      exact ih31  z98 r61 L25 wL48 _ _ _ (by omega) (by omega) (by omega) hst103 ok56 kx57 cf59 (by omega) h (lv_sub hl [0, 1, 2, 4, 5, 6] rfl)
                · have hc60 : ¬ 6 ≤ (L46).toInt := i_nle hc60 rfl rfl
                  refine lv_aload_n hx hb dX9_look_51 rfl (lv_at hl 5 rfl) ?_
                  obtain ⟨x105, x106, t107, t108, t109, t110, t111, t112, f104, h113, h114⟩ := (show sM ad (wL48 64) from ok56 64 (by decide))
                  have f115 : wL48 64 = .inr (7, [.ref (ad 65), .ref (ad 66), .ref (ad 67), .ref (ad 68), .long x105, .long x106, .ref (ad 69), .int t107, .ref (ad 70), .ref (ad 71), .int t108, .int t109, .int t110, .int t111, .int t112, .ref (ad 72), .ref (ad 73)]) := f104
                  refine r_get kc9 X h 64 8 (by decide) rfl f115 (by decide) kv_518 rfl dX9_look_52 ?_
                  refine lv_iload hx hb dX9_look_55 (lv_at hl 0 rfl) ?_
                  refine lv_iload hx hb dX9_look_57 (lv_at hl 0 rfl) ?_
                  refine lv_aload_n hx hb dX9_look_59 rfl (lv_at hl 5 rfl) ?_
                  refine r_get kc9 X h 64 0 (by decide) rfl f115 (by decide) kv_467 rfl dX9_look_60 ?_
                  refine lv_bipush (v := 23) hx hb dX9_look_63 (by decide) ?_
                  refine lv_iload_n hx hb dX9_look_65 rfl (lv_at hl 6 rfl) ?_
                  obtain ⟨z118, e116, t117⟩ := x_add (x := (23 : Int32)) (y := i) (a := 23) (b := (i).toInt) rfl rfl (by omega) (by omega)
                  have n119 : z118.toNatClampNeg = 23 + i.toNatClampNeg := cl_addn (x := (23 : Int32)) (y := i) rfl rfl t117 (by decide) (by omega)
                  refine o_iadd (z := z118) hx hb dX9_look_66 e116 ?_
                  refine o_iald (v := vh) X h 65 0 (by decide) rfl cf59 rfl (in_of (by omega) (by omega)) (by rw [n119]; exact evh) dX9_look_67 ?_
                  refine lv_iload hx hb dX9_look_68 (lv_at hl 1 rfl) ?_
                  refine n_Si (na := 3) (As := [.int L46, .int vh, .int L25]) (rest := [.int L46, .ref (ad 70)]) X hD hN h (c_MF_givesAs l G cI cB cZ cO ad wL48   L46 vh L25  ) ⟨kv_477, kv_478, kv_470, kv_479⟩ ⟨by decide, by decide, by decide⟩ ⟨Nat.le_of_ble_eq_true rfl, Nat.le_of_ble_eq_true rfl⟩ ⟨Nat.zero_le _, Nat.zero_le _⟩ rfl hl.1 rfl (Nat.le_of_ble_eq_true rfl) dX9_look_70 (fun r120 w121 H locs hp122 h => ?_)
                  obtain ⟨rfl, hr123⟩ := hp122
                  obtain ⟨g124, e125⟩ : ∃ z : Nat → Int32, upd C47 L46.toNatClampNeg r120 = z := ⟨_, rfl⟩
                  have p127 : anyA g124 := trivial
                  refine o_iast (f1 := g124) X hD h 70 0 (by decide) rfl cf58 rfl (in_of (by omega) (by omega)) e125 dX9_look_73 (fun H locs w128 e129 h => ?_)
                  have f130 : w128 70 = .inl (cI, 6, .inl g124) := (congrFun e129 _).trans (va_up_self _ _ _)
                  have ok131 : OK cI cB cZ cO ad w128 := OK.up ok56 e129 (sA_mk p127)
                  have kx132 : KM w w128 := KM.up kx57 e129 cf58 rfl
                  obtain ⟨z133, e134, t135⟩ := x_add (x := L46) (y := 1) (a := L46.toInt) (b := 1) rfl rfl (by omega) (by omega)
                  have n136 : z133.toNatClampNeg = L46.toNatClampNeg + 1 := cl_addn (x := L46) (y := 1) rfl rfl t135 (by omega) (by decide)
                  refine lv_iinc (v := z133) (lv' := [(6, .int z133), (5, .int L25), (4, .int L26), (3, .int L27), (2, .int r20), (0, .ref (ad 64)), (1, .int i)]) hx hb dX9_look_74 hl (k := 0) rfl e134 (by decide) rfl (fun ls hl => ?_)
                  refine lv_goto (tgt := 44) hx hb dX9_look_77 (by decide) ?_
                  have f137 : w128 65 = .inl (cI, 177, .inl f) := by rw [e129, va_up_ne _ _ (by decide)]; exact cf59
                  exact ih51  z133 g124 w128 _ _ _ (by omega) (by omega) (fun j hj => by rw [n136] at hj; rw [← e125]; by_cases q9 : j = L46.toNatClampNeg; (subst q9; rw [pk_us, nI_cl (x := L46) (by omega)]; unfold sayF; rw [if_pos rfl]; exact hr123.symm); (rw [pk_un q9]; exact hi55 j (by omega))) ok131 kx132 f130 f137 (by omega) h (lv_sub hl [0, 1, 2, 3, 4, 5, 6] rfl)
            obtain ⟨g139, f138, p140⟩ := (show sA cI 6 (anyA) (wL28 70) from ok37 70 (by decide))
            have f141 : wL28 70 = .inl (cI, 6, .inl g139) := f138
            exact hloop49 7 (0 : Int32) g139 wL28 _ _ _ (by have q0 : (0 : Int32).toInt = 0 := rfl; omega) (by have q0 : (0 : Int32).toInt = 0 := rfl; omega) (fun j hj => absurd hj (Nat.not_lt_zero _)) ok37 kx38 f141 cf39 (by have q0 : (0 : Int32).toInt = 0 := rfl; omega) h (lv_sub hl [0, 1, 2, 3, 4, 5, 6] rfl)
    exact hloop29 25 (0 : Int32) (1000000 : Int32) ((-1) : Int32) w _ _ _ (by have q0 : ((-1) : Int32).toInt = (-1) := rfl; have q1 : (0 : Int32).toInt = 0 := rfl; have q2 : (1000000 : Int32).toInt = 1000000 := rfl; omega) (by have q0 : ((-1) : Int32).toInt = (-1) := rfl; have q1 : (0 : Int32).toInt = 0 := rfl; have q2 : (1000000 : Int32).toInt = 1000000 := rfl; omega) (by have q0 : ((-1) : Int32).toInt = (-1) := rfl; have q1 : (0 : Int32).toInt = 0 := rfl; have q2 : (1000000 : Int32).toInt = 1000000 := rfl; omega) (Or.inl ⟨rfl, by decide, by decide⟩) ok KM.rf pf (by have q0 : ((-1) : Int32).toInt = (-1) := rfl; have q1 : (0 : Int32).toInt = 0 := rfl; have q2 : (1000000 : Int32).toInt = 1000000 := rfl; omega) h (lv_sub hl [0, 1, 2, 3, 4, 5] rfl)
  · refine lv_if_ne (tgt := 15) hx hb dX9_look_5 (by decide) (fun hc => absurd (by decide) hc) (fun _ => ?_)
    refine lv_aload_n hx hb dX9_look_8 rfl (lv_at hl 0 rfl) ?_
    refine lv_bipush (v := (-2)) hx hb dX9_look_9 (by decide) ?_
    refine n_Vi (na := 1) (As := [.int (-2)]) (rest := []) X hD hN h rfl (c_M_bad l G cI cB cZ cO ad w  ok ((-2) : Int32)  ) ⟨kv_553, kv_554, kv_555, kv_470, kv_556⟩ rfl ⟨by decide, by decide, by decide⟩ ⟨Nat.le_of_ble_eq_true rfl, Nat.le_of_ble_eq_true rfl⟩ ⟨Nat.zero_le _, Nat.zero_le _⟩ (by decide) f15 rfl rfl hl.1 rfl (Nat.le_of_ble_eq_true rfl) dX9_look_11 (fun r142 w143 H locs hp144 h => ?_)
    have kM145 : KM w w143 := hp144.2.1
    obtain ⟨ok148, kk149, hr147⟩ := hp144
    have kx150 : KM w w143 := kk149
    subst hr147
    exact e_i X h hr hlk dX9_look_14 ⟨ok148, kx150, Or.inr ⟨by omega, rfl⟩⟩

