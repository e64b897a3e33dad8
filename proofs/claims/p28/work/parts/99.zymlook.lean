set_option maxHeartbeats 4000000 in
set_option maxRecDepth 100000 in
theorem c_F_ask (l : Launch) (G : va_G) (cI cB cZ cO : ClassId) (ad : Nat → Nat) (w : Nat → va_E) (ho so mi ca ja : Int32) (mz : Int32) (mc : Nat → Int32) (ok : OK cI cB cZ cO ad w) (i : Int32)  (n_1 : w 1 = .inr (1, [.int ho, .int so, .int mi, .int ca, .int ja, .ref (ad 2), .ref (ad 3), .ref (ad 4), .ref (ad 5), .ref (ad 6), .ref (ad 7), .ref (ad 8), .ref (ad 10), .ref (ad 12)])) (n_8 : w 10 = .inr (4, [.ref (ad 11), .int mz])) (n_9 : w 11 = .inl (cI, 24, .inl mc)) (hz0 : 0 ≤ mz.toInt) (hz1 : mz.toInt ≤ 6) (hNR : NRG 60 mz mc) (hca : 0 ≤ ca.toInt ∧ ca.toInt ≤ 7) (hja : 0 ≤ ja.toInt ∧ ja.toInt ≤ 4) : NI l G (tyq cI cB cZ cO) yX8_ask cX8_ask 3 (some .int) 5 125 74 ad w [.ref (ad 0), .int i] (fun r w1 => OK cI cB cZ cO ad w1 ∧ KX w w1 ∧ (((0 ≤ i.toInt ∧ i.toInt < ja.toInt) ∧ AKP (fitN (fun k9 => agP 1 mc mz.toNatClampNeg i (nI k9)) 6) r) ∨ (¬ (0 ≤ i.toInt ∧ i.toInt < ja.toInt) ∧ r = -2))) := by
  refine nk_i (own := "NoonShade") rfl (by decide) (Nat.le_of_ble_eq_true rfl) ?_
  intro p e s m below meth c ls X hD hN hr hlk h hl
  have hx := X.1.1
  have hb := X.1.2.1
  have hown := X.1.2.2.2.1
  have hts := X.1.2.2.2.2
  have hl : lv_has ls 3 [(0, .ref (ad 0)), (1, .int i)] := hl
  refine lv_aload_n hx hb dX8_ask_0 rfl (lv_at hl 0 rfl) ?_
  obtain ⟨x2, x3, q4, q5, q6, f1⟩ := (show sN ad (w 0) from ok 0 (by decide))
  have f7 : w 0 = .inr (6, [.ref (ad 1), .ref (ad 14), .ref (ad 27), .ref (ad 54), .ref (ad 55), .ref (ad 58), .ref (ad 62), .long x2, .long x3, .int q4, .int q5, .int q6]) := f1
  refine r_get kc8 X h 0 0 (by decide) rfl f7 (by decide) kv_172 rfl dX8_ask_1 ?_
  refine lv_iload_n hx hb dX8_ask_4 rfl (lv_at hl 1 rfl) ?_
  refine n_Vi (na := 1) (As := [.int i]) (rest := []) X hD hN h rfl (c_F1_hasJar l G cI cB cZ cO ad w ho so mi ca ja  i  n_1) ⟨kv_223, kv_224, kv_225, kv_37, kv_226⟩ rfl ⟨by decide, by decide, by decide⟩ ⟨Nat.le_of_ble_eq_true rfl, Nat.le_of_ble_eq_true rfl⟩ ⟨Nat.zero_le _, Nat.zero_le _⟩ (by decide) n_1 rfl rfl hl.1 rfl (Nat.le_of_ble_eq_true rfl) dX8_ask_5 (fun r8 w9 H locs hp10 h => ?_)
  obtain ⟨rfl, hr11⟩ := hp10
  rcases hr11 with ⟨hq12, hq13, rfl⟩ | ⟨hq14, rfl⟩
  · refine lv_if_ne (tgt := 18) hx hb dX8_ask_8 (by decide) (fun _ => ?_) (fun hc => absurd hc (by decide))
    refine lv_aload_n hx hb dX8_ask_18 rfl (lv_at hl 0 rfl) ?_
    refine r_get kc8 X h 0 6 (by decide) rfl f7 (by decide) kv_280 rfl dX8_ask_19 ?_
    refine lv_iconst (v := 1) hx hb dX8_ask_22 (by decide) ?_
    refine lv_aload_n hx hb dX8_ask_23 rfl (lv_at hl 0 rfl) ?_
    refine r_get kc8 X h 0 0 (by decide) rfl f7 (by decide) kv_172 rfl dX8_ask_24 ?_
    refine r_get kc2 X h 1 12 (by decide) rfl n_1 (by decide) kv_188 rfl dX8_ask_27 ?_
    refine lv_iload_n hx hb dX8_ask_30 rfl (lv_at hl 1 rfl) ?_
    have f18 : w 62 = .inr (0, [.ref (ad 63)]) := ok 62 (by decide)
    have f19 : w 62 = .inr (0, [.ref (ad 63)]) := f18
    refine n_Vi (na := 3) (As := [.int 1, .ref (ad 10), .int i]) (rest := []) X hD hN h rfl (c_F_fitting10 l G cI cB cZ cO ad w mz mc ok i n_8 n_9 (by omega) (by omega) hNR) ⟨kv_281, kv_282, kv_283, kv_82, kv_284⟩ rfl ⟨by decide, by decide, by decide⟩ ⟨Nat.le_of_ble_eq_true rfl, Nat.le_of_ble_eq_true rfl⟩ ⟨Nat.zero_le _, Nat.zero_le _⟩ (by decide) f19 rfl rfl hl.1 rfl (Nat.le_of_ble_eq_true rfl) dX8_ask_31 (fun r15 w16 H locs hp17 h => ?_)
    obtain ⟨rfl, hr20⟩ := hp17
    have hfr21 : 0 ≤ r15.toInt ∧ r15.toInt ≤ 63 := by rw [← hr20]; exact fitN_rg 6 (Nat.le_refl _)
    refine lv_istore_n (lv' := [(2, .int r15), (0, .ref (ad 0)), (1, .int i)]) hx hb dX8_ask_34 rfl hl (by decide) rfl (fun ls hl => ?_)
    refine lv_aload_n hx hb dX8_ask_35 rfl (lv_at hl 1 rfl) ?_
    refine r_get kc8 X h 0 6 (by decide) rfl f7 (by decide) kv_280 rfl dX8_ask_36 ?_
    refine lv_iconst (v := 1) hx hb dX8_ask_39 (by decide) ?_
    refine lv_iload_n hx hb dX8_ask_40 rfl (lv_at hl 0 rfl) ?_
    refine lv_iconst (v := 0) hx hb dX8_ask_41 (by decide) ?_
    refine lv_bipush (v := 60) hx hb dX8_ask_42 (by decide) ?_
    refine n_Vi (na := 4) (As := [.int 1, .int r15, .int 0, .int 60]) (rest := []) X hD hN h rfl (c_F_tellingMost1 l G cI cB cZ cO ad w ok r15 (0 : Int32) (60 : Int32) hfr21.1 hfr21.2 (by decide) (by decide) (by decide) (by decide) (by decide)) ⟨kv_285, kv_286, kv_287, kv_82, kv_288⟩ rfl ⟨by decide, by decide, by decide⟩ ⟨Nat.le_of_ble_eq_true rfl, Nat.le_of_ble_eq_true rfl⟩ ⟨Nat.zero_le _, Nat.zero_le _⟩ (by decide) f19 rfl rfl hl.1 rfl (Nat.le_of_ble_eq_true rfl) dX8_ask_44 (fun r22 w23 H locs hp24 h => ?_)
    obtain ⟨ok25, kk26, hr27⟩ := hp24
    have kx28 : KX w w23 := kk26
    have hb29 : -1 ≤ r22.toInt ∧ r22.toInt ≤ 20000 := by
      rcases hr27 with ⟨a9, b9⟩ | ⟨a9, b9⟩
      · rw [b9]; decide
      · have k1 : (0 : Int32).toNatClampNeg = 0 := rfl
        have k2 : (60 : Int32).toNatClampNeg = 60 := rfl
        have c9 : r22.toInt = 100 * (((0 : Int32).toNatClampNeg + scB (tT 1 r15 (0 : Int32).toNatClampNeg) (24 * ((60 : Int32).toNatClampNeg + 1 - (0 : Int32).toNatClampNeg)) / 24 : Nat) : Int) + ((scB (tT 1 r15 (0 : Int32).toNatClampNeg) (24 * ((60 : Int32).toNatClampNeg + 1 - (0 : Int32).toNatClampNeg)) % 24 : Nat) : Int) := b9
        have l9 := scB_lt (T := (tT 1 r15 (0 : Int32).toNatClampNeg)) (24 * ((60 : Int32).toNatClampNeg + 1 - (0 : Int32).toNatClampNeg)) (by omega)
        omega
    have hlk30 : AKP r15 r22 := by
      rcases hr27 with ⟨a9, b9⟩ | ⟨a9, b9⟩
      · exact Or.inl ⟨a9, by rw [b9]; rfl⟩
      · refine Or.inr ⟨a9, ?_⟩
        rw [show (0 : Int32).toNatClampNeg = 0 from rfl, show (60 : Int32).toNatClampNeg = 60 from rfl] at b9
        have c9 : r22.toInt = 100 * ((0 + scB (tT 1 r15 0) 1464 / 24 : Nat) : Int) + ((scB (tT 1 r15 0) 1464 % 24 : Nat) : Int) := b9
        rw [Nat.zero_add] at c9; exact c9
    exact e_i X h hr hlk dX8_ask_47 ⟨ok25, kx28, Or.inl ⟨by omega, by rw [hr20]; exact hlk30⟩⟩
  · refine lv_if_ne (tgt := 18) hx hb dX8_ask_8 (by decide) (fun hc => absurd (by decide) hc) (fun _ => ?_)
    refine lv_aload_n hx hb dX8_ask_11 rfl (lv_at hl 0 rfl) ?_
    refine lv_bipush (v := (-2)) hx hb dX8_ask_12 (by decide) ?_
    refine n_Vi (na := 1) (As := [.int (-2)]) (rest := []) X hD hN h rfl (c_refused l G cI cB cZ cO ad w  ok ((-2) : Int32)  ) ⟨kv_227, kv_228, kv_229, kv_212, kv_230⟩ rfl ⟨by decide, by decide, by decide⟩ ⟨Nat.le_of_ble_eq_true rfl, Nat.le_of_ble_eq_true rfl⟩ ⟨Nat.zero_le _, Nat.zero_le _⟩ (by decide) f7 rfl rfl hl.1 rfl (Nat.le_of_ble_eq_true rfl) dX8_ask_14 (fun r31 w32 H locs hp33 h => ?_)
    have kX34 : KX w w32 := hp33.2.1
    obtain ⟨ok37, kk38, hr36⟩ := hp33
    have kx39 : KX w w32 := kk38
    subst hr36
    exact e_i X h hr hlk dX8_ask_17 ⟨ok37, kx39, Or.inr ⟨by omega, rfl⟩⟩

set_option maxHeartbeats 4000000 in
set_option maxRecDepth 100000 in
theorem c_MF_mostAlike (l : Launch) (G : va_G) (cI cB cZ cO : ClassId) (ad : Nat → Nat) (w : Nat → va_E) (te : Nat → Int32) (ok : OK cI cB cZ cO ad w) (x : Int32)  (p70 : w 70 = .inl (cI, 6, .inl te)) : NI l G (tyq cI cB cZ cO) yX9_mostAlike cX9_mostAlike 6 (some .int) 1 21 74 ad w [.ref (ad 64), .int x] (fun r w1 => w = w1 ∧ r.toInt = ((mxS te (fun k9 => ¬ bitF x (nI k9) = 0) 6 6 : Nat) : Int)) := by
  refine nk_i (own := "NoonShadeModel") rfl (by decide) (Nat.le_of_ble_eq_true rfl) ?_
  intro p e s m below meth c ls X hD hN hr hlk h hl
  have hx := X.1.1
  have hb := X.1.2.1
  have hown := X.1.2.2.2.1
  have hts := X.1.2.2.2.2
  have hl : lv_has ls 6 [(0, .ref (ad 64)), (1, .int x)] := hl
  refine lv_iconst (v := 0) hx hb dX9_mostAlike_0 (by decide) ?_
  refine lv_istore_n (lv' := [(2, .int 0), (0, .ref (ad 64)), (1, .int x)]) hx hb dX9_mostAlike_1 rfl hl (by decide) rfl (fun ls hl => ?_)
  refine lv_iconst (v := 0) hx hb dX9_mostAlike_2 (by decide) ?_
  refine lv_istore_n (lv' := [(3, .int 0), (2, .int 0), (0, .ref (ad 64)), (1, .int x)]) hx hb dX9_mostAlike_3 rfl hl (by decide) rfl (fun ls hl => ?_)
  have hloop3 : ∀ (d4 : Nat) (L1 : Int32) (L2 : Int32) (H : Heap) (locs : List Loc) (ls : Array Slot), 0 ≤ L2.toInt → L2.toInt ≤ 6 → 0 ≤ L1.toInt → L1.toInt ≤ 6 → (L2.toInt = ((mxS te (fun k9 => ¬ bitF x (nI k9) = 0) 6 L1.toNatClampNeg : Nat) : Int)) → 6 - L1.toInt < (d4 : Int) → St G 74 ad (wA 74 ad s.heap.size) s.heap w H locs → lv_has ls 6 [(3, .int L1), (2, .int L2), (0, .ref (ad 64)), (1, .int x)] → W p l e { frames := 1, cells := 0, slots := 0, locals := 21 } s m [.ref (ad 64), .int x].toArray below meth c H locs 0 0 (MQ below (va_Qi (fun r w1 => w = w1 ∧ r.toInt = ((mxS te (fun k9 => ¬ bitF x (nI k9) = 0) 6 6 : Nat) : Int)) (Aft G 74 ad) (wA 74 ad s.heap.size)) [.ref (ad 64), .int x].toArray s 0 0 (wA 74 ad s.heap.size)) (F0 m 4 ls []) := by
    intro d4
    induction d4 with
    | zero => intro L1 L2 H locs ls hi7 hi8 hi9 hi10 hi11 hm6 h hl; exfalso; omega
    | succ d4 ih5 =>
      intro L1 L2 H locs ls hi7 hi8 hi9 hi10 hi11 hm6 h hl
      refine lv_iload_n hx hb dX9_mostAlike_4 rfl (lv_at hl 0 rfl) ?_
      refine lv_bipush (v := 6) hx hb dX9_mostAlike_5 (by decide) ?_
      refine lv_icmp_ge (tgt := 91) hx hb dX9_mostAlike_7 (by decide) (fun hc14 => ?_) (fun hc14 => ?_)
      · have hc14 : 6 ≤ (L1).toInt := i_le hc14 rfl rfl
        refine lv_iload_n hx hb dX9_mostAlike_91 rfl (lv_at hl 1 rfl) ?_
        have hmm15 : L2.toInt = ((mxS te (fun k9 => ¬ bitF x (nI k9) = 0) 6 6 : Nat) : Int) := by
          have c3 := cl_of (x := L1) (by omega)
          have e9 : L1.toNatClampNeg = 6 := by omega
          rw [hi11, e9]
        exact e_i X h hr hlk dX9_mostAlike_92 ⟨rfl, hmm15⟩
      · have hc14 : ¬ 6 ≤ (L1).toInt := i_nle hc14 rfl rfl
        refine lv_iconst (v := 0) hx hb dX9_mostAlike_10 (by decide) ?_
        refine lv_istore (lv' := [(4, .int 0), (3, .int L1), (2, .int L2), (0, .ref (ad 64)), (1, .int x)]) hx hb dX9_mostAlike_11 hl (by decide) rfl (fun ls hl => ?_)
        refine lv_iconst (v := 0) hx hb dX9_mostAlike_13 (by decide) ?_
        refine lv_istore (lv' := [(5, .int 0), (4, .int 0), (3, .int L1), (2, .int L2), (0, .ref (ad 64)), (1, .int x)]) hx hb dX9_mostAlike_14 hl (by decide) rfl (fun ls hl => ?_)
        have hloop18 : ∀ (d19 : Nat) (L16 : Int32) (L17 : Int32) (H : Heap) (locs : List Loc) (ls : Array Slot), 0 ≤ L17.toInt → L17.toInt ≤ 6 → 0 ≤ L16.toInt → L16.toInt ≤ 6 → L17.toInt ≤ L16.toInt → (L17.toInt = ((cntS te (fun k9 => ¬ bitF x (nI k9) = 0) L16.toNatClampNeg (te L1.toNatClampNeg) : Nat) : Int)) → (0 < L16.toInt → ¬ bitF x L1 = 0) → 6 - L16.toInt < (d19 : Int) → St G 74 ad (wA 74 ad s.heap.size) s.heap w H locs → lv_has ls 6 [(5, .int L16), (4, .int L17), (3, .int L1), (2, .int L2), (0, .ref (ad 64)), (1, .int x)] → W p l e { frames := 1, cells := 0, slots := 0, locals := 21 } s m [.ref (ad 64), .int x].toArray below meth c H locs 0 0 (MQ below (va_Qi (fun r w1 => w = w1 ∧ r.toInt = ((mxS te (fun k9 => ¬ bitF x (nI k9) = 0) 6 6 : Nat) : Int)) (Aft G 74 ad) (wA 74 ad s.heap.size)) [.ref (ad 64), .int x].toArray s 0 0 (wA 74 ad s.heap.size)) (F0 m 16 ls []) := by
          intro d19
          induction d19 with
          | zero => intro L16 L17 H locs ls hi22 hi23 hi24 hi25 hi26 hi27 hi28 hm21 h hl; exfalso; omega
          | succ d19 ih20 =>
            intro L16 L17 H locs ls hi22 hi23 hi24 hi25 hi26 hi27 hi28 hm21 h hl
            refine lv_iload hx hb dX9_mostAlike_16 (lv_at hl 0 rfl) ?_
            refine lv_bipush (v := 6) hx hb dX9_mostAlike_18 (by decide) ?_
            refine lv_icmp_ge (tgt := 72) hx hb dX9_mostAlike_20 (by decide) (fun hc31 => ?_) (fun hc31 => ?_)
            · have hc31 : 6 ≤ (L16).toInt := i_le hc31 rfl rfl
              refine lv_iload hx hb dX9_mostAlike_72 (lv_at hl 1 rfl) ?_
              refine lv_iload_n hx hb dX9_mostAlike_74 rfl (lv_at hl 3 rfl) ?_
              refine lv_icmp_le (tgt := 83) hx hb dX9_mostAlike_75 (by decide) (fun hc32 => ?_) (fun hc32 => ?_)
              · have hc32 : (L17).toInt ≤ (L2).toInt := i_le hc32 rfl rfl
                refine lv_iload_n hx hb dX9_mostAlike_83 rfl (lv_at hl 3 rfl) ?_
                refine lv_istore_n (lv' := [(2, .int L2), (5, .int L16), (4, .int L17), (3, .int L1), (0, .ref (ad 64)), (1, .int x)]) hx hb dX9_mostAlike_84 rfl hl (by decide) rfl (fun ls hl => ?_)
                obtain ⟨z33, e34, t35⟩ := x_add (x := L1) (y := 1) (a := L1.toInt) (b := 1) rfl rfl (by omega) (by omega)
                have n36 : z33.toNatClampNeg = L1.toNatClampNeg + 1 := cl_addn (x := L1) (y := 1) rfl rfl t35 (by omega) (by decide)
                refine lv_iinc (v := z33) (lv' := [(3, .int z33), (2, .int L2), (5, .int L16), (4, .int L17), (0, .ref (ad 64)), (1, .int x)]) hx hb dX9_mostAlike_85 hl (k := 3) rfl e34 (by decide) rfl (fun ls hl => ?_)
                refine lv_goto (tgt := 4) hx hb dX9_mostAlike_88 (by decide) ?_
                have hmt37 : L2.toInt = ((mxS te (fun k9 => ¬ bitF x (nI k9) = 0) 6 z33.toNatClampNeg : Nat) : Int) := by
                  have c5 := cl_of (x := L16) (by omega)
                  have b9 := bitF_01 x L1
                  have d9 : ((pick (¬ bitF x (nI L1.toNatClampNeg) = 0) (cntS te (fun k9 => ¬ bitF x (nI k9) = 0) 6 (te L1.toNatClampNeg)) 0 : Nat) : Int) = L17.toInt := by
                    rw [nI_cl (x := L1) (by omega)]
                    have e5 : L16.toNatClampNeg = 6 := by omega
                    have := hi28 (by omega)
                    rw [pick_y this, hi27, e5]
                  have m9 : mxS te (fun k9 => ¬ bitF x (nI k9) = 0) 6 (L1.toNatClampNeg + 1) = max (mxS te (fun k9 => ¬ bitF x (nI k9) = 0) 6 L1.toNatClampNeg) (pick (¬ bitF x (nI L1.toNatClampNeg) = 0) (cntS te (fun k9 => ¬ bitF x (nI k9) = 0) 6 (te L1.toNatClampNeg)) 0) := rfl
                  rw [n36, m9]
                  omega
                exact ih5  z33 L2  _ _ _ (by omega) (by omega) (by omega) (by omega) hmt37  (by omega) h (lv_sub hl [0, 1, 4, 5] rfl)
              · have hc32 : ¬ (L17).toInt ≤ (L2).toInt := i_nle hc32 rfl rfl
                refine lv_iload hx hb dX9_mostAlike_78 (lv_at hl 1 rfl) ?_
                refine lv_goto (tgt := 84) hx hb dX9_mostAlike_80 (by decide) ?_
                refine lv_istore_n (lv' := [(2, .int L17), (5, .int L16), (4, .int L17), (3, .int L1), (0, .ref (ad 64)), (1, .int x)]) hx hb dX9_mostAlike_84 rfl hl (by decide) rfl (fun ls hl => ?_)
                obtain ⟨z38, e39, t40⟩ := x_add (x := L1) (y := 1) (a := L1.toInt) (b := 1) rfl rfl (by omega) (by omega)
                have n41 : z38.toNatClampNeg = L1.toNatClampNeg + 1 := cl_addn (x := L1) (y := 1) rfl rfl t40 (by omega) (by decide)
                refine lv_iinc (v := z38) (lv' := [(3, .int z38), (2, .int L17), (5, .int L16), (4, .int L17), (0, .ref (ad 64)), (1, .int x)]) hx hb dX9_mostAlike_85 hl (k := 3) rfl e39 (by decide) rfl (fun ls hl => ?_)
                refine lv_goto (tgt := 4) hx hb dX9_mostAlike_88 (by decide) ?_
                have hmt42 : L17.toInt = ((mxS te (fun k9 => ¬ bitF x (nI k9) = 0) 6 z38.toNatClampNeg : Nat) : Int) := by
                  have c5 := cl_of (x := L16) (by omega)
                  have b9 := bitF_01 x L1
                  have d9 : ((pick (¬ bitF x (nI L1.toNatClampNeg) = 0) (cntS te (fun k9 => ¬ bitF x (nI k9) = 0) 6 (te L1.toNatClampNeg)) 0 : Nat) : Int) = L17.toInt := by
                    rw [nI_cl (x := L1) (by omega)]
                    have e5 : L16.toNatClampNeg = 6 := by omega
                    have := hi28 (by omega)
                    rw [pick_y this, hi27, e5]
                  have m9 : mxS te (fun k9 => ¬ bitF x (nI k9) = 0) 6 (L1.toNatClampNeg + 1) = max (mxS te (fun k9 => ¬ bitF x (nI k9) = 0) 6 L1.toNatClampNeg) (pick (¬ bitF x (nI L1.toNatClampNeg) = 0) (cntS te (fun k9 => ¬ bitF x (nI k9) = 0) 6 (te L1.toNatClampNeg)) 0) := rfl
                  rw [n41, m9]
                  omega
                exact ih5  z38 L17  _ _ _ (by omega) (by omega) (by omega) (by omega) hmt42  (by omega) h (lv_sub hl [0, 1, 4, 5] rfl)
            · have hc31 : ¬ 6 ≤ (L16).toInt := i_nle hc31 rfl rfl
              refine lv_iload_n hx hb dX9_mostAlike_23 rfl (lv_at hl 5 rfl) ?_
              refine lv_iload_n hx hb dX9_mostAlike_24 rfl (lv_at hl 2 rfl) ?_
              refine n_Si (na := 2) (As := [.int x, .int L1]) (rest := []) X hD hN h (c_MF_has l G cI cB cZ cO ad w   x L1  ) ⟨kv_496, kv_497, kv_470, kv_498⟩ ⟨by decide, by decide, by decide⟩ ⟨Nat.le_of_ble_eq_true rfl, Nat.le_of_ble_eq_true rfl⟩ ⟨Nat.zero_le _, Nat.zero_le _⟩ rfl hl.1 rfl (Nat.le_of_ble_eq_true rfl) dX9_mostAlike_25 (fun r43 w44 H locs hp45 h => ?_)
              obtain ⟨rfl, hr46⟩ := hp45
              rcases hr46 with ⟨hq47, rfl⟩ | ⟨hq48, rfl⟩
              · refine lv_if_eq (tgt := 72) hx hb dX9_mostAlike_28 (by decide) (fun hc => absurd hc (by decide)) (fun _ => ?_)
                refine lv_iload hx hb dX9_mostAlike_31 (lv_at hl 1 rfl) ?_
                refine lv_iload_n hx hb dX9_mostAlike_33 rfl (lv_at hl 5 rfl) ?_
                refine lv_iload hx hb dX9_mostAlike_34 (lv_at hl 0 rfl) ?_
                refine n_Si (na := 2) (As := [.int x, .int L16]) (rest := [.int L17]) X hD hN h (c_MF_has l G cI cB cZ cO ad w   x L16  ) ⟨kv_496, kv_497, kv_470, kv_498⟩ ⟨by decide, by decide, by decide⟩ ⟨Nat.le_of_ble_eq_true rfl, Nat.le_of_ble_eq_true rfl⟩ ⟨Nat.zero_le _, Nat.zero_le _⟩ rfl hl.1 rfl (Nat.le_of_ble_eq_true rfl) dX9_mostAlike_36 (fun r49 w50 H locs hp51 h => ?_)
                obtain ⟨rfl, hr52⟩ := hp51
                rcases hr52 with ⟨hq53, rfl⟩ | ⟨hq54, rfl⟩
                · refine lv_if_eq (tgt := 62) hx hb dX9_mostAlike_39 (by decide) (fun hc => absurd hc (by decide)) (fun _ => ?_)
                  refine lv_aload_n hx hb dX9_mostAlike_42 rfl (lv_at hl 4 rfl) ?_
                  obtain ⟨x56, x57, t58, t59, t60, t61, t62, t63, f55, h64, h65⟩ := (show sM ad (w 64) from ok 64 (by decide))
                  have f66 : w 64 = .inr (7, [.ref (ad 65), .ref (ad 66), .ref (ad 67), .ref (ad 68), .long x56, .long x57, .ref (ad 69), .int t58, .ref (ad 70), .ref (ad 71), .int t59, .int t60, .int t61, .int t62, .int t63, .ref (ad 72), .ref (ad 73)]) := f55
                  refine r_get kc9 X h 64 8 (by decide) rfl f66 (by decide) kv_518 rfl dX9_mostAlike_43 ?_
                  refine lv_iload_n hx hb dX9_mostAlike_46 rfl (lv_at hl 2 rfl) ?_
                  obtain ⟨v67, e68⟩ : ∃ z : Int32, te L1.toNatClampNeg = z := ⟨_, rfl⟩
                  refine o_iald (v := v67) X h 70 0 (by decide) rfl p70 rfl (in_of (by omega) (by omega)) e68 dX9_mostAlike_47 ?_
                  refine lv_aload_n hx hb dX9_mostAlike_48 rfl (lv_at hl 4 rfl) ?_
                  refine r_get kc9 X h 64 8 (by decide) rfl f66 (by decide) kv_518 rfl dX9_mostAlike_49 ?_
                  refine lv_iload hx hb dX9_mostAlike_52 (lv_at hl 0 rfl) ?_
                  obtain ⟨v70, e71⟩ : ∃ z : Int32, te L16.toNatClampNeg = z := ⟨_, rfl⟩
                  refine o_iald (v := v70) X h 70 0 (by decide) rfl p70 rfl (in_of (by omega) (by omega)) e71 dX9_mostAlike_54 ?_
                  refine lv_icmp_ne (tgt := 62) hx hb dX9_mostAlike_55 (by decide) (fun hc73 => ?_) (fun hc73 => ?_)
                  · have hc73 : ¬ (v67).toInt = (v70).toInt := i_ne hc73 rfl rfl
                    refine lv_iconst (v := 0) hx hb dX9_mostAlike_62 (by decide) ?_
                    obtain ⟨z76, e74, t75⟩ := x_add (x := L17) (y := (0 : Int32)) (a := (L17).toInt) (b := 0) rfl rfl (by omega) (by omega)
                    have n77 : z76.toNatClampNeg = L17.toNatClampNeg + 0 := cl_addn (x := L17) (y := (0 : Int32)) rfl rfl t75 (by omega) (by decide)
                    refine o_iadd (z := z76) hx hb dX9_mostAlike_63 e74 ?_
                    refine lv_istore (lv' := [(4, .int z76), (5, .int L16), (3, .int L1), (2, .int L2), (0, .ref (ad 64)), (1, .int x)]) hx hb dX9_mostAlike_64 hl (by decide) rfl (fun ls hl => ?_)
                    obtain ⟨z78, e79, t80⟩ := x_add (x := L16) (y := 1) (a := L16.toInt) (b := 1) rfl rfl (by omega) (by omega)
                    have n81 : z78.toNatClampNeg = L16.toNatClampNeg + 1 := cl_addn (x := L16) (y := 1) rfl rfl t80 (by omega) (by decide)
                    refine lv_iinc (v := z78) (lv' := [(5, .int z78), (4, .int z76), (3, .int L1), (2, .int L2), (0, .ref (ad 64)), (1, .int x)]) hx hb dX9_mostAlike_66 hl (k := 1) rfl e79 (by decide) rfl (fun ls hl => ?_)
                    refine lv_goto (tgt := 16) hx hb dX9_mostAlike_69 (by decide) ?_
                    have hml82 : z76.toInt = ((cntS te (fun k9 => ¬ bitF x (nI k9) = 0) z78.toNatClampNeg (te L1.toNatClampNeg) : Nat) : Int) := by
                      rw [n81, cntS_y (by show ¬ bitF x (nI L16.toNatClampNeg) = 0; rw [nI_cl (x := L16) (by omega)]; have := bitF_01 x L16; omega) (v := v70) e71, pick_n (fun q9 => by rw [e68] at q9; have := congrArg Int32.toInt q9; omega)]; omega
                    exact ih20  z78 z76  _ _ _ (by omega) (by omega) (by omega) (by omega) (by omega) hml82 (fun _ => by have := bitF_01 x L1; omega)  (by omega) h (lv_sub hl [0, 1, 2, 3, 4, 5] rfl)
                  · have hc73 : (v67).toInt = (v70).toInt := i_eq hc73 rfl rfl
                    refine lv_iconst (v := 1) hx hb dX9_mostAlike_58 (by decide) ?_
                    refine lv_goto (tgt := 63) hx hb dX9_mostAlike_59 (by decide) ?_
                    obtain ⟨z85, e83, t84⟩ := x_add (x := L17) (y := (1 : Int32)) (a := (L17).toInt) (b := 1) rfl rfl (by omega) (by omega)
                    have n86 : z85.toNatClampNeg = L17.toNatClampNeg + 1 := cl_addn (x := L17) (y := (1 : Int32)) rfl rfl t84 (by omega) (by decide)
                    refine o_iadd (z := z85) hx hb dX9_mostAlike_63 e83 ?_
                    refine lv_istore (lv' := [(4, .int z85), (5, .int L16), (3, .int L1), (2, .int L2), (0, .ref (ad 64)), (1, .int x)]) hx hb dX9_mostAlike_64 hl (by decide) rfl (fun ls hl => ?_)
                    obtain ⟨z87, e88, t89⟩ := x_add (x := L16) (y := 1) (a := L16.toInt) (b := 1) rfl rfl (by omega) (by omega)
                    have n90 : z87.toNatClampNeg = L16.toNatClampNeg + 1 := cl_addn (x := L16) (y := 1) rfl rfl t89 (by omega) (by decide)
                    refine lv_iinc (v := z87) (lv' := [(5, .int z87), (4, .int z85), (3, .int L1), (2, .int L2), (0, .ref (ad 64)), (1, .int x)]) hx hb dX9_mostAlike_66 hl (k := 1) rfl e88 (by decide) rfl (fun ls hl => ?_)
                    refine lv_goto (tgt := 16) hx hb dX9_mostAlike_69 (by decide) ?_
                    have hml91 : z85.toInt = ((cntS te (fun k9 => ¬ bitF x (nI k9) = 0) z87.toNatClampNeg (te L1.toNatClampNeg) : Nat) : Int) := by
                      rw [n90, cntS_y (by show ¬ bitF x (nI L16.toNatClampNeg) = 0; rw [nI_cl (x := L16) (by omega)]; have := bitF_01 x L16; omega) (v := v70) e71, pick_y (by rw [e68]; exact (fa_eq _ _).mpr (by omega))]; omega
                    exact ih20  z87 z85  _ _ _ (by omega) (by omega) (by omega) (by omega) (by omega) hml91 (fun _ => by have := bitF_01 x L1; omega)  (by omega) h (lv_sub hl [0, 1, 2, 3, 4, 5] rfl)
                · refine lv_if_eq (tgt := 62) hx hb dX9_mostAlike_39 (by decide) (fun _ => ?_) (fun hc => absurd (by decide) hc)
                  refine lv_iconst (v := 0) hx hb dX9_mostAlike_62 (by decide) ?_
                  obtain ⟨z94, e92, t93⟩ := x_add (x := L17) (y := (0 : Int32)) (a := (L17).toInt) (b := 0) rfl rfl (by omega) (by omega)
                  have n95 : z94.toNatClampNeg = L17.toNatClampNeg + 0 := cl_addn (x := L17) (y := (0 : Int32)) rfl rfl t93 (by omega) (by decide)
                  refine o_iadd (z := z94) hx hb dX9_mostAlike_63 e92 ?_
                  refine lv_istore (lv' := [(4, .int z94), (5, .int L16), (3, .int L1), (2, .int L2), (0, .ref (ad 64)), (1, .int x)]) hx hb dX9_mostAlike_64 hl (by decide) rfl (fun ls hl => ?_)
                  obtain ⟨z96, e97, t98⟩ := x_add (x := L16) (y := 1) (a := L16.toInt) (b := 1) rfl rfl (by omega) (by omega)
                  have n99 : z96.toNatClampNeg = L16.toNatClampNeg + 1 := cl_addn (x := L16) (y := 1) rfl rfl t98 (by omega) (by decide)
                  refine lv_iinc (v := z96) (lv' := [(5, .int z96), (4, .int z94), (3, .int L1), (2, .int L2), (0, .ref (ad 64)), (1, .int x)]) hx hb dX9_mostAlike_66 hl (k := 1) rfl e97 (by decide) rfl (fun ls hl => ?_)
                  refine lv_goto (tgt := 16) hx hb dX9_mostAlike_69 (by decide) ?_
                  have hml100 : z94.toInt = ((cntS te (fun k9 => ¬ bitF x (nI k9) = 0) z96.toNatClampNeg (te L1.toNatClampNeg) : Nat) : Int) := by
                    rw [n99, cntS_n (by show ¬ ¬ bitF x (nI L16.toNatClampNeg) = 0; rw [nI_cl (x := L16) (by omega)]; have := bitF_01 x L16; omega)]; omega
                  exact ih20  z96 z94  _ _ _ (by omega) (by omega) (by omega) (by omega) (by omega) hml100 (fun _ => by have := bitF_01 x L1; omega)  (by omega) h (lv_sub hl [0, 1, 2, 3, 4, 5] rfl)
              · refine lv_if_eq (tgt := 72) hx hb dX9_mostAlike_28 (by decide) (fun _ => ?_) (fun hc => absurd (by decide) hc)
                refine lv_iload hx hb dX9_mostAlike_72 (lv_at hl 1 rfl) ?_
                refine lv_iload_n hx hb dX9_mostAlike_74 rfl (lv_at hl 3 rfl) ?_
                refine lv_icmp_le (tgt := 83) hx hb dX9_mostAlike_75 (by decide) (fun hc101 => ?_) (fun hc101 => ?_)
                · have hc101 : (L17).toInt ≤ (L2).toInt := i_le hc101 rfl rfl
                  refine lv_iload_n hx hb dX9_mostAlike_83 rfl (lv_at hl 3 rfl) ?_
                  refine lv_istore_n (lv' := [(2, .int L2), (5, .int L16), (4, .int L17), (3, .int L1), (0, .ref (ad 64)), (1, .int x)]) hx hb dX9_mostAlike_84 rfl hl (by decide) rfl (fun ls hl => ?_)
                  obtain ⟨z102, e103, t104⟩ := x_add (x := L1) (y := 1) (a := L1.toInt) (b := 1) rfl rfl (by omega) (by omega)
                  have n105 : z102.toNatClampNeg = L1.toNatClampNeg + 1 := cl_addn (x := L1) (y := 1) rfl rfl t104 (by omega) (by decide)
                  refine lv_iinc (v := z102) (lv' := [(3, .int z102), (2, .int L2), (5, .int L16), (4, .int L17), (0, .ref (ad 64)), (1, .int x)]) hx hb dX9_mostAlike_85 hl (k := 3) rfl e103 (by decide) rfl (fun ls hl => ?_)
                  refine lv_goto (tgt := 4) hx hb dX9_mostAlike_88 (by decide) ?_
                  have hmt106 : L2.toInt = ((mxS te (fun k9 => ¬ bitF x (nI k9) = 0) 6 z102.toNatClampNeg : Nat) : Int) := by
                    have c5 := cl_of (x := L16) (by omega)
                    have b9 := bitF_01 x L1
                    have d9 : ((pick (¬ bitF x (nI L1.toNatClampNeg) = 0) (cntS te (fun k9 => ¬ bitF x (nI k9) = 0) 6 (te L1.toNatClampNeg)) 0 : Nat) : Int) = L17.toInt := by
                      rw [nI_cl (x := L1) (by omega)]
                      have e5 : L16.toNatClampNeg = 0 := by by_cases q : 0 < L16.toInt; (have := hi28 q; omega); omega
                      rw [pick_n (by omega), hi27, e5]; rfl
                    have m9 : mxS te (fun k9 => ¬ bitF x (nI k9) = 0) 6 (L1.toNatClampNeg + 1) = max (mxS te (fun k9 => ¬ bitF x (nI k9) = 0) 6 L1.toNatClampNeg) (pick (¬ bitF x (nI L1.toNatClampNeg) = 0) (cntS te (fun k9 => ¬ bitF x (nI k9) = 0) 6 (te L1.toNatClampNeg)) 0) := rfl
                    rw [n105, m9]
                    omega
                  exact ih5  z102 L2  _ _ _ (by omega) (by omega) (by omega) (by omega) hmt106  (by omega) h (lv_sub hl [0, 1, 4, 5] rfl)
                · have hc101 : ¬ (L17).toInt ≤ (L2).toInt := i_nle hc101 rfl rfl
                  refine lv_iload hx hb dX9_mostAlike_78 (lv_at hl 1 rfl) ?_
                  refine lv_goto (tgt := 84) hx hb dX9_mostAlike_80 (by decide) ?_
                  refine lv_istore_n (lv' := [(2, .int L17), (5, .int L16), (4, .int L17), (3, .int L1), (0, .ref (ad 64)), (1, .int x)]) hx hb dX9_mostAlike_84 rfl hl (by decide) rfl (fun ls hl => ?_)
                  obtain ⟨z107, e108, t109⟩ := x_add (x := L1) (y := 1) (a := L1.toInt) (b := 1) rfl rfl (by omega) (by omega)
                  have n110 : z107.toNatClampNeg = L1.toNatClampNeg + 1 := cl_addn (x := L1) (y := 1) rfl rfl t109 (by omega) (by decide)
                  refine lv_iinc (v := z107) (lv' := [(3, .int z107), (2, .int L17), (5, .int L16), (4, .int L17), (0, .ref (ad 64)), (1, .int x)]) hx hb dX9_mostAlike_85 hl (k := 3) rfl e108 (by decide) rfl (fun ls hl => ?_)
                  refine lv_goto (tgt := 4) hx hb dX9_mostAlike_88 (by decide) ?_
                  have hmt111 : L17.toInt = ((mxS te (fun k9 => ¬ bitF x (nI k9) = 0) 6 z107.toNatClampNeg : Nat) : Int) := by
                    have c5 := cl_of (x := L16) (by omega)
                    have b9 := bitF_01 x L1
                    have d9 : ((pick (¬ bitF x (nI L1.toNatClampNeg) = 0) (cntS te (fun k9 => ¬ bitF x (nI k9) = 0) 6 (te L1.toNatClampNeg)) 0 : Nat) : Int) = L17.toInt := by
                      rw [nI_cl (x := L1) (by omega)]
                      have e5 : L16.toNatClampNeg = 0 := by by_cases q : 0 < L16.toInt; (have := hi28 q; omega); omega
                      rw [pick_n (by omega), hi27, e5]; rfl
                    have m9 : mxS te (fun k9 => ¬ bitF x (nI k9) = 0) 6 (L1.toNatClampNeg + 1) = max (mxS te (fun k9 => ¬ bitF x (nI k9) = 0) 6 L1.toNatClampNeg) (pick (¬ bitF x (nI L1.toNatClampNeg) = 0) (cntS te (fun k9 => ¬ bitF x (nI k9) = 0) 6 (te L1.toNatClampNeg)) 0) := rfl
                    rw [n110, m9]
                    omega
                  exact ih5  z107 L17  _ _ _ (by omega) (by omega) (by omega) (by omega) hmt111  (by omega) h (lv_sub hl [0, 1, 4, 5] rfl)
        exact hloop18 7 (0 : Int32) (0 : Int32)  _ _ _ (by have q0 : (0 : Int32).toInt = 0 := rfl; omega) (by have q0 : (0 : Int32).toInt = 0 := rfl; omega) (by have q0 : (0 : Int32).toInt = 0 := rfl; omega) (by have q0 : (0 : Int32).toInt = 0 := rfl; omega) (by have q0 : (0 : Int32).toInt = 0 := rfl; omega) (show (0 : Int32).toInt = ((cntS te (fun k9 => ¬ bitF x (nI k9) = 0) 0 (te L1.toNatClampNeg) : Nat) : Int) from rfl) (fun h9 => by have q0 : (0 : Int32).toInt = 0 := rfl; omega)  (by have q0 : (0 : Int32).toInt = 0 := rfl; omega) h (lv_sub hl [0, 1, 2, 3, 4, 5] rfl)
  exact hloop3 7 (0 : Int32) (0 : Int32)  _ _ _ (by have q0 : (0 : Int32).toInt = 0 := rfl; omega) (by have q0 : (0 : Int32).toInt = 0 := rfl; omega) (by have q0 : (0 : Int32).toInt = 0 := rfl; omega) (by have q0 : (0 : Int32).toInt = 0 := rfl; omega) (show (0 : Int32).toInt = ((mxS te (fun k9 => ¬ bitF x (nI k9) = 0) 6 0 : Nat) : Int) from rfl)  (by have q0 : (0 : Int32).toInt = 0 := rfl; omega) h (lv_sub hl [0, 1, 2, 3] rfl)

set_option maxHeartbeats 4000000 in
set_option maxRecDepth 100000 in
theorem c_MF_ask (l : Launch) (G : va_G) (cI cB cZ cO : ClassId) (ad : Nat → Nat) (w : Nat → va_E) (f : Nat → Int32) (ok : OK cI cB cZ cO ad w) (i : Int32)  (pf : w 65 = .inl (cI, 177, .inl f)) (pal : alA f) : NI l G (tyq cI cB cZ cO) yX9_ask cX9_ask 8 (some .int) 3 76 74 ad w [.ref (ad 64), .int i] (fun r w1 => OK cI cB cZ cO ad w1 ∧ KM w w1 ∧ (((0 ≤ i.toInt ∧ i.toInt < (f 1).toInt) ∧ AKP (fitN (fun k9 => agP 1 (fun j9 => f (65 + j9)) (f 3).toNatClampNeg i (nI k9)) 6) r) ∨ (¬ (0 ≤ i.toInt ∧ i.toInt < (f 1).toInt) ∧ r = -2))) := by
  refine nk_i (own := "NoonShadeModel") rfl (by decide) (Nat.le_of_ble_eq_true rfl) ?_
  intro p e s m below meth c ls X hD hN hr hlk h hl
  have hx := X.1.1
  have hb := X.1.2.1
  have hown := X.1.2.2.2.1
  have hts := X.1.2.2.2.2
  have hl : lv_has ls 8 [(0, .ref (ad 64)), (1, .int i)] := hl
  obtain ⟨v1, ev1⟩ : ∃ z : Int32, f 1 = z := ⟨_, rfl⟩
  have hv1 := (alA_rd pal ev1).2.1 rfl
  have hw1 := congrArg Int32.toInt ev1
  refine lv_aload_n hx hb dX9_ask_0 rfl (lv_at hl 0 rfl) ?_
  refine lv_iload_n hx hb dX9_ask_1 rfl (lv_at hl 1 rfl) ?_
  obtain ⟨x5, x6, t7, t8, t9, t10, t11, t12, f4, h13, h14⟩ := (show sM ad (w 64) from ok 64 (by decide))
  have f15 : w 64 = .inr (7, [.ref (ad 65), .ref (ad 66), .ref (ad 67), .ref (ad 68), .long x5, .long x6, .ref (ad 69), .int t7, .ref (ad 70), .ref (ad 71), .int t8, .int t9, .int t10, .int t11, .int t12, .ref (ad 72), .ref (ad 73)]) := f4
  refine n_Vi (na := 1) (As := [.int i]) (rest := []) X hD hN h rfl (c_MF_isJar l G cI cB cZ cO ad w f ok i  pf pal) ⟨kv_541, kv_542, kv_543, kv_470, kv_544⟩ rfl ⟨by decide, by decide, by decide⟩ ⟨Nat.le_of_ble_eq_true rfl, Nat.le_of_ble_eq_true rfl⟩ ⟨Nat.zero_le _, Nat.zero_le _⟩ (by decide) f15 rfl rfl hl.1 rfl (Nat.le_of_ble_eq_true rfl) dX9_ask_2 (fun r1 w2 H locs hp3 h => ?_)
  obtain ⟨rfl, hr16⟩ := hp3
  rcases hr16 with ⟨hq17, hq18, rfl⟩ | ⟨hq19, rfl⟩
  · refine lv_if_ne (tgt := 15) hx hb dX9_ask_5 (by decide) (fun _ => ?_) (fun hc => absurd hc (by decide))
    refine lv_aload_n hx hb dX9_ask_15 rfl (lv_at hl 0 rfl) ?_
    refine lv_iload_n hx hb dX9_ask_16 rfl (lv_at hl 1 rfl) ?_
    refine n_Vi (na := 1) (As := [.int i]) (rest := []) X hD hN h rfl (c_MF_kindsOfJar l G cI cB cZ cO ad w f ok i pf pal) ⟨kv_592, kv_593, kv_594, kv_470, kv_595⟩ rfl ⟨by decide, by decide, by decide⟩ ⟨Nat.le_of_ble_eq_true rfl, Nat.le_of_ble_eq_true rfl⟩ ⟨Nat.zero_le _, Nat.zero_le _⟩ (by decide) f15 rfl rfl hl.1 rfl (Nat.le_of_ble_eq_true rfl) dX9_ask_17 (fun r20 w21 H locs hp22 h => ?_)
    obtain ⟨rfl, hr23⟩ := hp22
    have hfr24 : 0 ≤ r20.toInt ∧ r20.toInt ≤ 63 := by rw [← hr23]; exact fitN_rg 6 (Nat.le_refl _)
    refine lv_istore_n (lv' := [(2, .int r20), (0, .ref (ad 64)), (1, .int i)]) hx hb dX9_ask_20 rfl hl (by decide) rfl (fun ls hl => ?_)
    refine lv_iconst (v := (-1)) hx hb dX9_ask_21 (by decide) ?_
    refine lv_istore_n (lv' := [(3, .int (-1)), (2, .int r20), (0, .ref (ad 64)), (1, .int i)]) hx hb dX9_ask_22 rfl hl (by decide) rfl (fun ls hl => ?_)
    refine lv_ldc (v := 1000000) hx hb hown (hts _ kv_596) dX9_ask_23 ?_
    refine lv_istore (lv' := [(4, .int 1000000), (3, .int (-1)), (2, .int r20), (0, .ref (ad 64)), (1, .int i)]) hx hb dX9_ask_25 hl (by decide) rfl (fun ls hl => ?_)
    refine lv_iconst (v := 0) hx hb dX9_ask_27 (by decide) ?_
    refine lv_istore (lv' := [(5, .int 0), (4, .int 1000000), (3, .int (-1)), (2, .int r20), (0, .ref (ad 64)), (1, .int i)]) hx hb dX9_ask_28 hl (by decide) rfl (fun ls hl => ?_)
    have hloop29 : ∀ (d30 : Nat) (L25 : Int32) (L26 : Int32) (L27 : Int32) (wL28 : Nat → va_E) (H : Heap) (locs : List Loc) (ls : Array Slot), 0 ≤ L25.toInt → L25.toInt ≤ 61 → (L25.toInt = 0 ∨ 0 < r20.toInt) → (SC (tT 1 r20 0) 1000000 (fun k9 => 100 * ((k9 / 24 : Nat) : Int) + ((k9 % 24 : Nat) : Int)) (24 * L25.toNatClampNeg) L27 L26) → OK cI cB cZ cO ad wL28 → KM w wL28 → wL28 65 = .inl (cI, 177, .inl f) → 61 - L25.toInt < (d30 : Int) → St G 74 ad (wA 74 ad s.heap.size) s.heap wL28 H locs → lv_has ls 8 [(5, .int L25), (4, .int L26), (3, .int L27), (2, .int r20), (0, .ref (ad 64)), (1, .int i)] → W p l e { frames := 3, cells := 0, slots := 0, locals := 76 } s m [.ref (ad 64), .int i].toArray below meth c H locs 0 0 (MQ below (va_Qi (fun r w1 => OK cI cB cZ cO ad w1 ∧ KM w w1 ∧ (((0 ≤ i.toInt ∧ i.toInt < (f 1).toInt) ∧ AKP (fitN (fun k9 => agP 1 (fun j9 => f (65 + j9)) (f 3).toNatClampNeg i (nI k9)) 6) r) ∨ (¬ (0 ≤ i.toInt ∧ i.toInt < (f 1).toInt) ∧ r = -2))) (Aft G 74 ad) (wA 74 ad s.heap.size)) [.ref (ad 64), .int i].toArray s 0 0 (wA 74 ad s.heap.size)) (F0 m 30 ls []) := by
      intro d30
      induction d30 with
      | zero => intro L25 L26 L27 wL28 H locs ls hi33 hi34 hi35 hi36 ok37 kx38 cf39 hm32 h hl; exfalso; omega
      | succ d30 ih31 =>
        intro L25 L26 L27 wL28 H locs ls hi33 hi34 hi35 hi36 ok37 kx38 cf39 hm32 h hl
        refine lv_iload hx hb dX9_ask_30 (lv_at hl 0 rfl) ?_
        refine lv_bipush (v := 60) hx hb dX9_ask_32 (by decide) ?_
        refine lv_icmp_gt (tgt := 138) hx hb dX9_ask_34 (by decide) (fun hc40 => ?_) (fun hc40 => ?_)
        · have hc40 : 60 < (L25).toInt := i_lt hc40 rfl rfl
          refine lv_iload_n hx hb dX9_ask_138 rfl (lv_at hl 2 rfl) ?_
          have c542 := cl_of (x := L25) (by omega)
          have hlk41 : AKP r20 L27 := by
            rcases hi36 with ⟨a9, b9, c9⟩ | ⟨a9, b9, c9⟩
            · exfalso; omega
            · have e9 : L25.toNatClampNeg = 61 := by omega
              rw [e9] at c9
              exact Or.inr ⟨by omega, c9⟩
          exact e_i X h hr hlk dX9_ask_139 ⟨ok37, kx38, Or.inl ⟨by omega, by rw [hr23]; exact hlk41⟩⟩
        · have hc40 : ¬ 60 < (L25).toInt := i_nlt hc40 rfl rfl
          refine lv_iload_n hx hb dX9_ask_37 rfl (lv_at hl 3 rfl) ?_
          refine lv_if_le (tgt := 138) hx hb dX9_ask_38 (by decide) (fun hc43 => ?_) (fun hc43 => ?_)
          · have hc43 : (r20).toInt ≤ 0 := i_le hc43 rfl rfl
            refine lv_iload_n hx hb dX9_ask_138 rfl (lv_at hl 2 rfl) ?_
            have c545 := cl_of (x := L25) (by omega)
            have hlk44 : AKP r20 L27 := by
              rcases hi36 with ⟨a9, b9, c9⟩ | ⟨a9, b9, c9⟩
              · exact Or.inl ⟨by omega, c9⟩
              · exfalso; omega
            exact e_i X h hr hlk dX9_ask_139 ⟨ok37, kx38, Or.inl ⟨by omega, by rw [hr23]; exact hlk44⟩⟩
          · have hc43 : ¬ (r20).toInt ≤ 0 := i_nle hc43 rfl rfl
            refine lv_iconst (v := 0) hx hb dX9_ask_41 (by decide) ?_
            refine lv_istore (lv' := [(6, .int 0), (5, .int L25), (4, .int L26), (3, .int L27), (2, .int r20), (0, .ref (ad 64)), (1, .int i)]) hx hb dX9_ask_42 hl (by decide) rfl (fun ls hl => ?_)
            have hloop50 : ∀ (d51 : Nat) (L46 : Int32) (L47 : Int32) (L48 : Int32) (wL49 : Nat → va_E) (H : Heap) (locs : List Loc) (ls : Array Slot), 0 ≤ L46.toInt → L46.toInt ≤ 24 → (SC (tT 1 r20 0) 1000000 (fun k9 => 100 * ((k9 / 24 : Nat) : Int) + ((k9 % 24 : Nat) : Int)) (24 * L25.toNatClampNeg + L46.toNatClampNeg) L48 L47) → OK cI cB cZ cO ad wL49 → KM w wL49 → wL49 65 = .inl (cI, 177, .inl f) → 24 - L46.toInt < (d51 : Int) → St G 74 ad (wA 74 ad s.heap.size) s.heap wL49 H locs → lv_has ls 8 [(6, .int L46), (5, .int L25), (4, .int L47), (3, .int L48), (2, .int r20), (0, .ref (ad 64)), (1, .int i)] → W p l e { frames := 3, cells := 0, slots := 0, locals := 76 } s m [.ref (ad 64), .int i].toArray below meth c H locs 0 0 (MQ below (va_Qi (fun r w1 => OK cI cB cZ cO ad w1 ∧ KM w w1 ∧ (((0 ≤ i.toInt ∧ i.toInt < (f 1).toInt) ∧ AKP (fitN (fun k9 => agP 1 (fun j9 => f (65 + j9)) (f 3).toNatClampNeg i (nI k9)) 6) r) ∨ (¬ (0 ≤ i.toInt ∧ i.toInt < (f 1).toInt) ∧ r = -2))) (Aft G 74 ad) (wA 74 ad s.heap.size)) [.ref (ad 64), .int i].toArray s 0 0 (wA 74 ad s.heap.size)) (F0 m 44 ls []) := by
              intro d51
              induction d51 with
              | zero => intro L46 L47 L48 wL49 H locs ls hi54 hi55 hi56 ok57 kx58 cf59 hm53 h hl; exfalso; omega
              | succ d51 ih52 =>
                intro L46 L47 L48 wL49 H locs ls hi54 hi55 hi56 ok57 kx58 cf59 hm53 h hl
                refine lv_iload hx hb dX9_ask_44 (lv_at hl 0 rfl) ?_
                refine lv_bipush (v := 24) hx hb dX9_ask_46 (by decide) ?_
                refine lv_icmp_ge (tgt := 132) hx hb dX9_ask_48 (by decide) (fun hc60 => ?_) (fun hc60 => ?_)
                · have hc60 : 24 ≤ (L46).toInt := i_le hc60 rfl rfl
                  obtain ⟨z61, e62, t63⟩ := x_add (x := L25) (y := 1) (a := L25.toInt) (b := 1) rfl rfl (by omega) (by omega)
                  have n64 : z61.toNatClampNeg = L25.toNatClampNeg + 1 := cl_addn (x := L25) (y := 1) rfl rfl t63 (by omega) (by decide)
                  refine lv_iinc (v := z61) (lv' := [(5, .int z61), (6, .int L46), (4, .int L47), (3, .int L48), (2, .int r20), (0, .ref (ad 64)), (1, .int i)]) hx hb dX9_ask_132 hl (k := 1) rfl e62 (by decide) rfl (fun ls hl => ?_)
                  refine lv_goto (tgt := 30) hx hb dX9_ask_135 (by decide) ?_
                  have hso65 : SC (tT 1 r20 0) 1000000 (fun k9 => 100 * ((k9 / 24 : Nat) : Int) + ((k9 % 24 : Nat) : Int)) (24 * z61.toNatClampNeg) L48 L47 := by
                    have c8 := cl_of (x := L46) (by omega)
                    have e9 : 24 * z61.toNatClampNeg = 24 * L25.toNatClampNeg + L46.toNatClampNeg := by rw [n64]; omega
                    rw [e9]; exact hi56
                  exact ih31  z61 L47 L48 wL49 _ _ _ (by omega) (by omega) (by omega) hso65 ok57 kx58 cf59 (by omega) h (lv_sub hl [0, 2, 3, 4, 5, 6] rfl)
                · have hc60 : ¬ 24 ≤ (L46).toInt := i_nle hc60 rfl rfl
                  refine lv_iconst (v := 0) hx hb dX9_ask_51 (by decide) ?_
                  refine lv_istore (lv' := [(7, .int 0), (6, .int L46), (5, .int L25), (4, .int L47), (3, .int L48), (2, .int r20), (0, .ref (ad 64)), (1, .int i)]) hx hb dX9_ask_52 hl (by decide) rfl (fun ls hl => ?_)
                  have hloop69 : ∀ (d70 : Nat) (L66 : Int32) (C67 : Nat → Int32) (wL68 : Nat → va_E) (H : Heap) (locs : List Loc) (ls : Array Slot), 0 ≤ L66.toInt → L66.toInt ≤ 6 → (∀ j : Nat, j < L66.toNatClampNeg → C67 j = sayF 1 (nI j) L25 L46) → OK cI cB cZ cO ad wL68 → KM w wL68 → wL68 70 = .inl (cI, 6, .inl C67) → wL68 65 = .inl (cI, 177, .inl f) → 6 - L66.toInt < (d70 : Int) → St G 74 ad (wA 74 ad s.heap.size) s.heap wL68 H locs → lv_has ls 8 [(7, .int L66), (6, .int L46), (5, .int L25), (4, .int L47), (3, .int L48), (2, .int r20), (0, .ref (ad 64)), (1, .int i)] → W p l e { frames := 3, cells := 0, slots := 0, locals := 76 } s m [.ref (ad 64), .int i].toArray below meth c H locs 0 0 (MQ below (va_Qi (fun r w1 => OK cI cB cZ cO ad w1 ∧ KM w w1 ∧ (((0 ≤ i.toInt ∧ i.toInt < (f 1).toInt) ∧ AKP (fitN (fun k9 => agP 1 (fun j9 => f (65 + j9)) (f 3).toNatClampNeg i (nI k9)) 6) r) ∨ (¬ (0 ≤ i.toInt ∧ i.toInt < (f 1).toInt) ∧ r = -2))) (Aft G 74 ad) (wA 74 ad s.heap.size)) [.ref (ad 64), .int i].toArray s 0 0 (wA 74 ad s.heap.size)) (F0 m 54 ls []) := by
                    intro d70
                    induction d70 with
                    | zero => intro L66 C67 wL68 H locs ls hi73 hi74 hi75 ok76 kx77 cf78 cf79 hm72 h hl; exfalso; omega
                    | succ d70 ih71 =>
                      intro L66 C67 wL68 H locs ls hi73 hi74 hi75 ok76 kx77 cf78 cf79 hm72 h hl
                      refine lv_iload hx hb dX9_ask_54 (lv_at hl 0 rfl) ?_
                      refine lv_bipush (v := 6) hx hb dX9_ask_56 (by decide) ?_
                      refine lv_icmp_ge (tgt := 83) hx hb dX9_ask_58 (by decide) (fun hc80 => ?_) (fun hc80 => ?_)
                      · have hc80 : 6 ≤ (L66).toInt := i_le hc80 rfl rfl
                        refine lv_aload_n hx hb dX9_ask_83 rfl (lv_at hl 6 rfl) ?_
                        refine lv_iload_n hx hb dX9_ask_84 rfl (lv_at hl 5 rfl) ?_
                        obtain ⟨x85, x86, t87, t88, t89, t90, t91, t92, f84, h93, h94⟩ := (show sM ad (wL68 64) from ok76 64 (by decide))
                        have f95 : wL68 64 = .inr (7, [.ref (ad 65), .ref (ad 66), .ref (ad 67), .ref (ad 68), .long x85, .long x86, .ref (ad 69), .int t87, .ref (ad 70), .ref (ad 71), .int t88, .int t89, .int t90, .int t91, .int t92, .ref (ad 72), .ref (ad 73)]) := f84
                        refine n_Vi (na := 1) (As := [.int r20]) (rest := []) X hD hN h rfl (c_MF_mostAlike l G cI cB cZ cO ad wL68 C67 ok76 r20 cf78) ⟨kv_597, kv_598, kv_599, kv_470, kv_600⟩ rfl ⟨by decide, by decide, by decide⟩ ⟨Nat.le_of_ble_eq_true rfl, Nat.le_of_ble_eq_true rfl⟩ ⟨Nat.zero_le _, Nat.zero_le _⟩ (by decide) f95 rfl rfl hl.1 rfl (Nat.le_of_ble_eq_true rfl) dX9_ask_85 (fun r81 w82 H locs hp83 h => ?_)
                        obtain ⟨rfl, hr96⟩ := hp83
                        refine lv_istore (lv' := [(7, .int r81), (6, .int L46), (5, .int L25), (4, .int L47), (3, .int L48), (2, .int r20), (0, .ref (ad 64)), (1, .int i)]) hx hb dX9_ask_88 hl (by decide) rfl (fun ls hl => ?_)
                        refine lv_iload hx hb dX9_ask_90 (lv_at hl 0 rfl) ?_
                        refine lv_iload hx hb dX9_ask_92 (lv_at hl 3 rfl) ?_
                        refine lv_icmp_ge (tgt := 108) hx hb dX9_ask_94 (by decide) (fun hc97 => ?_) (fun hc97 => ?_)
                        · have hc97 : (L47).toInt ≤ (r81).toInt := i_le hc97 rfl rfl
                          refine lv_iload_n hx hb dX9_ask_108 rfl (lv_at hl 4 rfl) ?_
                          refine lv_istore_n (lv' := [(3, .int L48), (7, .int r81), (6, .int L46), (5, .int L25), (4, .int L47), (2, .int r20), (0, .ref (ad 64)), (1, .int i)]) hx hb dX9_ask_109 rfl hl (by decide) rfl (fun ls hl => ?_)
                          refine lv_iload hx hb dX9_ask_110 (lv_at hl 1 rfl) ?_
                          refine lv_iload hx hb dX9_ask_112 (lv_at hl 4 rfl) ?_
                          refine lv_icmp_ge (tgt := 122) hx hb dX9_ask_114 (by decide) (fun hc98 => ?_) (fun hc98 => ?_)
                          · have hc98 : (L47).toInt ≤ (r81).toInt := i_le hc98 rfl rfl
                            refine lv_iload hx hb dX9_ask_122 (lv_at hl 4 rfl) ?_
                            refine lv_istore (lv' := [(4, .int L47), (3, .int L48), (7, .int r81), (6, .int L46), (5, .int L25), (2, .int r20), (0, .ref (ad 64)), (1, .int i)]) hx hb dX9_ask_124 hl (by decide) rfl (fun ls hl => ?_)
                            obtain ⟨z99, e100, t101⟩ := x_add (x := L46) (y := 1) (a := L46.toInt) (b := 1) rfl rfl (by omega) (by omega)
                            have n102 : z99.toNatClampNeg = L46.toNatClampNeg + 1 := cl_addn (x := L46) (y := 1) rfl rfl t101 (by omega) (by decide)
                            refine lv_iinc (v := z99) (lv' := [(6, .int z99), (4, .int L47), (3, .int L48), (7, .int r81), (5, .int L25), (2, .int r20), (0, .ref (ad 64)), (1, .int i)]) hx hb dX9_ask_126 hl (k := 3) rfl e100 (by decide) rfl (fun ls hl => ?_)
                            refine lv_goto (tgt := 44) hx hb dX9_ask_129 (by decide) ?_
                            have c1_hsc103 := cl_of (x := L46) (by omega)
                            have c2_hsc103 := cl_of (x := L66) (by omega)
                            have c3_hsc103 := cl_of (x := L25) (by omega)
                            have ht_hsc103 : r81.toInt = (((tT 1 r20 0) (24 * L25.toNatClampNeg + L46.toNatClampNeg) : Nat) : Int) := by
                              have d1 : 0 + (24 * L25.toNatClampNeg + L46.toNatClampNeg) / 24 = L25.toNatClampNeg := by omega
                              have d2 : (24 * L25.toNatClampNeg + L46.toNatClampNeg) % 24 = L46.toNatClampNeg := by omega
                              show r81.toInt = ((mcS (fun k9 => sayF 1 (nI k9) (nI (0 + (24 * L25.toNatClampNeg + L46.toNatClampNeg) / 24)) (nI ((24 * L25.toNatClampNeg + L46.toNatClampNeg) % 24))) (fun k9 => ¬ bitF r20 (nI k9) = 0) 6 : Nat) : Int)
                              rw [d1, d2, nI_cl (x := L25) (by omega), nI_cl (x := L46) (by omega), mc_mx, hr96, mxS_cong (fun k hk => hi75 k (by omega)) 6 (Nat.le_refl _)]
                            have hsc103 : SC (tT 1 r20 0) 1000000 (fun k9 => 100 * ((k9 / 24 : Nat) : Int) + ((k9 % 24 : Nat) : Int)) ((24 * L25.toNatClampNeg + L46.toNatClampNeg) + 1) L48 L47 := by
                              exact hi56.ge ht_hsc103 (by omega) (by have := tT_le (bk := 1) (bits := r20) (lo := 0) (24 * L25.toNatClampNeg + L46.toNatClampNeg); omega)
                            have hst104 : SC (tT 1 r20 0) 1000000 (fun k9 => 100 * ((k9 / 24 : Nat) : Int) + ((k9 % 24 : Nat) : Int)) (24 * L25.toNatClampNeg + z99.toNatClampNeg) L48 L47 := by
                              have e9 : (24 * L25.toNatClampNeg + z99.toNatClampNeg) = (24 * L25.toNatClampNeg + L46.toNatClampNeg) + 1 := by rw [n102]; omega
                              rw [e9]; exact hsc103
                            exact ih52  z99 L47 L48 wL68 _ _ _ (by omega) (by omega) hst104 ok76 kx77 cf79 (by omega) h (lv_sub hl [0, 4, 1, 2, 5, 6, 7] rfl)
                          · have hc98 : ¬ (L47).toInt ≤ (r81).toInt := i_nle hc98 rfl rfl
                            refine lv_iload hx hb dX9_ask_117 (lv_at hl 1 rfl) ?_
                            refine lv_goto (tgt := 124) hx hb dX9_ask_119 (by decide) ?_
                            refine lv_istore (lv' := [(4, .int r81), (3, .int L48), (7, .int r81), (6, .int L46), (5, .int L25), (2, .int r20), (0, .ref (ad 64)), (1, .int i)]) hx hb dX9_ask_124 hl (by decide) rfl (fun ls hl => ?_)
                            obtain ⟨z105, e106, t107⟩ := x_add (x := L46) (y := 1) (a := L46.toInt) (b := 1) rfl rfl (by omega) (by omega)
                            have n108 : z105.toNatClampNeg = L46.toNatClampNeg + 1 := cl_addn (x := L46) (y := 1) rfl rfl t107 (by omega) (by decide)
                            refine lv_iinc (v := z105) (lv' := [(6, .int z105), (4, .int r81), (3, .int L48), (7, .int r81), (5, .int L25), (2, .int r20), (0, .ref (ad 64)), (1, .int i)]) hx hb dX9_ask_126 hl (k := 3) rfl e106 (by decide) rfl (fun ls hl => ?_)
                            refine lv_goto (tgt := 44) hx hb dX9_ask_129 (by decide) ?_
                            have c1_hsc109 := cl_of (x := L46) (by omega)
                            have c2_hsc109 := cl_of (x := L66) (by omega)
                            have c3_hsc109 := cl_of (x := L25) (by omega)
                            have ht_hsc109 : r81.toInt = (((tT 1 r20 0) (24 * L25.toNatClampNeg + L46.toNatClampNeg) : Nat) : Int) := by
                              have d1 : 0 + (24 * L25.toNatClampNeg + L46.toNatClampNeg) / 24 = L25.toNatClampNeg := by omega
                              have d2 : (24 * L25.toNatClampNeg + L46.toNatClampNeg) % 24 = L46.toNatClampNeg := by omega
                              show r81.toInt = ((mcS (fun k9 => sayF 1 (nI k9) (nI (0 + (24 * L25.toNatClampNeg + L46.toNatClampNeg) / 24)) (nI ((24 * L25.toNatClampNeg + L46.toNatClampNeg) % 24))) (fun k9 => ¬ bitF r20 (nI k9) = 0) 6 : Nat) : Int)
                              rw [d1, d2, nI_cl (x := L25) (by omega), nI_cl (x := L46) (by omega), mc_mx, hr96, mxS_cong (fun k hk => hi75 k (by omega)) 6 (Nat.le_refl _)]
                            have hsc109 : SC (tT 1 r20 0) 1000000 (fun k9 => 100 * ((k9 / 24 : Nat) : Int) + ((k9 % 24 : Nat) : Int)) ((24 * L25.toNatClampNeg + L46.toNatClampNeg) + 1) L48 r81 := by
                              exfalso; omega
                            have hst110 : SC (tT 1 r20 0) 1000000 (fun k9 => 100 * ((k9 / 24 : Nat) : Int) + ((k9 % 24 : Nat) : Int)) (24 * L25.toNatClampNeg + z105.toNatClampNeg) L48 r81 := by
                              have e9 : (24 * L25.toNatClampNeg + z105.toNatClampNeg) = (24 * L25.toNatClampNeg + L46.toNatClampNeg) + 1 := by rw [n108]; omega
                              rw [e9]; exact hsc109
                            exact ih52  z105 r81 L48 wL68 _ _ _ (by omega) (by omega) hst110 ok76 kx77 cf79 (by omega) h (lv_sub hl [0, 4, 1, 2, 5, 6, 7] rfl)
                        · have hc97 : ¬ (L47).toInt ≤ (r81).toInt := i_nle hc97 rfl rfl
                          refine lv_bipush (v := 100) hx hb dX9_ask_97 (by decide) ?_
                          refine lv_iload hx hb dX9_ask_99 (lv_at hl 2 rfl) ?_
                          obtain ⟨z113, e111, t112⟩ := x_mul (x := (100 : Int32)) (y := L25) (a := 100) (b := (L25).toInt) rfl rfl (by omega) (by omega)
                          refine o_imul (z := z113) hx hb dX9_ask_101 e111 ?_
                          refine lv_iload hx hb dX9_ask_102 (lv_at hl 1 rfl) ?_
                          obtain ⟨z116, e114, t115⟩ := x_add (x := z113) (y := L46) (a := (z113).toInt) (b := (L46).toInt) rfl rfl (by omega) (by omega)
                          have n117 : z116.toNatClampNeg = z113.toNatClampNeg + L46.toNatClampNeg := cl_addn (x := z113) (y := L46) rfl rfl t115 (by omega) (by omega)
                          refine o_iadd (z := z116) hx hb dX9_ask_104 e114 ?_
                          refine lv_goto (tgt := 109) hx hb dX9_ask_105 (by decide) ?_
                          refine lv_istore_n (lv' := [(3, .int z116), (7, .int r81), (6, .int L46), (5, .int L25), (4, .int L47), (2, .int r20), (0, .ref (ad 64)), (1, .int i)]) hx hb dX9_ask_109 rfl hl (by decide) rfl (fun ls hl => ?_)
                          refine lv_iload hx hb dX9_ask_110 (lv_at hl 1 rfl) ?_
                          refine lv_iload hx hb dX9_ask_112 (lv_at hl 4 rfl) ?_
                          refine lv_icmp_ge (tgt := 122) hx hb dX9_ask_114 (by decide) (fun hc118 => ?_) (fun hc118 => ?_)
                          · have hc118 : (L47).toInt ≤ (r81).toInt := i_le hc118 rfl rfl
                            refine lv_iload hx hb dX9_ask_122 (lv_at hl 4 rfl) ?_
                            refine lv_istore (lv' := [(4, .int L47), (3, .int z116), (7, .int r81), (6, .int L46), (5, .int L25), (2, .int r20), (0, .ref (ad 64)), (1, .int i)]) hx hb dX9_ask_124 hl (by decide) rfl (fun ls hl => ?_)
                            obtain ⟨z119, e120, t121⟩ := x_add (x := L46) (y := 1) (a := L46.toInt) (b := 1) rfl rfl (by omega) (by omega)
                            have n122 : z119.toNatClampNeg = L46.toNatClampNeg + 1 := cl_addn (x := L46) (y := 1) rfl rfl t121 (by omega) (by decide)
                            refine lv_iinc (v := z119) (lv' := [(6, .int z119), (4, .int L47), (3, .int z116), (7, .int r81), (5, .int L25), (2, .int r20), (0, .ref (ad 64)), (1, .int i)]) hx hb dX9_ask_126 hl (k := 3) rfl e120 (by decide) rfl (fun ls hl => ?_)
                            refine lv_goto (tgt := 44) hx hb dX9_ask_129 (by decide) ?_
                            have c1_hsc123 := cl_of (x := L46) (by omega)
                            have c2_hsc123 := cl_of (x := L66) (by omega)
                            have c3_hsc123 := cl_of (x := L25) (by omega)
                            have ht_hsc123 : r81.toInt = (((tT 1 r20 0) (24 * L25.toNatClampNeg + L46.toNatClampNeg) : Nat) : Int) := by
                              have d1 : 0 + (24 * L25.toNatClampNeg + L46.toNatClampNeg) / 24 = L25.toNatClampNeg := by omega
                              have d2 : (24 * L25.toNatClampNeg + L46.toNatClampNeg) % 24 = L46.toNatClampNeg := by omega
                              show r81.toInt = ((mcS (fun k9 => sayF 1 (nI k9) (nI (0 + (24 * L25.toNatClampNeg + L46.toNatClampNeg) / 24)) (nI ((24 * L25.toNatClampNeg + L46.toNatClampNeg) % 24))) (fun k9 => ¬ bitF r20 (nI k9) = 0) 6 : Nat) : Int)
                              rw [d1, d2, nI_cl (x := L25) (by omega), nI_cl (x := L46) (by omega), mc_mx, hr96, mxS_cong (fun k hk => hi75 k (by omega)) 6 (Nat.le_refl _)]
                            have hsc123 : SC (tT 1 r20 0) 1000000 (fun k9 => 100 * ((k9 / 24 : Nat) : Int) + ((k9 % 24 : Nat) : Int)) ((24 * L25.toNatClampNeg + L46.toNatClampNeg) + 1) z116 L47 := by
                              exfalso; omega
                            have hst124 : SC (tT 1 r20 0) 1000000 (fun k9 => 100 * ((k9 / 24 : Nat) : Int) + ((k9 % 24 : Nat) : Int)) (24 * L25.toNatClampNeg + z119.toNatClampNeg) z116 L47 := by
                              have e9 : (24 * L25.toNatClampNeg + z119.toNatClampNeg) = (24 * L25.toNatClampNeg + L46.toNatClampNeg) + 1 := by rw [n122]; omega
                              rw [e9]; exact hsc123
                            exact ih52  z119 L47 z116 wL68 _ _ _ (by omega) (by omega) hst124 ok76 kx77 cf79 (by omega) h (lv_sub hl [0, 4, 1, 2, 5, 6, 7] rfl)
                          · have hc118 : ¬ (L47).toInt ≤ (r81).toInt := i_nle hc118 rfl rfl
                            refine lv_iload hx hb dX9_ask_117 (lv_at hl 1 rfl) ?_
                            refine lv_goto (tgt := 124) hx hb dX9_ask_119 (by decide) ?_
                            refine lv_istore (lv' := [(4, .int r81), (3, .int z116), (7, .int r81), (6, .int L46), (5, .int L25), (2, .int r20), (0, .ref (ad 64)), (1, .int i)]) hx hb dX9_ask_124 hl (by decide) rfl (fun ls hl => ?_)
                            obtain ⟨z125, e126, t127⟩ := x_add (x := L46) (y := 1) (a := L46.toInt) (b := 1) rfl rfl (by omega) (by omega)
                            have n128 : z125.toNatClampNeg = L46.toNatClampNeg + 1 := cl_addn (x := L46) (y := 1) rfl rfl t127 (by omega) (by decide)
                            refine lv_iinc (v := z125) (lv' := [(6, .int z125), (4, .int r81), (3, .int z116), (7, .int r81), (5, .int L25), (2, .int r20), (0, .ref (ad 64)), (1, .int i)]) hx hb dX9_ask_126 hl (k := 3) rfl e126 (by decide) rfl (fun ls hl => ?_)
                            refine lv_goto (tgt := 44) hx hb dX9_ask_129 (by decide) ?_
                            have c1_hsc129 := cl_of (x := L46) (by omega)
                            have c2_hsc129 := cl_of (x := L66) (by omega)
                            have c3_hsc129 := cl_of (x := L25) (by omega)
                            have ht_hsc129 : r81.toInt = (((tT 1 r20 0) (24 * L25.toNatClampNeg + L46.toNatClampNeg) : Nat) : Int) := by
                              have d1 : 0 + (24 * L25.toNatClampNeg + L46.toNatClampNeg) / 24 = L25.toNatClampNeg := by omega
                              have d2 : (24 * L25.toNatClampNeg + L46.toNatClampNeg) % 24 = L46.toNatClampNeg := by omega
                              show r81.toInt = ((mcS (fun k9 => sayF 1 (nI k9) (nI (0 + (24 * L25.toNatClampNeg + L46.toNatClampNeg) / 24)) (nI ((24 * L25.toNatClampNeg + L46.toNatClampNeg) % 24))) (fun k9 => ¬ bitF r20 (nI k9) = 0) 6 : Nat) : Int)
                              rw [d1, d2, nI_cl (x := L25) (by omega), nI_cl (x := L46) (by omega), mc_mx, hr96, mxS_cong (fun k hk => hi75 k (by omega)) 6 (Nat.le_refl _)]
                            have hsc129 : SC (tT 1 r20 0) 1000000 (fun k9 => 100 * ((k9 / 24 : Nat) : Int) + ((k9 % 24 : Nat) : Int)) ((24 * L25.toNatClampNeg + L46.toNatClampNeg) + 1) z116 r81 := by
                              exact hi56.lt ht_hsc129 (by omega) (by show z116.toInt = 100 * (((24 * L25.toNatClampNeg + L46.toNatClampNeg) / 24 : Nat) : Int) + (((24 * L25.toNatClampNeg + L46.toNatClampNeg) % 24 : Nat) : Int); omega)
                            have hst130 : SC (tT 1 r20 0) 1000000 (fun k9 => 100 * ((k9 / 24 : Nat) : Int) + ((k9 % 24 : Nat) : Int)) (24 * L25.toNatClampNeg + z125.toNatClampNeg) z116 r81 := by
                              have e9 : (24 * L25.toNatClampNeg + z125.toNatClampNeg) = (24 * L25.toNatClampNeg + L46.toNatClampNeg) + 1 := by rw [n128]; omega
                              rw [e9]; exact hsc129
                            exact ih52  z125 r81 z116 wL68 _ _ _ (by omega) (by omega) hst130 ok76 kx77 cf79 (by omega) h (lv_sub hl [0, 4, 1, 2, 5, 6, 7] rfl)
                      · have hc80 : ¬ 6 ≤ (L66).toInt := i_nle hc80 rfl rfl
                        refine lv_aload_n hx hb dX9_ask_61 rfl (lv_at hl 6 rfl) ?_
                        obtain ⟨x132, x133, t134, t135, t136, t137, t138, t139, f131, h140, h141⟩ := (show sM ad (wL68 64) from ok76 64 (by decide))
                        have f142 : wL68 64 = .inr (7, [.ref (ad 65), .ref (ad 66), .ref (ad 67), .ref (ad 68), .long x132, .long x133, .ref (ad 69), .int t134, .ref (ad 70), .ref (ad 71), .int t135, .int t136, .int t137, .int t138, .int t139, .ref (ad 72), .ref (ad 73)]) := f131
                        refine r_get kc9 X h 64 8 (by decide) rfl f142 (by decide) kv_518 rfl dX9_ask_62 ?_
                        refine lv_iload hx hb dX9_ask_65 (lv_at hl 0 rfl) ?_
                        refine lv_iload hx hb dX9_ask_67 (lv_at hl 0 rfl) ?_
                        refine lv_iload hx hb dX9_ask_69 (lv_at hl 2 rfl) ?_
                        refine lv_iload hx hb dX9_ask_71 (lv_at hl 1 rfl) ?_
                        refine n_Si (na := 3) (As := [.int L66, .int L25, .int L46]) (rest := [.int L66, .ref (ad 70)]) X hD hN h (c_MF_losesAs l G cI cB cZ cO ad wL68   L66 L25 L46  ) ⟨kv_480, kv_481, kv_470, kv_482⟩ ⟨by decide, by decide, by decide⟩ ⟨Nat.le_of_ble_eq_true rfl, Nat.le_of_ble_eq_true rfl⟩ ⟨Nat.zero_le _, Nat.zero_le _⟩ rfl hl.1 rfl (Nat.le_of_ble_eq_true rfl) dX9_ask_73 (fun r143 w144 H locs hp145 h => ?_)
                        obtain ⟨rfl, hr146⟩ := hp145
                        obtain ⟨g147, e148⟩ : ∃ z : Nat → Int32, upd C67 L66.toNatClampNeg r143 = z := ⟨_, rfl⟩
                        have p150 : anyA g147 := trivial
                        refine o_iast (f1 := g147) X hD h 70 0 (by decide) rfl cf78 rfl (in_of (by omega) (by omega)) e148 dX9_ask_76 (fun H locs w151 e152 h => ?_)
                        have f153 : w151 70 = .inl (cI, 6, .inl g147) := (congrFun e152 _).trans (va_up_self _ _ _)
                        have ok154 : OK cI cB cZ cO ad w151 := OK.up ok76 e152 (sA_mk p150)
                        have kx155 : KM w w151 := KM.up kx77 e152 cf78 rfl
                        obtain ⟨z156, e157, t158⟩ := x_add (x := L66) (y := 1) (a := L66.toInt) (b := 1) rfl rfl (by omega) (by omega)
                        have n159 : z156.toNatClampNeg = L66.toNatClampNeg + 1 := cl_addn (x := L66) (y := 1) rfl rfl t158 (by omega) (by decide)
                        refine lv_iinc (v := z156) (lv' := [(7, .int z156), (6, .int L46), (5, .int L25), (4, .int L47), (3, .int L48), (2, .int r20), (0, .ref (ad 64)), (1, .int i)]) hx hb dX9_ask_77 hl (k := 0) rfl e157 (by decide) rfl (fun ls hl => ?_)
                        refine lv_goto (tgt := 54) hx hb dX9_ask_80 (by decide) ?_
                        have f160 : w151 65 = .inl (cI, 177, .inl f) := by rw [e152, va_up_ne _ _ (by decide)]; exact cf79
                        exact ih71  z156 g147 w151 _ _ _ (by omega) (by omega) (fun j hj => by rw [n159] at hj; rw [← e148]; by_cases q9 : j = L66.toNatClampNeg; (subst q9; rw [pk_us, nI_cl (x := L66) (by omega)]; unfold sayF; rw [if_neg (by decide)]; exact hr146.symm); (rw [pk_un q9]; exact hi75 j (by omega))) ok154 kx155 f153 f160 (by omega) h (lv_sub hl [0, 1, 2, 3, 4, 5, 6, 7] rfl)
                  obtain ⟨g162, f161, p163⟩ := (show sA cI 6 (anyA) (wL49 70) from ok57 70 (by decide))
                  have f164 : wL49 70 = .inl (cI, 6, .inl g162) := f161
                  exact hloop69 7 (0 : Int32) g162 wL49 _ _ _ (by have q0 : (0 : Int32).toInt = 0 := rfl; omega) (by have q0 : (0 : Int32).toInt = 0 := rfl; omega) (fun j hj => absurd hj (Nat.not_lt_zero _)) ok57 kx58 f164 cf59 (by have q0 : (0 : Int32).toInt = 0 := rfl; omega) h (lv_sub hl [0, 1, 2, 3, 4, 5, 6, 7] rfl)
            have hst165 : SC (tT 1 r20 0) 1000000 (fun k9 => 100 * ((k9 / 24 : Nat) : Int) + ((k9 % 24 : Nat) : Int)) (24 * L25.toNatClampNeg + (0 : Int32).toNatClampNeg) L27 L26 := by rw [show (0 : Int32).toNatClampNeg = 0 from rfl, Nat.add_zero]; exact hi36
            exact hloop50 25 (0 : Int32) L26 L27 wL28 _ _ _ (by have q0 : (0 : Int32).toInt = 0 := rfl; omega) (by have q0 : (0 : Int32).toInt = 0 := rfl; omega) hst165 ok37 kx38 cf39 (by have q0 : (0 : Int32).toInt = 0 := rfl; omega) h (lv_sub hl [0, 1, 2, 3, 4, 5, 6] rfl)
    exact hloop29 62 (0 : Int32) (1000000 : Int32) ((-1) : Int32) w _ _ _ (by have q0 : ((-1) : Int32).toInt = (-1) := rfl; have q1 : (0 : Int32).toInt = 0 := rfl; have q2 : (1000000 : Int32).toInt = 1000000 := rfl; omega) (by have q0 : ((-1) : Int32).toInt = (-1) := rfl; have q1 : (0 : Int32).toInt = 0 := rfl; have q2 : (1000000 : Int32).toInt = 1000000 := rfl; omega) (by have q0 : ((-1) : Int32).toInt = (-1) := rfl; have q1 : (0 : Int32).toInt = 0 := rfl; have q2 : (1000000 : Int32).toInt = 1000000 := rfl; omega) (Or.inl ⟨rfl, by decide, by decide⟩) ok KM.rf pf (by have q0 : ((-1) : Int32).toInt = (-1) := rfl; have q1 : (0 : Int32).toInt = 0 := rfl; have q2 : (1000000 : Int32).toInt = 1000000 := rfl; omega) h (lv_sub hl [0, 1, 2, 3, 4, 5] rfl)
  · refine lv_if_ne (tgt := 15) hx hb dX9_ask_5 (by decide) (fun hc => absurd (by decide) hc) (fun _ => ?_)
    refine lv_aload_n hx hb dX9_ask_8 rfl (lv_at hl 0 rfl) ?_
    refine lv_bipush (v := (-2)) hx hb dX9_ask_9 (by decide) ?_
    refine n_Vi (na := 1) (As := [.int (-2)]) (rest := []) X hD hN h rfl (c_M_bad l G cI cB cZ cO ad w  ok ((-2) : Int32)  ) ⟨kv_553, kv_554, kv_555, kv_470, kv_556⟩ rfl ⟨by decide, by decide, by decide⟩ ⟨Nat.le_of_ble_eq_true rfl, Nat.le_of_ble_eq_true rfl⟩ ⟨Nat.zero_le _, Nat.zero_le _⟩ (by decide) f15 rfl rfl hl.1 rfl (Nat.le_of_ble_eq_true rfl) dX9_ask_11 (fun r166 w167 H locs hp168 h => ?_)
    have kM169 : KM w w167 := hp168.2.1
    obtain ⟨ok172, kk173, hr171⟩ := hp168
    have kx174 : KM w w167 := kk173
    subst hr171
    exact e_i X h hr hlk dX9_ask_14 ⟨ok172, kx174, Or.inr ⟨by omega, rfl⟩⟩

