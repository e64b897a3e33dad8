set_option maxHeartbeats 4000000 in
set_option maxRecDepth 100000 in
theorem c_F_answeredSo (l : Launch) (G : va_G) (cI cB cZ cO : ClassId) (ad : Nat → Nat) (w : Nat → va_E) (an : Nat → Int32) (ok : OK cI cB cZ cO ad w) (x : Int32) (n : Int32) (hl_n : 0 ≤ n.toInt) (hh_n : n.toInt ≤ 6) (p63 : w 63 = .inl (cI, 6, .inl an)) : NI l G (tyq cI cB cZ cO) yX1_answeredSo cX1_answeredSo 5 (some .int) 0 0 74 ad w [.ref (ad 62), .int x, .int n] (fun r w1 => w = w1 ∧ r.toInt = ((cntA an n.toNatClampNeg x : Nat) : Int) ∧ 0 ≤ r.toInt ∧ r.toInt ≤ n.toInt) := by
  refine nk_i (own := "NoonShade$Guess") rfl (by decide) (Nat.le_of_ble_eq_true rfl) ?_
  intro p e s m below meth c ls X hD hN hr hlk h hl
  have hx := X.1.1
  have hb := X.1.2.1
  have hown := X.1.2.2.2.1
  have hts := X.1.2.2.2.2
  have hl : lv_has ls 5 [(0, .ref (ad 62)), (1, .int x), (2, .int n)] := hl
  refine lv_iconst (v := 0) hx hb dX1_answeredSo_0 (by decide) ?_
  refine lv_istore_n (lv' := [(3, .int 0), (0, .ref (ad 62)), (1, .int x), (2, .int n)]) hx hb dX1_answeredSo_1 rfl hl (by decide) rfl (fun ls hl => ?_)
  refine lv_iconst (v := 0) hx hb dX1_answeredSo_2 (by decide) ?_
  refine lv_istore (lv' := [(4, .int 0), (3, .int 0), (0, .ref (ad 62)), (1, .int x), (2, .int n)]) hx hb dX1_answeredSo_3 hl (by decide) rfl (fun ls hl => ?_)
  have hloop3 : ∀ (d4 : Nat) (L1 : Int32) (L2 : Int32) (H : Heap) (locs : List Loc) (ls : Array Slot), 0 ≤ L2.toInt → L2.toInt ≤ 6 → 0 ≤ L1.toInt → L1.toInt ≤ 6 → L2.toInt ≤ L1.toInt → L1.toInt ≤ n.toInt → (L2.toInt = (cntA an L1.toNatClampNeg x : Nat)) → 6 - L1.toInt < (d4 : Int) → St G 74 ad (wA 74 ad s.heap.size) s.heap w H locs → lv_has ls 5 [(4, .int L1), (3, .int L2), (0, .ref (ad 62)), (1, .int x), (2, .int n)] → W p l e { frames := 0, cells := 0, slots := 0, locals := 0 } s m [.ref (ad 62), .int x, .int n].toArray below meth c H locs 0 0 (MQ below (va_Qi (fun r w1 => w = w1 ∧ r.toInt = ((cntA an n.toNatClampNeg x : Nat) : Int) ∧ 0 ≤ r.toInt ∧ r.toInt ≤ n.toInt) (Aft G 74 ad) (wA 74 ad s.heap.size)) [.ref (ad 62), .int x, .int n].toArray s 0 0 (wA 74 ad s.heap.size)) (F0 m 5 ls []) := by
    intro d4
    induction d4 with
    | zero => intro L1 L2 H locs ls hi7 hi8 hi9 hi10 hi11 hi12 hi13 hm6 h hl; exfalso; omega
    | succ d4 ih5 =>
      intro L1 L2 H locs ls hi7 hi8 hi9 hi10 hi11 hi12 hi13 hm6 h hl
      refine lv_iload hx hb dX1_answeredSo_5 (lv_at hl 0 rfl) ?_
      refine lv_iload_n hx hb dX1_answeredSo_7 rfl (lv_at hl 4 rfl) ?_
      refine lv_icmp_ge (tgt := 31) hx hb dX1_answeredSo_8 (by decide) (fun hc16 => ?_) (fun hc16 => ?_)
      · have hc16 : (n).toInt ≤ (L1).toInt := i_le hc16 rfl rfl
        refine lv_iload_n hx hb dX1_answeredSo_31 rfl (lv_at hl 1 rfl) ?_
        have has17 : L2.toInt = ((cntA an n.toNatClampNeg x : Nat) : Int) := by
          have c1 := cl_of (x := n) (by omega)
          have c2 := cl_of (x := L1) (by omega)
          have e9 : n.toNatClampNeg = L1.toNatClampNeg := by omega
          rw [e9]; exact hi13
        exact e_i X h hr hlk dX1_answeredSo_32 ⟨rfl, ⟨has17, by omega, by omega⟩⟩
      · have hc16 : ¬ (n).toInt ≤ (L1).toInt := i_nle hc16 rfl rfl
        refine lv_aload_n hx hb dX1_answeredSo_11 rfl (lv_at hl 2 rfl) ?_
        have f18 : w 62 = .inr (0, [.ref (ad 63)]) := ok 62 (by decide)
        have f19 : w 62 = .inr (0, [.ref (ad 63)]) := f18
        refine r_get kc1 X h 62 0 (by decide) rfl f19 (by decide) kv_95 rfl dX1_answeredSo_12 ?_
        refine lv_iload hx hb dX1_answeredSo_15 (lv_at hl 0 rfl) ?_
        obtain ⟨v20, e21⟩ : ∃ z : Int32, an L1.toNatClampNeg = z := ⟨_, rfl⟩
        refine o_iald (v := v20) X h 63 0 (by decide) rfl p63 rfl (in_of (by omega) (by omega)) e21 dX1_answeredSo_17 ?_
        refine lv_iload_n hx hb dX1_answeredSo_18 rfl (lv_at hl 3 rfl) ?_
        refine lv_icmp_ne (tgt := 25) hx hb dX1_answeredSo_19 (by decide) (fun hc23 => ?_) (fun hc23 => ?_)
        · have hc23 : ¬ (v20).toInt = (x).toInt := i_ne hc23 rfl rfl
          obtain ⟨z24, e25, t26⟩ := x_add (x := L1) (y := 1) (a := L1.toInt) (b := 1) rfl rfl (by omega) (by omega)
          have n27 : z24.toNatClampNeg = L1.toNatClampNeg + 1 := cl_addn (x := L1) (y := 1) rfl rfl t26 (by omega) (by decide)
          refine lv_iinc (v := z24) (lv' := [(4, .int z24), (3, .int L2), (0, .ref (ad 62)), (1, .int x), (2, .int n)]) hx hb dX1_answeredSo_25 hl (k := 0) rfl e25 (by decide) rfl (fun ls hl => ?_)
          refine lv_goto (tgt := 5) hx hb dX1_answeredSo_28 (by decide) ?_
          have hct28 : L2.toInt = ((cntA an z24.toNatClampNeg x : Nat) : Int) := by
            rw [n27, cntA_n (fun q9 => by rw [e21] at q9; have := congrArg Int32.toInt q9; omega)]; exact hi13
          exact ih5  z24 L2  _ _ _ (by omega) (by omega) (by omega) (by omega) (by omega) (by omega) hct28  (by omega) h (lv_sub hl [0, 1, 2, 3, 4] rfl)
        · have hc23 : (v20).toInt = (x).toInt := i_eq hc23 rfl rfl
          obtain ⟨z29, e30, t31⟩ := x_add (x := L2) (y := 1) (a := L2.toInt) (b := 1) rfl rfl (by omega) (by omega)
          have n32 : z29.toNatClampNeg = L2.toNatClampNeg + 1 := cl_addn (x := L2) (y := 1) rfl rfl t31 (by omega) (by decide)
          refine lv_iinc (v := z29) (lv' := [(3, .int z29), (4, .int L1), (0, .ref (ad 62)), (1, .int x), (2, .int n)]) hx hb dX1_answeredSo_22 hl (k := 1) rfl e30 (by decide) rfl (fun ls hl => ?_)
          obtain ⟨z33, e34, t35⟩ := x_add (x := L1) (y := 1) (a := L1.toInt) (b := 1) rfl rfl (by omega) (by omega)
          have n36 : z33.toNatClampNeg = L1.toNatClampNeg + 1 := cl_addn (x := L1) (y := 1) rfl rfl t35 (by omega) (by decide)
          refine lv_iinc (v := z33) (lv' := [(4, .int z33), (3, .int z29), (0, .ref (ad 62)), (1, .int x), (2, .int n)]) hx hb dX1_answeredSo_25 hl (k := 1) rfl e34 (by decide) rfl (fun ls hl => ?_)
          refine lv_goto (tgt := 5) hx hb dX1_answeredSo_28 (by decide) ?_
          have hct37 : z29.toInt = ((cntA an z33.toNatClampNeg x : Nat) : Int) := by
            rw [n36, cntA_y (by rw [e21]; exact (fa_eq _ _).mpr (by omega))]; omega
          exact ih5  z33 z29  _ _ _ (by omega) (by omega) (by omega) (by omega) (by omega) (by omega) hct37  (by omega) h (lv_sub hl [0, 1, 2, 3, 4] rfl)
  exact hloop3 7 (0 : Int32) (0 : Int32)  _ _ _ (by have q0 : (0 : Int32).toInt = 0 := rfl; omega) (by have q0 : (0 : Int32).toInt = 0 := rfl; omega) (by have q0 : (0 : Int32).toInt = 0 := rfl; omega) (by have q0 : (0 : Int32).toInt = 0 := rfl; omega) (by have q0 : (0 : Int32).toInt = 0 := rfl; omega) (by have q0 : (0 : Int32).toInt = 0 := rfl; omega) (show (0 : Int32).toInt = ((cntA an 0 x : Nat) : Int) from rfl)  (by have q0 : (0 : Int32).toInt = 0 := rfl; omega) h (lv_sub hl [0, 1, 2, 3, 4] rfl)

set_option maxHeartbeats 4000000 in
set_option maxRecDepth 100000 in
theorem c_F_mostAlike1 (l : Launch) (G : va_G) (cI cB cZ cO : ClassId) (ad : Nat → Nat) (w : Nat → va_E) (an : Nat → Int32) (ok : OK cI cB cZ cO ad w) (bits : Int32) (me : Int32) (t : Int32) (hl_me : 0 ≤ me.toInt) (hh_me : me.toInt ≤ 60) (hl_t : 0 ≤ t.toInt) (hh_t : t.toInt ≤ 23) (p63 : w 63 = .inl (cI, 6, .inl an)) : NI l G (tyq cI cB cZ cO) yX1_mostAlike cX1_mostAlike 9 (some .int) 3 68 74 ad w [.ref (ad 62), .int 1, .int bits, .int me, .int t] (fun r w1 => OK cI cB cZ cO ad w1 ∧ KX w w1 ∧ r.toInt = ((mcS (fun k9 => sayF 1 (nI k9) me t) (fun k9 => ¬ bitF bits (nI k9) = 0) 6 : Nat) : Int)) := by
  refine nk_i (own := "NoonShade$Guess") rfl (by decide) (Nat.le_of_ble_eq_true rfl) ?_
  intro p e s m below meth c ls X hD hN hr hlk h hl
  have hx := X.1.1
  have hb := X.1.2.1
  have hown := X.1.2.2.2.1
  have hts := X.1.2.2.2.2
  have hl : lv_has ls 9 [(0, .ref (ad 62)), (1, .int 1), (2, .int bits), (3, .int me), (4, .int t)] := hl
  refine lv_iconst (v := 0) hx hb dX1_mostAlike_0 (by decide) ?_
  refine lv_istore (lv' := [(5, .int 0), (0, .ref (ad 62)), (1, .int 1), (2, .int bits), (3, .int me), (4, .int t)]) hx hb dX1_mostAlike_1 hl (by decide) rfl (fun ls hl => ?_)
  refine lv_iconst (v := 0) hx hb dX1_mostAlike_3 (by decide) ?_
  refine lv_istore (lv' := [(6, .int 0), (5, .int 0), (0, .ref (ad 62)), (1, .int 1), (2, .int bits), (3, .int me), (4, .int t)]) hx hb dX1_mostAlike_4 hl (by decide) rfl (fun ls hl => ?_)
  refine lv_iconst (v := 0) hx hb dX1_mostAlike_6 (by decide) ?_
  refine lv_istore (lv' := [(7, .int 0), (6, .int 0), (5, .int 0), (0, .ref (ad 62)), (1, .int 1), (2, .int bits), (3, .int me), (4, .int t)]) hx hb dX1_mostAlike_7 hl (by decide) rfl (fun ls hl => ?_)
  have hloop6 : ∀ (d7 : Nat) (L1 : Int32) (L2 : Int32) (L3 : Int32) (C4 : Nat → Int32) (wL5 : Nat → va_E) (H : Heap) (locs : List Loc) (ls : Array Slot), 0 ≤ L3.toInt → L3.toInt ≤ 6 → 0 ≤ L2.toInt → L2.toInt ≤ 6 → 0 ≤ L1.toInt → L1.toInt ≤ 6 → L2.toInt ≤ L1.toInt → (L3.toInt = ((mcS (fun k9 => sayF 1 (nI k9) me t) (fun k9 => ¬ bitF bits (nI k9) = 0) L1.toNatClampNeg : Nat) : Int)) → (∀ x9 : Int32, cntA C4 L2.toNatClampNeg x9 = cntS (fun k9 => sayF 1 (nI k9) me t) (fun k9 => ¬ bitF bits (nI k9) = 0) L1.toNatClampNeg x9) → OK cI cB cZ cO ad wL5 → KX w wL5 → wL5 63 = .inl (cI, 6, .inl C4) → 6 - L1.toInt < (d7 : Int) → St G 74 ad (wA 74 ad s.heap.size) s.heap wL5 H locs → lv_has ls 9 [(7, .int L1), (6, .int L2), (5, .int L3), (0, .ref (ad 62)), (1, .int 1), (2, .int bits), (3, .int me), (4, .int t)] → W p l e { frames := 3, cells := 0, slots := 0, locals := 68 } s m [.ref (ad 62), .int 1, .int bits, .int me, .int t].toArray below meth c H locs 0 0 (MQ below (va_Qi (fun r w1 => OK cI cB cZ cO ad w1 ∧ KX w w1 ∧ r.toInt = ((mcS (fun k9 => sayF 1 (nI k9) me t) (fun k9 => ¬ bitF bits (nI k9) = 0) 6 : Nat) : Int)) (Aft G 74 ad) (wA 74 ad s.heap.size)) [.ref (ad 62), .int 1, .int bits, .int me, .int t].toArray s 0 0 (wA 74 ad s.heap.size)) (F0 m 9 ls []) := by
    intro d7
    induction d7 with
    | zero => intro L1 L2 L3 C4 wL5 H locs ls hi10 hi11 hi12 hi13 hi14 hi15 hi16 hi17 hi18 ok19 kx20 cf21 hm9 h hl; exfalso; omega
    | succ d7 ih8 =>
      intro L1 L2 L3 C4 wL5 H locs ls hi10 hi11 hi12 hi13 hi14 hi15 hi16 hi17 hi18 ok19 kx20 cf21 hm9 h hl
      refine lv_iload hx hb dX1_mostAlike_9 (lv_at hl 0 rfl) ?_
      refine lv_bipush (v := 6) hx hb dX1_mostAlike_11 (by decide) ?_
      refine lv_icmp_ge (tgt := 71) hx hb dX1_mostAlike_13 (by decide) (fun hc22 => ?_) (fun hc22 => ?_)
      · have hc22 : 6 ≤ (L1).toInt := i_le hc22 rfl rfl
        refine lv_iload hx hb dX1_mostAlike_71 (lv_at hl 2 rfl) ?_
        have hma23 : L3.toInt = ((mcS (fun k9 => sayF 1 (nI k9) me t) (fun k9 => ¬ bitF bits (nI k9) = 0) 6 : Nat) : Int) := by
          have c2 := cl_of (x := L1) (by omega)
          have e9 : L1.toNatClampNeg = 6 := by omega
          rw [← e9]; exact hi17
        exact e_i X h hr hlk dX1_mostAlike_73 ⟨ok19, kx20, hma23⟩
      · have hc22 : ¬ 6 ≤ (L1).toInt := i_nle hc22 rfl rfl
        refine lv_iload_n hx hb dX1_mostAlike_16 rfl (lv_at hl 5 rfl) ?_
        refine lv_iload hx hb dX1_mostAlike_17 (lv_at hl 0 rfl) ?_
        obtain ⟨z26, e24⟩ : ∃ z : Int32, bits >>> (L1 &&& 31) = z := ⟨_, rfl⟩
        refine o_ishr (z := z26) hx hb dX1_mostAlike_19 e24 ?_
        refine lv_iconst (v := 1) hx hb dX1_mostAlike_20 (by decide) ?_
        obtain ⟨z29, e27⟩ : ∃ z : Int32, z26 &&& (1 : Int32) = z := ⟨_, rfl⟩
        refine o_iand (z := z29) hx hb dX1_mostAlike_21 e27 ?_
        refine lv_if_eq (tgt := 65) hx hb dX1_mostAlike_22 (by decide) (fun hc30 => ?_) (fun hc30 => ?_)
        · have hc30 : (z29).toInt = 0 := i_eq hc30 rfl rfl
          obtain ⟨z31, e32, t33⟩ := x_add (x := L1) (y := 1) (a := L1.toInt) (b := 1) rfl rfl (by omega) (by omega)
          have n34 : z31.toNatClampNeg = L1.toNatClampNeg + 1 := cl_addn (x := L1) (y := 1) rfl rfl t33 (by omega) (by decide)
          refine lv_iinc (v := z31) (lv' := [(7, .int z31), (6, .int L2), (5, .int L3), (0, .ref (ad 62)), (1, .int 1), (2, .int bits), (3, .int me), (4, .int t)]) hx hb dX1_mostAlike_65 hl (k := 0) rfl e32 (by decide) rfl (fun ls hl => ?_)
          refine lv_goto (tgt := 9) hx hb dX1_mostAlike_68 (by decide) ?_
          have hmc35 : L3.toInt = ((mcS (fun k9 => sayF 1 (nI k9) me t) (fun k9 => ¬ bitF bits (nI k9) = 0) z31.toNatClampNeg : Nat) : Int) := by
            rw [n34, mcS_n (by show ¬ ¬ bitF bits (nI L1.toNatClampNeg) = 0; rw [nI_cl (x := L1) (by omega)]; unfold bitF; rw [e24, e27]; omega)]; exact hi17
          have hcn36 : ∀ x9 : Int32, cntA C4 L2.toNatClampNeg x9 = cntS (fun k9 => sayF 1 (nI k9) me t) (fun k9 => ¬ bitF bits (nI k9) = 0) z31.toNatClampNeg x9 := by
            intro x9
            rw [n34, cntS_n (by show ¬ ¬ bitF bits (nI L1.toNatClampNeg) = 0; rw [nI_cl (x := L1) (by omega)]; unfold bitF; rw [e24, e27]; omega)]; exact hi18 x9
          exact ih8  z31 L2 L3 C4 wL5 _ _ _ (by omega) (by omega) (by omega) (by omega) (by omega) (by omega) (by omega) hmc35 hcn36 ok19 kx20 cf21 (by omega) h (lv_sub hl [0, 1, 2, 3, 4, 5, 6, 7] rfl)
        · have hc30 : ¬ (z29).toInt = 0 := i_ne hc30 rfl rfl
          refine lv_iload_n hx hb dX1_mostAlike_25 rfl (lv_at hl 4 rfl) ?_
          refine lv_iload hx hb dX1_mostAlike_26 (lv_at hl 0 rfl) ?_
          refine lv_iload_n hx hb dX1_mostAlike_28 rfl (lv_at hl 6 rfl) ?_
          refine lv_iload hx hb dX1_mostAlike_29 (lv_at hl 7 rfl) ?_
          refine n_Si (na := 4) (As := [.int 1, .int L1, .int me, .int t]) (rest := []) X hD hN h (c_F_says1 l G cI cB cZ cO ad wL5 L1 me t (by omega) (by omega) (by omega) (by omega)) ⟨kv_96, kv_81, kv_82, kv_83⟩ ⟨by decide, by decide, by decide⟩ ⟨Nat.le_of_ble_eq_true rfl, Nat.le_of_ble_eq_true rfl⟩ ⟨Nat.zero_le _, Nat.zero_le _⟩ rfl hl.1 rfl (Nat.le_of_ble_eq_true rfl) dX1_mostAlike_31 (fun r37 w38 H locs hp39 h => ?_)
          obtain ⟨rfl, hr40⟩ := hp39
          refine lv_istore (lv' := [(8, .int r37), (7, .int L1), (6, .int L2), (5, .int L3), (0, .ref (ad 62)), (1, .int 1), (2, .int bits), (3, .int me), (4, .int t)]) hx hb dX1_mostAlike_34 hl (by decide) rfl (fun ls hl => ?_)
          refine lv_iload hx hb dX1_mostAlike_36 (lv_at hl 3 rfl) ?_
          refine lv_iconst (v := 1) hx hb dX1_mostAlike_38 (by decide) ?_
          refine lv_aload_n hx hb dX1_mostAlike_39 rfl (lv_at hl 4 rfl) ?_
          refine lv_iload hx hb dX1_mostAlike_40 (lv_at hl 0 rfl) ?_
          refine lv_iload hx hb dX1_mostAlike_42 (lv_at hl 2 rfl) ?_
          have f44 : wL5 62 = .inr (0, [.ref (ad 63)]) := ok19 62 (by decide)
          have f45 : wL5 62 = .inr (0, [.ref (ad 63)]) := f44
          refine n_Vi (na := 2) (As := [.int r37, .int L2]) (rest := [.int 1, .int L3]) X hD hN h rfl (c_F_answeredSo l G cI cB cZ cO ad wL5 C4 ok19 r37 L2 (by omega) (by omega) cf21) ⟨kv_97, kv_98, kv_99, kv_82, kv_100⟩ rfl ⟨by decide, by decide, by decide⟩ ⟨Nat.le_of_ble_eq_true rfl, Nat.le_of_ble_eq_true rfl⟩ ⟨Nat.zero_le _, Nat.zero_le _⟩ (by decide) f45 rfl rfl hl.1 rfl (Nat.le_of_ble_eq_true rfl) dX1_mostAlike_44 (fun r41 w42 H locs hp43 h => ?_)
          obtain ⟨rfl, hr46, h47, h48⟩ := hp43
          obtain ⟨z51, e49, t50⟩ := x_add (x := (1 : Int32)) (y := r41) (a := 1) (b := (r41).toInt) rfl rfl (by omega) (by omega)
          have n52 : z51.toNatClampNeg = 1 + r41.toNatClampNeg := cl_addn (x := (1 : Int32)) (y := r41) rfl rfl t50 (by decide) (by omega)
          refine o_iadd (z := z51) hx hb dX1_mostAlike_47 e49 ?_
          obtain ⟨z53, e54, t55, t56, t57⟩ := x_max L3 z51
          refine o_mmax X hl.1 kv_101 kv_12 kv_2 kv_13 ⟨Nat.le_of_ble_eq_true rfl, Nat.le_of_ble_eq_true rfl⟩ (Nat.le_of_ble_eq_true rfl) ⟨Nat.zero_le _, Nat.zero_le _⟩ e54 dX1_mostAlike_48 ?_
          refine lv_istore (lv' := [(5, .int z53), (8, .int r37), (7, .int L1), (6, .int L2), (0, .ref (ad 62)), (1, .int 1), (2, .int bits), (3, .int me), (4, .int t)]) hx hb dX1_mostAlike_51 hl (by decide) rfl (fun ls hl => ?_)
          refine lv_aload_n hx hb dX1_mostAlike_53 rfl (lv_at hl 4 rfl) ?_
          refine r_get kc1 X h 62 0 (by decide) rfl f45 (by decide) kv_95 rfl dX1_mostAlike_54 ?_
          refine lv_iload hx hb dX1_mostAlike_57 (lv_at hl 3 rfl) ?_
          refine lv_iload hx hb dX1_mostAlike_59 (lv_at hl 1 rfl) ?_
          obtain ⟨g58, e59⟩ : ∃ z : Nat → Int32, upd C4 L2.toNatClampNeg r37 = z := ⟨_, rfl⟩
          have p61 : anyA g58 := trivial
          refine o_iast (f1 := g58) X hD h 63 0 (by decide) rfl cf21 rfl (in_of (by omega) (by omega)) e59 dX1_mostAlike_61 (fun H locs w62 e63 h => ?_)
          have f64 : w62 63 = .inl (cI, 6, .inl g58) := (congrFun e63 _).trans (va_up_self _ _ _)
          have ok65 : OK cI cB cZ cO ad w62 := OK.up ok19 e63 (sA_mk p61)
          have kx66 : KX w w62 := KX.up kx20 e63 cf21 rfl
          obtain ⟨z67, e68, t69⟩ := x_add (x := L2) (y := 1) (a := L2.toInt) (b := 1) rfl rfl (by omega) (by omega)
          have n70 : z67.toNatClampNeg = L2.toNatClampNeg + 1 := cl_addn (x := L2) (y := 1) rfl rfl t69 (by omega) (by decide)
          refine lv_iinc (v := z67) (lv' := [(6, .int z67), (5, .int z53), (8, .int r37), (7, .int L1), (0, .ref (ad 62)), (1, .int 1), (2, .int bits), (3, .int me), (4, .int t)]) hx hb dX1_mostAlike_62 hl (k := 3) rfl e68 (by decide) rfl (fun ls hl => ?_)
          obtain ⟨z71, e72, t73⟩ := x_add (x := L1) (y := 1) (a := L1.toInt) (b := 1) rfl rfl (by omega) (by omega)
          have n74 : z71.toNatClampNeg = L1.toNatClampNeg + 1 := cl_addn (x := L1) (y := 1) rfl rfl t73 (by omega) (by decide)
          refine lv_iinc (v := z71) (lv' := [(7, .int z71), (6, .int z67), (5, .int z53), (8, .int r37), (0, .ref (ad 62)), (1, .int 1), (2, .int bits), (3, .int me), (4, .int t)]) hx hb dX1_mostAlike_65 hl (k := 3) rfl e72 (by decide) rfl (fun ls hl => ?_)
          refine lv_goto (tgt := 9) hx hb dX1_mostAlike_68 (by decide) ?_
          have hmc75 : z53.toInt = ((mcS (fun k9 => sayF 1 (nI k9) me t) (fun k9 => ¬ bitF bits (nI k9) = 0) z71.toNatClampNeg : Nat) : Int) := by
            have hS9 : sayF 1 (nI L1.toNatClampNeg) me t = r37 := (by show sayF 1 (nI L1.toNatClampNeg) me t = r37; rw [nI_cl (x := L1) (by omega)]; exact hr40)
            have hC9 := hi18 r37
            rw [n74, mcS_y (by show ¬ bitF bits (nI L1.toNatClampNeg) = 0; rw [nI_cl (x := L1) (by omega)]; unfold bitF; rw [e24, e27]; omega), hS9, ← hC9]
            omega
          have hcn76 : ∀ x9 : Int32, cntA g58 z67.toNatClampNeg x9 = cntS (fun k9 => sayF 1 (nI k9) me t) (fun k9 => ¬ bitF bits (nI k9) = 0) z71.toNatClampNeg x9 := by
            intro x9
            rw [n70, n74, ← e59, cntA_push, cntS_y (by show ¬ bitF bits (nI L1.toNatClampNeg) = 0; rw [nI_cl (x := L1) (by omega)]; unfold bitF; rw [e24, e27]; omega) (v := r37) (by show sayF 1 (nI L1.toNatClampNeg) me t = r37; rw [nI_cl (x := L1) (by omega)]; exact hr40), hi18 x9]
          exact ih8  z71 z67 z53 g58 w62 _ _ _ (by omega) (by omega) (by omega) (by omega) (by omega) (by omega) (by omega) hmc75 hcn76 ok65 kx66 f64 (by omega) h (lv_sub hl [0, 1, 2, 4, 5, 6, 7, 8] rfl)
  exact hloop6 7 (0 : Int32) (0 : Int32) (0 : Int32) an w _ _ _ (by have q0 : (0 : Int32).toInt = 0 := rfl; omega) (by have q0 : (0 : Int32).toInt = 0 := rfl; omega) (by have q0 : (0 : Int32).toInt = 0 := rfl; omega) (by have q0 : (0 : Int32).toInt = 0 := rfl; omega) (by have q0 : (0 : Int32).toInt = 0 := rfl; omega) (by have q0 : (0 : Int32).toInt = 0 := rfl; omega) (by have q0 : (0 : Int32).toInt = 0 := rfl; omega) (show (0 : Int32).toInt = ((mcS (fun k9 => sayF 1 (nI k9) me t) (fun k9 => ¬ bitF bits (nI k9) = 0) 0 : Nat) : Int) from rfl) (fun x9 => rfl) ok KX.rf p63 (by have q0 : (0 : Int32).toInt = 0 := rfl; omega) h (lv_sub hl [0, 1, 2, 3, 4, 5, 6, 7] rfl)

set_option maxHeartbeats 4000000 in
set_option maxRecDepth 100000 in
theorem c_F_tellingMost1 (l : Launch) (G : va_G) (cI cB cZ cO : ClassId) (ad : Nat → Nat) (w : Nat → va_E)  (ok : OK cI cB cZ cO ad w) (bits : Int32) (lo : Int32) (up : Int32) (hl_bits : 0 ≤ bits.toInt) (hh_bits : bits.toInt ≤ 63) (hl_lo : 0 ≤ lo.toInt) (hh_lo : lo.toInt ≤ 60) (hl_up : 0 ≤ up.toInt) (hh_up : up.toInt ≤ 60) (hlu : lo.toInt ≤ up.toInt) : NI l G (tyq cI cB cZ cO) yX1_tellingMost cX1_tellingMost 10 (some .int) 4 96 74 ad w [.ref (ad 62), .int 1, .int bits, .int lo, .int up] (fun r w1 => OK cI cB cZ cO ad w1 ∧ KX w w1 ∧ ((bits.toInt = 0 ∧ r = -1) ∨ (¬ bits.toInt = 0 ∧ r.toInt = (fun k9 => 100 * ((lo.toNatClampNeg + k9 / 24 : Nat) : Int) + ((k9 % 24 : Nat) : Int)) (scB (tT 1 bits lo.toNatClampNeg) (24 * (up.toNatClampNeg + 1 - lo.toNatClampNeg)))))) := by
  refine nk_i (own := "NoonShade$Guess") rfl (by decide) (Nat.le_of_ble_eq_true rfl) ?_
  intro p e s m below meth c ls X hD hN hr hlk h hl
  have hx := X.1.1
  have hb := X.1.2.1
  have hown := X.1.2.2.2.1
  have hts := X.1.2.2.2.2
  have hl : lv_has ls 10 [(0, .ref (ad 62)), (1, .int 1), (2, .int bits), (3, .int lo), (4, .int up)] := hl
  refine lv_iload_n hx hb dX1_tellingMost_0 rfl (lv_at hl 2 rfl) ?_
  refine lv_if_ne (tgt := 6) hx hb dX1_tellingMost_1 (by decide) (fun hc1 => ?_) (fun hc1 => ?_)
  · have hc1 : ¬ (bits).toInt = 0 := i_ne hc1 rfl rfl
    refine lv_iconst (v := (-1)) hx hb dX1_tellingMost_6 (by decide) ?_
    refine lv_istore (lv' := [(5, .int (-1)), (0, .ref (ad 62)), (1, .int 1), (2, .int bits), (3, .int lo), (4, .int up)]) hx hb dX1_tellingMost_7 hl (by decide) rfl (fun ls hl => ?_)
    refine lv_bipush (v := 7) hx hb dX1_tellingMost_9 (by decide) ?_
    refine lv_istore (lv' := [(6, .int 7), (5, .int (-1)), (0, .ref (ad 62)), (1, .int 1), (2, .int bits), (3, .int lo), (4, .int up)]) hx hb dX1_tellingMost_11 hl (by decide) rfl (fun ls hl => ?_)
    refine lv_iload_n hx hb dX1_tellingMost_13 rfl (lv_at hl 5 rfl) ?_
    refine lv_istore (lv' := [(7, .int lo), (6, .int 7), (5, .int (-1)), (0, .ref (ad 62)), (1, .int 1), (2, .int bits), (3, .int lo), (4, .int up)]) hx hb dX1_tellingMost_14 hl (by decide) rfl (fun ls hl => ?_)
    have hloop6 : ∀ (d7 : Nat) (L2 : Int32) (L3 : Int32) (L4 : Int32) (wL5 : Nat → va_E) (H : Heap) (locs : List Loc) (ls : Array Slot), 0 ≤ L2.toInt → L2.toInt ≤ 61 → lo.toInt ≤ L2.toInt → L2.toInt ≤ up.toInt + 1 → (SC (tT 1 bits lo.toNatClampNeg) 7 (fun k9 => 100 * ((lo.toNatClampNeg + k9 / 24 : Nat) : Int) + ((k9 % 24 : Nat) : Int)) (24 * (L2.toNatClampNeg - lo.toNatClampNeg)) L4 L3) → OK cI cB cZ cO ad wL5 → KX w wL5 → 61 - L2.toInt < (d7 : Int) → St G 74 ad (wA 74 ad s.heap.size) s.heap wL5 H locs → lv_has ls 10 [(7, .int L2), (6, .int L3), (5, .int L4), (0, .ref (ad 62)), (1, .int 1), (2, .int bits), (3, .int lo), (4, .int up)] → W p l e { frames := 4, cells := 0, slots := 0, locals := 96 } s m [.ref (ad 62), .int 1, .int bits, .int lo, .int up].toArray below meth c H locs 0 0 (MQ below (va_Qi (fun r w1 => OK cI cB cZ cO ad w1 ∧ KX w w1 ∧ ((bits.toInt = 0 ∧ r = -1) ∨ (¬ bits.toInt = 0 ∧ r.toInt = (fun k9 => 100 * ((lo.toNatClampNeg + k9 / 24 : Nat) : Int) + ((k9 % 24 : Nat) : Int)) (scB (tT 1 bits lo.toNatClampNeg) (24 * (up.toNatClampNeg + 1 - lo.toNatClampNeg)))))) (Aft G 74 ad) (wA 74 ad s.heap.size)) [.ref (ad 62), .int 1, .int bits, .int lo, .int up].toArray s 0 0 (wA 74 ad s.heap.size)) (F0 m 16 ls []) := by
      intro d7
      induction d7 with
      | zero => intro L2 L3 L4 wL5 H locs ls hi10 hi11 hi12 hi13 hi14 ok15 kx16 hm9 h hl; exfalso; omega
      | succ d7 ih8 =>
        intro L2 L3 L4 wL5 H locs ls hi10 hi11 hi12 hi13 hi14 ok15 kx16 hm9 h hl
        refine lv_iload hx hb dX1_tellingMost_16 (lv_at hl 0 rfl) ?_
        refine lv_iload hx hb dX1_tellingMost_18 (lv_at hl 7 rfl) ?_
        refine lv_icmp_gt (tgt := 87) hx hb dX1_tellingMost_20 (by decide) (fun hc17 => ?_) (fun hc17 => ?_)
        · have hc17 : (up).toInt < (L2).toInt := i_lt hc17 rfl rfl
          refine lv_iload hx hb dX1_tellingMost_87 (lv_at hl 2 rfl) ?_
          have cu_htm18 := cl_of (x := up) (by omega)
          have cl_htm18 := cl_of (x := lo) (by omega)
          have htm18 : L4.toInt = (fun k9 => 100 * ((lo.toNatClampNeg + k9 / 24 : Nat) : Int) + ((k9 % 24 : Nat) : Int)) (scB (tT 1 bits lo.toNatClampNeg) (24 * (up.toNatClampNeg + 1 - lo.toNatClampNeg))) := by
            have c7 := cl_of (x := L2) (by omega)
            have r9 : 24 * (L2.toNatClampNeg - lo.toNatClampNeg) = (24 * (up.toNatClampNeg + 1 - lo.toNatClampNeg)) := by omega
            rcases hi14 with ⟨a9, b9, c9⟩ | ⟨a9, b9, c9⟩
            · omega
            · rw [r9] at c9; exact c9
          exact e_i X h hr hlk dX1_tellingMost_89 ⟨ok15, kx16, Or.inr ⟨by omega, htm18⟩⟩
        · have hc17 : ¬ (up).toInt < (L2).toInt := i_nlt hc17 rfl rfl
          refine lv_iconst (v := 0) hx hb dX1_tellingMost_23 (by decide) ?_
          refine lv_istore (lv' := [(8, .int 0), (7, .int L2), (6, .int L3), (5, .int L4), (0, .ref (ad 62)), (1, .int 1), (2, .int bits), (3, .int lo), (4, .int up)]) hx hb dX1_tellingMost_24 hl (by decide) rfl (fun ls hl => ?_)
          have hloop23 : ∀ (d24 : Nat) (L19 : Int32) (L20 : Int32) (L21 : Int32) (wL22 : Nat → va_E) (H : Heap) (locs : List Loc) (ls : Array Slot), 0 ≤ L19.toInt → L19.toInt ≤ 24 → (SC (tT 1 bits lo.toNatClampNeg) 7 (fun k9 => 100 * ((lo.toNatClampNeg + k9 / 24 : Nat) : Int) + ((k9 % 24 : Nat) : Int)) (24 * (L2.toNatClampNeg - lo.toNatClampNeg) + L19.toNatClampNeg) L21 L20) → OK cI cB cZ cO ad wL22 → KX w wL22 → 24 - L19.toInt < (d24 : Int) → St G 74 ad (wA 74 ad s.heap.size) s.heap wL22 H locs → lv_has ls 10 [(8, .int L19), (7, .int L2), (6, .int L20), (5, .int L21), (0, .ref (ad 62)), (1, .int 1), (2, .int bits), (3, .int lo), (4, .int up)] → W p l e { frames := 4, cells := 0, slots := 0, locals := 96 } s m [.ref (ad 62), .int 1, .int bits, .int lo, .int up].toArray below meth c H locs 0 0 (MQ below (va_Qi (fun r w1 => OK cI cB cZ cO ad w1 ∧ KX w w1 ∧ ((bits.toInt = 0 ∧ r = -1) ∨ (¬ bits.toInt = 0 ∧ r.toInt = (fun k9 => 100 * ((lo.toNatClampNeg + k9 / 24 : Nat) : Int) + ((k9 % 24 : Nat) : Int)) (scB (tT 1 bits lo.toNatClampNeg) (24 * (up.toNatClampNeg + 1 - lo.toNatClampNeg)))))) (Aft G 74 ad) (wA 74 ad s.heap.size)) [.ref (ad 62), .int 1, .int bits, .int lo, .int up].toArray s 0 0 (wA 74 ad s.heap.size)) (F0 m 26 ls []) := by
            intro d24
            induction d24 with
            | zero => intro L19 L20 L21 wL22 H locs ls hi27 hi28 hi29 ok30 kx31 hm26 h hl; exfalso; omega
            | succ d24 ih25 =>
              intro L19 L20 L21 wL22 H locs ls hi27 hi28 hi29 ok30 kx31 hm26 h hl
              refine lv_iload hx hb dX1_tellingMost_26 (lv_at hl 0 rfl) ?_
              refine lv_bipush (v := 24) hx hb dX1_tellingMost_28 (by decide) ?_
              refine lv_icmp_ge (tgt := 81) hx hb dX1_tellingMost_30 (by decide) (fun hc32 => ?_) (fun hc32 => ?_)
              · have hc32 : 24 ≤ (L19).toInt := i_le hc32 rfl rfl
                obtain ⟨z33, e34, t35⟩ := x_add (x := L2) (y := 1) (a := L2.toInt) (b := 1) rfl rfl (by omega) (by omega)
                have n36 : z33.toNatClampNeg = L2.toNatClampNeg + 1 := cl_addn (x := L2) (y := 1) rfl rfl t35 (by omega) (by decide)
                refine lv_iinc (v := z33) (lv' := [(7, .int z33), (8, .int L19), (6, .int L20), (5, .int L21), (0, .ref (ad 62)), (1, .int 1), (2, .int bits), (3, .int lo), (4, .int up)]) hx hb dX1_tellingMost_81 hl (k := 1) rfl e34 (by decide) rfl (fun ls hl => ?_)
                refine lv_goto (tgt := 16) hx hb dX1_tellingMost_84 (by decide) ?_
                have hso37 : SC (tT 1 bits lo.toNatClampNeg) 7 (fun k9 => 100 * ((lo.toNatClampNeg + k9 / 24 : Nat) : Int) + ((k9 % 24 : Nat) : Int)) (24 * (z33.toNatClampNeg - lo.toNatClampNeg)) L21 L20 := by
                  have c7 := cl_of (x := L2) (by omega)
                  have c8 := cl_of (x := L19) (by omega)
                  have c9 := cl_of (x := lo) (by omega)
                  have e9 : 24 * (z33.toNatClampNeg - lo.toNatClampNeg) = 24 * (L2.toNatClampNeg - lo.toNatClampNeg) + L19.toNatClampNeg := by rw [n36]; omega
                  rw [e9]; exact hi29
                exact ih8  z33 L20 L21 wL22 _ _ _ (by omega) (by omega) (by omega) (by omega) hso37 ok30 kx31 (by omega) h (lv_sub hl [0, 2, 3, 4, 5, 6, 7, 8] rfl)
              · have hc32 : ¬ 24 ≤ (L19).toInt := i_nle hc32 rfl rfl
                refine lv_aload_n hx hb dX1_tellingMost_33 rfl (lv_at hl 4 rfl) ?_
                refine lv_iload_n hx hb dX1_tellingMost_34 rfl (lv_at hl 5 rfl) ?_
                refine lv_iload_n hx hb dX1_tellingMost_35 rfl (lv_at hl 6 rfl) ?_
                refine lv_iload hx hb dX1_tellingMost_36 (lv_at hl 1 rfl) ?_
                refine lv_iload hx hb dX1_tellingMost_38 (lv_at hl 0 rfl) ?_
                obtain ⟨g39, f38, p40⟩ := (show sA cI 6 (anyA) (wL22 63) from ok30 63 (by decide))
                have f41 : wL22 63 = .inl (cI, 6, .inl g39) := f38
                have f45 : wL22 62 = .inr (0, [.ref (ad 63)]) := ok30 62 (by decide)
                have f46 : wL22 62 = .inr (0, [.ref (ad 63)]) := f45
                refine n_Vi (na := 4) (As := [.int 1, .int bits, .int L2, .int L19]) (rest := []) X hD hN h rfl (c_F_mostAlike1 l G cI cB cZ cO ad wL22 g39 ok30 bits L2 L19 (by omega) (by omega) (by omega) (by omega) f41) ⟨kv_102, kv_103, kv_104, kv_82, kv_105⟩ rfl ⟨by decide, by decide, by decide⟩ ⟨Nat.le_of_ble_eq_true rfl, Nat.le_of_ble_eq_true rfl⟩ ⟨Nat.zero_le _, Nat.zero_le _⟩ (by decide) f46 rfl rfl hl.1 rfl (Nat.le_of_ble_eq_true rfl) dX1_tellingMost_40 (fun r42 w43 H locs hp44 h => ?_)
                obtain ⟨ok47, kk48, hr49⟩ := hp44
                have kx50 : KX w w43 := KX.tr kx31 kk48
                refine lv_istore (lv' := [(9, .int r42), (8, .int L19), (7, .int L2), (6, .int L20), (5, .int L21), (0, .ref (ad 62)), (1, .int 1), (2, .int bits), (3, .int lo), (4, .int up)]) hx hb dX1_tellingMost_43 hl (by decide) rfl (fun ls hl => ?_)
                refine lv_iload hx hb dX1_tellingMost_45 (lv_at hl 0 rfl) ?_
                refine lv_iload hx hb dX1_tellingMost_47 (lv_at hl 3 rfl) ?_
                refine lv_icmp_ge (tgt := 66) hx hb dX1_tellingMost_49 (by decide) (fun hc51 => ?_) (fun hc51 => ?_)
                · have hc51 : (L20).toInt ≤ (r42).toInt := i_le hc51 rfl rfl
                  have c7_hsc52 := cl_of (x := L2) (by omega)
                  have c8_hsc52 := cl_of (x := L19) (by omega)
                  have c9_hsc52 := cl_of (x := lo) (by omega)
                  have ht_hsc52 : r42.toInt = (((tT 1 bits lo.toNatClampNeg) (24 * (L2.toNatClampNeg - lo.toNatClampNeg) + L19.toNatClampNeg) : Nat) : Int) := by
                    have d1 : lo.toNatClampNeg + (24 * (L2.toNatClampNeg - lo.toNatClampNeg) + L19.toNatClampNeg) / 24 = L2.toNatClampNeg := by omega
                    have d2 : (24 * (L2.toNatClampNeg - lo.toNatClampNeg) + L19.toNatClampNeg) % 24 = L19.toNatClampNeg := by omega
                    show r42.toInt = ((mcS (fun k9 => sayF 1 (nI k9) (nI (lo.toNatClampNeg + (24 * (L2.toNatClampNeg - lo.toNatClampNeg) + L19.toNatClampNeg) / 24)) (nI ((24 * (L2.toNatClampNeg - lo.toNatClampNeg) + L19.toNatClampNeg) % 24))) (fun k9 => ¬ bitF bits (nI k9) = 0) 6 : Nat) : Int)
                    rw [d1, d2, nI_cl (x := L2) (by omega), nI_cl (x := L19) (by omega)]
                    exact hr49
                  have hsc52 : SC (tT 1 bits lo.toNatClampNeg) 7 (fun k9 => 100 * ((lo.toNatClampNeg + k9 / 24 : Nat) : Int) + ((k9 % 24 : Nat) : Int)) ((24 * (L2.toNatClampNeg - lo.toNatClampNeg) + L19.toNatClampNeg) + 1) L21 L20 := by
                    exact hi29.ge ht_hsc52 (by omega) (by have := tT_le (bk := 1) (bits := bits) (lo := lo.toNatClampNeg) (24 * (L2.toNatClampNeg - lo.toNatClampNeg) + L19.toNatClampNeg); omega)
                  refine lv_iload hx hb dX1_tellingMost_66 (lv_at hl 3 rfl) ?_
                  refine lv_iconst (v := 1) hx hb dX1_tellingMost_68 (by decide) ?_
                  refine lv_icmp_ne (tgt := 75) hx hb dX1_tellingMost_69 (by decide) (fun hc53 => ?_) (fun hc53 => ?_)
                  · have hc53 : ¬ (L20).toInt = 1 := i_ne hc53 rfl rfl
                    obtain ⟨z54, e55, t56⟩ := x_add (x := L19) (y := 1) (a := L19.toInt) (b := 1) rfl rfl (by omega) (by omega)
                    have n57 : z54.toNatClampNeg = L19.toNatClampNeg + 1 := cl_addn (x := L19) (y := 1) rfl rfl t56 (by omega) (by decide)
                    refine lv_iinc (v := z54) (lv' := [(8, .int z54), (9, .int r42), (7, .int L2), (6, .int L20), (5, .int L21), (0, .ref (ad 62)), (1, .int 1), (2, .int bits), (3, .int lo), (4, .int up)]) hx hb dX1_tellingMost_75 hl (k := 1) rfl e55 (by decide) rfl (fun ls hl => ?_)
                    refine lv_goto (tgt := 26) hx hb dX1_tellingMost_78 (by decide) ?_
                    have hsi58 : SC (tT 1 bits lo.toNatClampNeg) 7 (fun k9 => 100 * ((lo.toNatClampNeg + k9 / 24 : Nat) : Int) + ((k9 % 24 : Nat) : Int)) (24 * (L2.toNatClampNeg - lo.toNatClampNeg) + z54.toNatClampNeg) L21 L20 := by
                      have e9 : 24 * (L2.toNatClampNeg - lo.toNatClampNeg) + z54.toNatClampNeg = 24 * (L2.toNatClampNeg - lo.toNatClampNeg) + L19.toNatClampNeg + 1 := by rw [n57]; omega
                      rw [e9]; exact hsc52
                    exact ih25  z54 L20 L21 w43 _ _ _ (by omega) (by omega) hsi58 ok47 kx50 (by omega) h (lv_sub hl [0, 2, 3, 4, 5, 6, 7, 8, 9] rfl)
                  · have hc53 : (L20).toInt = 1 := i_eq hc53 rfl rfl
                    refine lv_iload hx hb dX1_tellingMost_72 (lv_at hl 4 rfl) ?_
                    have cu_htm59 := cl_of (x := up) (by omega)
                    have cl_htm59 := cl_of (x := lo) (by omega)
                    have htm59 : L21.toInt = (fun k9 => 100 * ((lo.toNatClampNeg + k9 / 24 : Nat) : Int) + ((k9 % 24 : Nat) : Int)) (scB (tT 1 bits lo.toNatClampNeg) (24 * (up.toNatClampNeg + 1 - lo.toNatClampNeg))) := by
                      rcases hsc52 with ⟨a9, b9, c9⟩ | ⟨a9, b9, c9⟩
                      · omega
                      · have p9 : ∀ k, 1 ≤ (tT 1 bits lo.toNatClampNeg) k := tT_pos (by omega) (by omega)
                        have q9 := scB_stop p9 (n := (24 * (L2.toNatClampNeg - lo.toNatClampNeg) + L19.toNatClampNeg) + 1) (by omega) ((24 * (up.toNatClampNeg + 1 - lo.toNatClampNeg)) - ((24 * (L2.toNatClampNeg - lo.toNatClampNeg) + L19.toNatClampNeg) + 1))
                        have r9 : (24 * (L2.toNatClampNeg - lo.toNatClampNeg) + L19.toNatClampNeg) + 1 + ((24 * (up.toNatClampNeg + 1 - lo.toNatClampNeg)) - ((24 * (L2.toNatClampNeg - lo.toNatClampNeg) + L19.toNatClampNeg) + 1)) = (24 * (up.toNatClampNeg + 1 - lo.toNatClampNeg)) := by omega
                        rw [r9] at q9
                        rw [q9]; exact c9
                    exact e_i X h hr hlk dX1_tellingMost_74 ⟨ok47, kx50, Or.inr ⟨by omega, htm59⟩⟩
                · have hc51 : ¬ (L20).toInt ≤ (r42).toInt := i_nle hc51 rfl rfl
                  refine lv_iload hx hb dX1_tellingMost_52 (lv_at hl 0 rfl) ?_
                  refine lv_istore (lv' := [(6, .int r42), (9, .int r42), (8, .int L19), (7, .int L2), (5, .int L21), (0, .ref (ad 62)), (1, .int 1), (2, .int bits), (3, .int lo), (4, .int up)]) hx hb dX1_tellingMost_54 hl (by decide) rfl (fun ls hl => ?_)
                  refine lv_bipush (v := 100) hx hb dX1_tellingMost_56 (by decide) ?_
                  refine lv_iload hx hb dX1_tellingMost_58 (lv_at hl 3 rfl) ?_
                  obtain ⟨z62, e60, t61⟩ := x_mul (x := (100 : Int32)) (y := L2) (a := 100) (b := (L2).toInt) rfl rfl (by omega) (by omega)
                  refine o_imul (z := z62) hx hb dX1_tellingMost_60 e60 ?_
                  refine lv_iload hx hb dX1_tellingMost_61 (lv_at hl 2 rfl) ?_
                  obtain ⟨z65, e63, t64⟩ := x_add (x := z62) (y := L19) (a := (z62).toInt) (b := (L19).toInt) rfl rfl (by omega) (by omega)
                  have n66 : z65.toNatClampNeg = z62.toNatClampNeg + L19.toNatClampNeg := cl_addn (x := z62) (y := L19) rfl rfl t64 (by omega) (by omega)
                  refine o_iadd (z := z65) hx hb dX1_tellingMost_63 e63 ?_
                  refine lv_istore (lv' := [(5, .int z65), (6, .int r42), (9, .int r42), (8, .int L19), (7, .int L2), (0, .ref (ad 62)), (1, .int 1), (2, .int bits), (3, .int lo), (4, .int up)]) hx hb dX1_tellingMost_64 hl (by decide) rfl (fun ls hl => ?_)
                  have c7_hsc67 := cl_of (x := L2) (by omega)
                  have c8_hsc67 := cl_of (x := L19) (by omega)
                  have c9_hsc67 := cl_of (x := lo) (by omega)
                  have ht_hsc67 : r42.toInt = (((tT 1 bits lo.toNatClampNeg) (24 * (L2.toNatClampNeg - lo.toNatClampNeg) + L19.toNatClampNeg) : Nat) : Int) := by
                    have d1 : lo.toNatClampNeg + (24 * (L2.toNatClampNeg - lo.toNatClampNeg) + L19.toNatClampNeg) / 24 = L2.toNatClampNeg := by omega
                    have d2 : (24 * (L2.toNatClampNeg - lo.toNatClampNeg) + L19.toNatClampNeg) % 24 = L19.toNatClampNeg := by omega
                    show r42.toInt = ((mcS (fun k9 => sayF 1 (nI k9) (nI (lo.toNatClampNeg + (24 * (L2.toNatClampNeg - lo.toNatClampNeg) + L19.toNatClampNeg) / 24)) (nI ((24 * (L2.toNatClampNeg - lo.toNatClampNeg) + L19.toNatClampNeg) % 24))) (fun k9 => ¬ bitF bits (nI k9) = 0) 6 : Nat) : Int)
                    rw [d1, d2, nI_cl (x := L2) (by omega), nI_cl (x := L19) (by omega)]
                    exact hr49
                  have hsc67 : SC (tT 1 bits lo.toNatClampNeg) 7 (fun k9 => 100 * ((lo.toNatClampNeg + k9 / 24 : Nat) : Int) + ((k9 % 24 : Nat) : Int)) ((24 * (L2.toNatClampNeg - lo.toNatClampNeg) + L19.toNatClampNeg) + 1) z65 r42 := by
                    exact hi29.lt ht_hsc67 (by omega) (by show z65.toInt = 100 * ((lo.toNatClampNeg + (24 * (L2.toNatClampNeg - lo.toNatClampNeg) + L19.toNatClampNeg) / 24 : Nat) : Int) + (((24 * (L2.toNatClampNeg - lo.toNatClampNeg) + L19.toNatClampNeg) % 24 : Nat) : Int); omega)
                  refine lv_iload hx hb dX1_tellingMost_66 (lv_at hl 1 rfl) ?_
                  refine lv_iconst (v := 1) hx hb dX1_tellingMost_68 (by decide) ?_
                  refine lv_icmp_ne (tgt := 75) hx hb dX1_tellingMost_69 (by decide) (fun hc68 => ?_) (fun hc68 => ?_)
                  · have hc68 : ¬ (r42).toInt = 1 := i_ne hc68 rfl rfl
                    obtain ⟨z69, e70, t71⟩ := x_add (x := L19) (y := 1) (a := L19.toInt) (b := 1) rfl rfl (by omega) (by omega)
                    have n72 : z69.toNatClampNeg = L19.toNatClampNeg + 1 := cl_addn (x := L19) (y := 1) rfl rfl t71 (by omega) (by decide)
                    refine lv_iinc (v := z69) (lv' := [(8, .int z69), (5, .int z65), (6, .int r42), (9, .int r42), (7, .int L2), (0, .ref (ad 62)), (1, .int 1), (2, .int bits), (3, .int lo), (4, .int up)]) hx hb dX1_tellingMost_75 hl (k := 3) rfl e70 (by decide) rfl (fun ls hl => ?_)
                    refine lv_goto (tgt := 26) hx hb dX1_tellingMost_78 (by decide) ?_
                    have hsi73 : SC (tT 1 bits lo.toNatClampNeg) 7 (fun k9 => 100 * ((lo.toNatClampNeg + k9 / 24 : Nat) : Int) + ((k9 % 24 : Nat) : Int)) (24 * (L2.toNatClampNeg - lo.toNatClampNeg) + z69.toNatClampNeg) z65 r42 := by
                      have e9 : 24 * (L2.toNatClampNeg - lo.toNatClampNeg) + z69.toNatClampNeg = 24 * (L2.toNatClampNeg - lo.toNatClampNeg) + L19.toNatClampNeg + 1 := by rw [n72]; omega
                      rw [e9]; exact hsc67
                    exact ih25  z69 r42 z65 w43 _ _ _ (by omega) (by omega) hsi73 ok47 kx50 (by omega) h (lv_sub hl [0, 4, 2, 1, 5, 6, 7, 8, 9] rfl)
                  · have hc68 : (r42).toInt = 1 := i_eq hc68 rfl rfl
                    refine lv_iload hx hb dX1_tellingMost_72 (lv_at hl 0 rfl) ?_
                    have cu_htm74 := cl_of (x := up) (by omega)
                    have cl_htm74 := cl_of (x := lo) (by omega)
                    have htm74 : z65.toInt = (fun k9 => 100 * ((lo.toNatClampNeg + k9 / 24 : Nat) : Int) + ((k9 % 24 : Nat) : Int)) (scB (tT 1 bits lo.toNatClampNeg) (24 * (up.toNatClampNeg + 1 - lo.toNatClampNeg))) := by
                      rcases hsc67 with ⟨a9, b9, c9⟩ | ⟨a9, b9, c9⟩
                      · omega
                      · have p9 : ∀ k, 1 ≤ (tT 1 bits lo.toNatClampNeg) k := tT_pos (by omega) (by omega)
                        have q9 := scB_stop p9 (n := (24 * (L2.toNatClampNeg - lo.toNatClampNeg) + L19.toNatClampNeg) + 1) (by omega) ((24 * (up.toNatClampNeg + 1 - lo.toNatClampNeg)) - ((24 * (L2.toNatClampNeg - lo.toNatClampNeg) + L19.toNatClampNeg) + 1))
                        have r9 : (24 * (L2.toNatClampNeg - lo.toNatClampNeg) + L19.toNatClampNeg) + 1 + ((24 * (up.toNatClampNeg + 1 - lo.toNatClampNeg)) - ((24 * (L2.toNatClampNeg - lo.toNatClampNeg) + L19.toNatClampNeg) + 1)) = (24 * (up.toNatClampNeg + 1 - lo.toNatClampNeg)) := by omega
                        rw [r9] at q9
                        rw [q9]; exact c9
                    exact e_i X h hr hlk dX1_tellingMost_74 ⟨ok47, kx50, Or.inr ⟨by omega, htm74⟩⟩
          have hsi75 : SC (tT 1 bits lo.toNatClampNeg) 7 (fun k9 => 100 * ((lo.toNatClampNeg + k9 / 24 : Nat) : Int) + ((k9 % 24 : Nat) : Int)) (24 * (L2.toNatClampNeg - lo.toNatClampNeg) + (0 : Int32).toNatClampNeg) L4 L3 := by rw [show (0 : Int32).toNatClampNeg = 0 from rfl, Nat.add_zero]; exact hi14
          exact hloop23 25 (0 : Int32) L3 L4 wL5 _ _ _ (by have q0 : (0 : Int32).toInt = 0 := rfl; omega) (by have q0 : (0 : Int32).toInt = 0 := rfl; omega) hsi75 ok15 kx16 (by have q0 : (0 : Int32).toInt = 0 := rfl; omega) h (lv_sub hl [0, 1, 2, 3, 4, 5, 6, 7, 8] rfl)
    exact hloop6 62 lo (7 : Int32) ((-1) : Int32) w _ _ _ (by have q0 : ((-1) : Int32).toInt = (-1) := rfl; have q1 : (7 : Int32).toInt = 7 := rfl; omega) (by have q0 : ((-1) : Int32).toInt = (-1) := rfl; have q1 : (7 : Int32).toInt = 7 := rfl; omega) (by have q0 : ((-1) : Int32).toInt = (-1) := rfl; have q1 : (7 : Int32).toInt = 7 := rfl; omega) (by have q0 : ((-1) : Int32).toInt = (-1) := rfl; have q1 : (7 : Int32).toInt = 7 := rfl; omega) (Or.inl ⟨by omega, by decide, by decide⟩) ok KX.rf (by have q0 : ((-1) : Int32).toInt = (-1) := rfl; have q1 : (7 : Int32).toInt = 7 := rfl; omega) h (lv_sub hl [0, 1, 2, 3, 4, 5, 6, 7] rfl)
  · have hc1 : (bits).toInt = 0 := i_eq hc1 rfl rfl
    refine lv_iconst (v := (-1)) hx hb dX1_tellingMost_4 (by decide) ?_
    exact e_i X h hr hlk dX1_tellingMost_5 ⟨ok, KX.rf, Or.inl ⟨by omega, rfl⟩⟩

