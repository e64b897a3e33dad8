set_option maxHeartbeats 4000000 in
set_option maxRecDepth 100000 in
theorem c_MG_begin72 (l : Launch) (G : va_G) (cI cB cZ cO : ClassId) (ad : Nat → Nat) (w : Nat → va_E) (f : Nat → Int32) (ok : OK cI cB cZ cO ad w) (t : Int32)  (pf : w 72 = .inl (cI, 89, .inl f)) (pal : alA f) : NV l G (tyq cI cB cZ cO) yX9_begin cX9_begin 3 0 0 74 ad w [.ref (ad 72), .int t] (fun w1 => OK cI cB cZ cO ad w1 ∧ KO 72 w w1 ∧ w1 72 = .inl (cI, 89, .inl (begF t))) := by
  refine nk_v (own := "NoonShadeModel") rfl (by decide) (Nat.le_of_ble_eq_true rfl) ?_
  intro p e s m below meth c ls X hD hN hr hlk h hl
  have hx := X.1.1
  have hb := X.1.2.1
  have hown := X.1.2.2.2.1
  have hts := X.1.2.2.2.2
  have hl : lv_has ls 3 [(0, .ref (ad 72)), (1, .int t)] := hl
  refine lv_iconst (v := 0) hx hb dX9_begin_0 (by decide) ?_
  refine lv_istore_n (lv' := [(2, .int 0), (0, .ref (ad 72)), (1, .int t)]) hx hb dX9_begin_1 rfl hl (by decide) rfl (fun ls hl => ?_)
  have hloop4 : ∀ (d5 : Nat) (L1 : Int32) (C2 : Nat → Int32) (wL3 : Nat → va_E) (H : Heap) (locs : List Loc) (ls : Array Slot), 0 ≤ L1.toInt → L1.toInt ≤ 89 → (∀ k, k < L1.toNatClampNeg → C2 k = 0) → OK cI cB cZ cO ad wL3 → KO 72 w wL3 → wL3 72 = .inl (cI, 89, .inl C2) → 89 - L1.toInt < (d5 : Int) → St G 74 ad (wA 74 ad s.heap.size) s.heap wL3 H locs → lv_has ls 3 [(2, .int L1), (0, .ref (ad 72)), (1, .int t)] → W p l e { frames := 0, cells := 0, slots := 0, locals := 0 } s m [.ref (ad 72), .int t].toArray below meth c H locs 0 0 (MQ below (va_Qv (fun w1 => OK cI cB cZ cO ad w1 ∧ KO 72 w w1 ∧ w1 72 = .inl (cI, 89, .inl (begF t))) (Aft G 74 ad) (wA 74 ad s.heap.size)) [.ref (ad 72), .int t].toArray s 0 0 (wA 74 ad s.heap.size)) (F0 m 2 ls []) := by
    intro d5
    induction d5 with
    | zero => intro L1 C2 wL3 H locs ls hi8 hi9 hi10 ok11 kx12 cf13 hm7 h hl; exfalso; omega
    | succ d5 ih6 =>
      intro L1 C2 wL3 H locs ls hi8 hi9 hi10 ok11 kx12 cf13 hm7 h hl
      have p14 : alA C2 := (alA_of65 ok11 (Or.inr (Or.inr rfl)) cf13).1
      refine lv_iload_n hx hb dX9_begin_2 rfl (lv_at hl 0 rfl) ?_
      refine lv_bipush (v := 89) hx hb dX9_begin_3 (by decide) ?_
      refine lv_icmp_ge (tgt := 18) hx hb dX9_begin_5 (by decide) (fun hc15 => ?_) (fun hc15 => ?_)
      · have hc15 : 89 ≤ (L1).toInt := i_le hc15 rfl rfl
        refine lv_aload_n hx hb dX9_begin_18 rfl (lv_at hl 1 rfl) ?_
        refine lv_iconst (v := 5) hx hb dX9_begin_19 (by decide) ?_
        refine lv_iload_n hx hb dX9_begin_20 rfl (lv_at hl 2 rfl) ?_
        obtain ⟨g16, e17⟩ : ∃ z : Nat → Int32, upd C2 5 t = z := ⟨_, rfl⟩
        have p18 : alA g16 := alA_upd p14 e17 (by decide)
        refine o_iast (f1 := g16) X hD h 72 0 (by decide) rfl cf13 rfl (by unfold vp_in; decide) e17 dX9_begin_21 (fun H locs w19 e20 h => ?_)
        have f21 : w19 72 = .inl (cI, 89, .inl g16) := (congrFun e20 _).trans (va_up_self _ _ _)
        have ok22 : OK cI cB cZ cO ad w19 := OK.up ok11 e20 (sA_mk p18)
        have kx23 : KO 72 w w19 := KO.up kx12 e20 cf13 rfl
        have hex : ∀ j, j < 89 → g16 j = begF t j := by
          intro k hk
          rw [← e17]
          unfold begF
          by_cases q : k = 5
          · subst q; rw [pk_us]; rfl
          · rw [pk_un q, if_neg q]; exact hi10 k (by have := cl_of (x := L1) (by omega); omega)
        have hst := St_ext h (by decide) f21 hex
        have hok : OK cI cB cZ cO ad (va_up w19 72 (.inl (cI, 89, .inl (begF t)))) := OK.up ok22 rfl (sA_mk (begF_al t))
        have hko : KO 72 w (va_up w19 72 (.inl (cI, 89, .inl (begF t)))) := KO.up kx23 rfl f21 rfl
        exact e_v X hst hr hlk dX9_begin_22 ⟨hok, hko, va_up_self _ _ _⟩
      · have hc15 : ¬ 89 ≤ (L1).toInt := i_nle hc15 rfl rfl
        refine lv_aload_n hx hb dX9_begin_8 rfl (lv_at hl 1 rfl) ?_
        refine lv_iload_n hx hb dX9_begin_9 rfl (lv_at hl 0 rfl) ?_
        refine lv_iconst (v := 0) hx hb dX9_begin_10 (by decide) ?_
        obtain ⟨g24, e25⟩ : ∃ z : Nat → Int32, upd C2 L1.toNatClampNeg (0 : Int32) = z := ⟨_, rfl⟩
        have p26 : alA g24 := alA_upd0 p14 e25
        refine o_iast (f1 := g24) X hD h 72 0 (by decide) rfl cf13 rfl (in_of (by omega) (by omega)) e25 dX9_begin_11 (fun H locs w27 e28 h => ?_)
        have f29 : w27 72 = .inl (cI, 89, .inl g24) := (congrFun e28 _).trans (va_up_self _ _ _)
        have ok30 : OK cI cB cZ cO ad w27 := OK.up ok11 e28 (sA_mk p26)
        have kx31 : KO 72 w w27 := KO.up kx12 e28 cf13 rfl
        obtain ⟨z32, e33, t34⟩ := x_add (x := L1) (y := 1) (a := L1.toInt) (b := 1) rfl rfl (by omega) (by omega)
        have n35 : z32.toNatClampNeg = L1.toNatClampNeg + 1 := cl_addn (x := L1) (y := 1) rfl rfl t34 (by omega) (by decide)
        refine lv_iinc (v := z32) (lv' := [(2, .int z32), (0, .ref (ad 72)), (1, .int t)]) hx hb dX9_begin_12 hl (k := 0) rfl e33 (by decide) rfl (fun ls hl => ?_)
        refine lv_goto (tgt := 2) hx hb dX9_begin_15 (by decide) ?_
        exact ih6  z32 g24 w27 _ _ _ (by omega) (by omega) (fun k hk => by rw [n35] at hk; rw [← e25]; by_cases q : k = L1.toNatClampNeg; (subst q; exact pk_us); (rw [pk_un q]; exact hi10 k (by omega))) ok30 kx31 f29 (by omega) h (lv_sub hl [0, 1, 2] rfl)
  exact hloop4 90 (0 : Int32) f w _ _ _ (by have q0 : (0 : Int32).toInt = 0 := rfl; omega) (by have q0 : (0 : Int32).toInt = 0 := rfl; omega) (fun k hk => absurd hk (Nat.not_lt_zero _)) ok KO.rf pf (by have q0 : (0 : Int32).toInt = 0 := rfl; omega) h (lv_sub hl [0, 1, 2] rfl)

set_option maxHeartbeats 4000000 in
set_option maxRecDepth 100000 in
theorem c_MF_goBehind (l : Launch) (G : va_G) (cI cB cZ cO : ClassId) (ad : Nat → Nat) (w : Nat → va_E) (x y : Int64) (mb bl ta tl tk va : Int32) (bs : Nat → Int32) (p0 : Nat) (ok : OK cI cB cZ cO ad w)   (pf : w 64 = .inr (7, [.ref (ad 65), .ref (ad 66), .ref (ad 67), .ref (ad 68), .long x, .long y, .ref (ad 69), .int mb, .ref (ad 70), .ref (ad 71), .int bl, .int ta, .int tl, .int tk, .int va, .ref (ad 72), .ref (ad 73)])) (hbl0 : 0 ≤ bl.toInt) (hbl1 : bl.toInt ≤ 150) (p71 : w 71 = .inl (cI, 150, .inl bs)) (hta : 0 ≤ ta.toInt) (htl : 0 ≤ tl.toInt) (htb : ta.toInt + tl.toInt ≤ bl.toInt) (hAT : AT bs bl.toNatClampNeg p0 ta tl tk va) : NV l G (tyq cI cB cZ cO) yX9_goBehind cX9_goBehind 1 3 69 74 ad w [.ref (ad 64)] (fun w1 => OK cI cB cZ cO ad w1 ∧ F6 w w1 ∧ ∃ ta1 tl1 tk1 va1 : Int32, w1 64 = .inr (7, [.ref (ad 65), .ref (ad 66), .ref (ad 67), .ref (ad 68), .long x, .long y, .ref (ad 69), .int mb, .ref (ad 70), .ref (ad 71), .int bl, .int ta1, .int tl1, .int tk1, .int va1, .ref (ad 72), .ref (ad 73)]) ∧ ta.toInt + tl.toInt ≤ ta1.toInt ∧ 0 ≤ tl1.toInt ∧ ta1.toInt + tl1.toInt ≤ bl.toInt ∧ (tk1.toInt = 0 ∨ 1 ≤ tl1.toInt) ∧ AT bs bl.toNatClampNeg (tE bs bl.toNatClampNeg p0) ta1 tl1 tk1 va1) := by
  refine nk_v (own := "NoonShadeModel") rfl (by decide) (Nat.le_of_ble_eq_true rfl) ?_
  intro p e s m below meth c ls X hD hN hr hlk h hl
  have hx := X.1.1
  have hb := X.1.2.1
  have hown := X.1.2.2.2.1
  have hts := X.1.2.2.2.2
  have hl : lv_has ls 1 [(0, .ref (ad 64))] := hl
  have kq0 : (0 : Int32).toInt = 0 := rfl
  have kq1 : (1 : Int32).toInt = 1 := rfl
  have kq2 : (2 : Int32).toInt = 2 := rfl
  have kq3 : (3 : Int32).toInt = 3 := rfl
  have kq4 : (4 : Int32).toInt = 4 := rfl
  refine lv_aload_n hx hb dX9_goBehind_0 rfl (lv_at hl 0 rfl) ?_
  refine lv_aload_n hx hb dX9_goBehind_1 rfl (lv_at hl 0 rfl) ?_
  refine r_get kc9 X h 64 11 (by decide) rfl pf (by decide) kv_663 rfl dX9_goBehind_2 ?_
  refine lv_aload_n hx hb dX9_goBehind_5 rfl (lv_at hl 0 rfl) ?_
  refine r_get kc9 X h 64 12 (by decide) rfl pf (by decide) kv_664 rfl dX9_goBehind_6 ?_
  obtain ⟨z3, e1, t2⟩ := x_add (x := ta) (y := tl) (a := (ta).toInt) (b := (tl).toInt) rfl rfl (by omega) (by omega)
  have n4 : z3.toNatClampNeg = ta.toNatClampNeg + tl.toNatClampNeg := cl_addn (x := ta) (y := tl) rfl rfl t2 (by omega) (by omega)
  refine o_iadd (z := z3) hx hb dX9_goBehind_9 e1 ?_
  refine n_Vv (na := 1) (As := [.int z3]) (rest := []) X hD hN h rfl (c_MF_lookAt l G cI cB cZ cO ad w x y mb bl ta tl tk va bs ok z3 (by omega) (by omega) pf (by omega) (by omega) p71 (by first | omega | decide | (simp only [k00]; omega))) ⟨kv_674, kv_675, kv_676, kv_470, kv_677⟩ rfl ⟨by decide, by decide, by decide⟩ ⟨Nat.le_of_ble_eq_true rfl, Nat.le_of_ble_eq_true rfl⟩ ⟨Nat.zero_le _, Nat.zero_le _⟩ (by decide) pf rfl rfl hl.1 rfl (Nat.le_of_ble_eq_true rfl) dX9_goBehind_10 (fun w6 H locs hp7 h => ?_)
  obtain ⟨ok8, kk9, hr10⟩ := hp7
  obtain ⟨y11, y12, y13, y14, h15, h16, h17, h18, h19, h20⟩ := hr10
  have kx21 : F6 w w6 := F6.tr F6.rf kk9
  have hat22 : AT bs bl.toNatClampNeg (tE bs bl.toNatClampNeg p0) y11 y12 y13 y14 := by
    have t1 := LOOKP.at_ h20
    have t2 : z3.toNatClampNeg = tE bs bl.toNatClampNeg p0 := by have t3 := hAT.2.1; have t4 := cl_of (x := z3) (by omega); omega
    rw [← t2]; exact t1
  exact e_v X h hr hlk dX9_goBehind_13 ⟨ok8, kx21, ⟨_, _, _, _, h15, by omega, by omega, by omega, by omega, hat22⟩⟩

set_option maxHeartbeats 4000000 in
set_option maxRecDepth 100000 in
theorem c_MF_takes0 (l : Launch) (G : va_G) (cI cB cZ cO : ClassId) (ad : Nat → Nat) (w : Nat → va_E) (x y : Int64) (mb bl ta tl tk va : Int32) (bs : Nat → Int32) (p0 : Nat) (f : Nat → Int32) (ok : OK cI cB cZ cO ad w) (q0 : Int32) (q1 : Int32)  (pf : w 64 = .inr (7, [.ref (ad 65), .ref (ad 66), .ref (ad 67), .ref (ad 68), .long x, .long y, .ref (ad 69), .int mb, .ref (ad 70), .ref (ad 71), .int bl, .int ta, .int tl, .int tk, .int va, .ref (ad 72), .ref (ad 73)])) (hbl0 : 0 ≤ bl.toInt) (hbl1 : bl.toInt ≤ 150) (p71 : w 71 = .inl (cI, 150, .inl bs)) (hta : 0 ≤ ta.toInt) (htl : 0 ≤ tl.toInt) (htb : ta.toInt + tl.toInt ≤ bl.toInt) (hAT : AT bs bl.toNatClampNeg p0 ta tl tk va) (p73 : w 73 = .inl (cI, 3, .inl f)) : NI l G (tyq cI cB cZ cO) yX9_takes cX9_takes 4 (some .boolean) 4 89 74 ad w [.ref (ad 64), .int 0, .int q0, .int q1] (fun r w1 => OK cI cB cZ cO ad w1 ∧ F7 w w1 ∧ (((∃ ta1 tl1 tk1 va1 : Int32, w1 64 = .inr (7, [.ref (ad 65), .ref (ad 66), .ref (ad 67), .ref (ad 68), .long x, .long y, .ref (ad 69), .int mb, .ref (ad 70), .ref (ad 71), .int bl, .int ta1, .int tl1, .int tk1, .int va1, .ref (ad 72), .ref (ad 73)]) ∧ ta.toInt + tl.toInt ≤ ta1.toInt ∧ 0 ≤ tl1.toInt ∧ ta1.toInt + tl1.toInt ≤ bl.toInt ∧ (tk1.toInt = 0 ∨ 1 ≤ tl1.toInt) ∧ AT bs bl.toNatClampNeg (tE bs bl.toNatClampNeg p0) ta1 tl1 tk1 va1 ∧ w1 73 = .inl (cI, 3, .inl (upd f 0 va)) ∧ numK bs bl.toNatClampNeg p0 q0.toInt q1.toInt) ∧ r = 1) ∨ ((w1 64 = w 64 ∧ w1 73 = w 73 ∧ ¬ numK bs bl.toNatClampNeg p0 q0.toInt q1.toInt) ∧ r = 0))) := by
  refine nk_i (own := "NoonShadeModel") rfl (by decide) (Nat.le_of_ble_eq_true rfl) ?_
  intro p e s m below meth c ls X hD hN hr hlk h hl
  have hx := X.1.1
  have hb := X.1.2.1
  have hown := X.1.2.2.2.1
  have hts := X.1.2.2.2.2
  have hl : lv_has ls 4 [(0, .ref (ad 64)), (1, .int 0), (2, .int q0), (3, .int q1)] := hl
  have kq0 : (0 : Int32).toInt = 0 := rfl
  have kq1 : (1 : Int32).toInt = 1 := rfl
  have kq2 : (2 : Int32).toInt = 2 := rfl
  have kq3 : (3 : Int32).toInt = 3 := rfl
  have kq4 : (4 : Int32).toInt = 4 := rfl
  refine lv_aload_n hx hb dX9_takes_0 rfl (lv_at hl 0 rfl) ?_
  refine r_get kc9 X h 64 13 (by decide) rfl pf (by decide) kv_665 rfl dX9_takes_1 ?_
  refine lv_iconst (v := 2) hx hb dX9_takes_4 (by decide) ?_
  refine lv_icmp_ne (tgt := 23) hx hb dX9_takes_5 (by decide) (fun hc1 => ?_) (fun hc1 => ?_)
  · have hc1 : ¬ (tk).toInt = 2 := i_ne hc1 rfl rfl
    refine lv_iconst (v := 0) hx hb dX9_takes_23 (by decide) ?_
    exact e_n X h hr hlk rfl dX9_takes_24 ⟨ok, F7.rf, Or.inr ⟨⟨rfl, rfl, fun q9 => by have q1 := q9.1; have q2 := q9.2.1; have q3 := q9.2.2; rw [← hAT.2.2.1] at q1; rw [← hAT.2.2.2 q1] at q2 q3; omega⟩, rfl⟩⟩
  · have hc1 : (tk).toInt = 2 := i_eq hc1 rfl rfl
    refine lv_aload_n hx hb dX9_takes_8 rfl (lv_at hl 0 rfl) ?_
    refine r_get kc9 X h 64 14 (by decide) rfl pf (by decide) kv_666 rfl dX9_takes_9 ?_
    obtain ⟨z2, e3⟩ : ∃ z : Int64, va.toInt64 = z := ⟨_, rfl⟩
    have tz2 : z2.toInt = (va).toInt := by rw [← e3]; exact Int32.toInt_toInt64 _
    refine lv_i2l (v := z2) hx hb dX9_takes_12 e3 ?_
    refine lv_iload_n hx hb dX9_takes_13 rfl (lv_at hl 2 rfl) ?_
    obtain ⟨z4, e5⟩ : ∃ z : Int64, q0.toInt64 = z := ⟨_, rfl⟩
    have tz4 : z4.toInt = (q0).toInt := by rw [← e5]; exact Int32.toInt_toInt64 _
    refine lv_i2l (v := z4) hx hb dX9_takes_14 e5 ?_
    refine lv_iload_n hx hb dX9_takes_15 rfl (lv_at hl 3 rfl) ?_
    obtain ⟨z6, e7⟩ : ∃ z : Int64, q1.toInt64 = z := ⟨_, rfl⟩
    have tz6 : z6.toInt = (q1).toInt := by rw [← e7]; exact Int32.toInt_toInt64 _
    refine lv_i2l (v := z6) hx hb dX9_takes_16 e7 ?_
    refine n_Si (na := 3) (As := [.long z2, .long z4, .long z6]) (rest := []) X hD hN h (c_M_in l G cI cB cZ cO ad w z2 z4 z6 ((va).toInt) ((q0).toInt) ((q1).toInt) tz2 tz4 tz6) ⟨kv_468, kv_469, kv_470, kv_471⟩ ⟨by decide, by decide, by decide⟩ ⟨Nat.le_of_ble_eq_true rfl, Nat.le_of_ble_eq_true rfl⟩ ⟨Nat.zero_le _, Nat.zero_le _⟩ rfl hl.1 rfl (Nat.le_of_ble_eq_true rfl) dX9_takes_17 (fun r8 w9 H locs hp10 h => ?_)
    obtain ⟨rfl, hq11⟩ := hp10
    rcases hq11 with ⟨hq12, hq13, rfl⟩ | ⟨hq11, rfl⟩
    · refine lv_if_ne (tgt := 25) hx hb dX9_takes_20 (by decide) (fun _ => ?_) (fun hc => absurd hc (by decide))
      refine lv_aload_n hx hb dX9_takes_25 rfl (lv_at hl 0 rfl) ?_
      refine r_get kc9 X h 64 16 (by decide) rfl pf (by decide) kv_678 rfl dX9_takes_26 ?_
      refine lv_iload_n hx hb dX9_takes_29 rfl (lv_at hl 1 rfl) ?_
      refine lv_aload_n hx hb dX9_takes_30 rfl (lv_at hl 0 rfl) ?_
      refine r_get kc9 X h 64 14 (by decide) rfl pf (by decide) kv_666 rfl dX9_takes_31 ?_
      obtain ⟨g14, e15⟩ : ∃ z : Nat → Int32, upd f 0 va = z := ⟨_, rfl⟩
      have p17 : anyA g14 := trivial
      refine o_iast (f1 := g14) X hD h 73 0 (by decide) rfl p73 rfl (by unfold vp_in; decide) e15 dX9_takes_34 (fun H locs w18 e19 h => ?_)
      have f20 : w18 73 = .inl (cI, 3, .inl g14) := (congrFun e19 _).trans (va_up_self _ _ _)
      have ok21 : OK cI cB cZ cO ad w18 := OK.up ok e19 (sA_mk p17)
      have kx22 : F7 w w18 := F7.up F7.rf e19 (by decide)
      refine lv_aload_n hx hb dX9_takes_35 rfl (lv_at hl 0 rfl) ?_
      have f23 : w18 64 = .inr (7, [.ref (ad 65), .ref (ad 66), .ref (ad 67), .ref (ad 68), .long x, .long y, .ref (ad 69), .int mb, .ref (ad 70), .ref (ad 71), .int bl, .int ta, .int tl, .int tk, .int va, .ref (ad 72), .ref (ad 73)]) := by rw [e19, va_up_ne _ _ (by decide)]; exact pf
      have f24 : w18 71 = .inl (cI, 150, .inl bs) := by rw [e19, va_up_ne _ _ (by decide)]; exact p71
      refine n_Vv (na := 0) (As := []) (rest := []) X hD hN h rfl (c_MF_goBehind l G cI cB cZ cO ad w18 x y mb bl ta tl tk va bs p0 ok21 f23 (by omega) (by omega) f24 (by omega) (by omega) (by omega) hAT) ⟨kv_679, kv_680, kv_681, kv_470, kv_682⟩ rfl ⟨by decide, by decide, by decide⟩ ⟨Nat.le_of_ble_eq_true rfl, Nat.le_of_ble_eq_true rfl⟩ ⟨Nat.zero_le _, Nat.zero_le _⟩ (by decide) f23 rfl rfl hl.1 rfl (Nat.le_of_ble_eq_true rfl) dX9_takes_36 (fun w26 H locs hp27 h => ?_)
      obtain ⟨ok28, kk29, hr30⟩ := hp27
      obtain ⟨y31, y32, y33, y34, h35, h36, h37, h38, h39, h40⟩ := hr30
      have kx41 : F7 w w26 := F7.tr kx22 kk29.f7
      refine lv_iconst (v := 1) hx hb dX9_takes_39 (by decide) ?_
      have f42 : w26 73 = .inl (cI, 3, .inl g14) := (kk29 73 (by decide)).trans f20
      exact e_n X h hr hlk rfl dX9_takes_40 ⟨ok28, kx41, Or.inl ⟨⟨_, _, _, _, h35, by omega, by omega, by omega, by omega, h40, by rw [f42, ← e15], ⟨by rw [← hAT.2.2.1]; omega, by rw [← hAT.2.2.2 (by omega)]; omega, by rw [← hAT.2.2.2 (by omega)]; omega⟩⟩, rfl⟩⟩
    · refine lv_if_ne (tgt := 25) hx hb dX9_takes_20 (by decide) (fun hc => absurd (by decide) hc) (fun _ => ?_)
      refine lv_iconst (v := 0) hx hb dX9_takes_23 (by decide) ?_
      exact e_n X h hr hlk rfl dX9_takes_24 ⟨ok, F7.rf, Or.inr ⟨⟨rfl, rfl, fun q9 => by have q1 := q9.1; have q2 := q9.2.1; have q3 := q9.2.2; rw [← hAT.2.2.1] at q1; rw [← hAT.2.2.2 q1] at q2 q3; omega⟩, rfl⟩⟩

set_option maxHeartbeats 4000000 in
set_option maxRecDepth 100000 in
theorem c_MF_takes1 (l : Launch) (G : va_G) (cI cB cZ cO : ClassId) (ad : Nat → Nat) (w : Nat → va_E) (x y : Int64) (mb bl ta tl tk va : Int32) (bs : Nat → Int32) (p0 : Nat) (f : Nat → Int32) (ok : OK cI cB cZ cO ad w) (q0 : Int32) (q1 : Int32)  (pf : w 64 = .inr (7, [.ref (ad 65), .ref (ad 66), .ref (ad 67), .ref (ad 68), .long x, .long y, .ref (ad 69), .int mb, .ref (ad 70), .ref (ad 71), .int bl, .int ta, .int tl, .int tk, .int va, .ref (ad 72), .ref (ad 73)])) (hbl0 : 0 ≤ bl.toInt) (hbl1 : bl.toInt ≤ 150) (p71 : w 71 = .inl (cI, 150, .inl bs)) (hta : 0 ≤ ta.toInt) (htl : 0 ≤ tl.toInt) (htb : ta.toInt + tl.toInt ≤ bl.toInt) (hAT : AT bs bl.toNatClampNeg p0 ta tl tk va) (p73 : w 73 = .inl (cI, 3, .inl f)) : NI l G (tyq cI cB cZ cO) yX9_takes cX9_takes 4 (some .boolean) 4 89 74 ad w [.ref (ad 64), .int 1, .int q0, .int q1] (fun r w1 => OK cI cB cZ cO ad w1 ∧ F7 w w1 ∧ (((∃ ta1 tl1 tk1 va1 : Int32, w1 64 = .inr (7, [.ref (ad 65), .ref (ad 66), .ref (ad 67), .ref (ad 68), .long x, .long y, .ref (ad 69), .int mb, .ref (ad 70), .ref (ad 71), .int bl, .int ta1, .int tl1, .int tk1, .int va1, .ref (ad 72), .ref (ad 73)]) ∧ ta.toInt + tl.toInt ≤ ta1.toInt ∧ 0 ≤ tl1.toInt ∧ ta1.toInt + tl1.toInt ≤ bl.toInt ∧ (tk1.toInt = 0 ∨ 1 ≤ tl1.toInt) ∧ AT bs bl.toNatClampNeg (tE bs bl.toNatClampNeg p0) ta1 tl1 tk1 va1 ∧ w1 73 = .inl (cI, 3, .inl (upd f 1 va)) ∧ numK bs bl.toNatClampNeg p0 q0.toInt q1.toInt) ∧ r = 1) ∨ ((w1 64 = w 64 ∧ w1 73 = w 73 ∧ ¬ numK bs bl.toNatClampNeg p0 q0.toInt q1.toInt) ∧ r = 0))) := by
  refine nk_i (own := "NoonShadeModel") rfl (by decide) (Nat.le_of_ble_eq_true rfl) ?_
  intro p e s m below meth c ls X hD hN hr hlk h hl
  have hx := X.1.1
  have hb := X.1.2.1
  have hown := X.1.2.2.2.1
  have hts := X.1.2.2.2.2
  have hl : lv_has ls 4 [(0, .ref (ad 64)), (1, .int 1), (2, .int q0), (3, .int q1)] := hl
  have kq0 : (0 : Int32).toInt = 0 := rfl
  have kq1 : (1 : Int32).toInt = 1 := rfl
  have kq2 : (2 : Int32).toInt = 2 := rfl
  have kq3 : (3 : Int32).toInt = 3 := rfl
  have kq4 : (4 : Int32).toInt = 4 := rfl
  refine lv_aload_n hx hb dX9_takes_0 rfl (lv_at hl 0 rfl) ?_
  refine r_get kc9 X h 64 13 (by decide) rfl pf (by decide) kv_665 rfl dX9_takes_1 ?_
  refine lv_iconst (v := 2) hx hb dX9_takes_4 (by decide) ?_
  refine lv_icmp_ne (tgt := 23) hx hb dX9_takes_5 (by decide) (fun hc1 => ?_) (fun hc1 => ?_)
  · have hc1 : ¬ (tk).toInt = 2 := i_ne hc1 rfl rfl
    refine lv_iconst (v := 0) hx hb dX9_takes_23 (by decide) ?_
    exact e_n X h hr hlk rfl dX9_takes_24 ⟨ok, F7.rf, Or.inr ⟨⟨rfl, rfl, fun q9 => by have q1 := q9.1; have q2 := q9.2.1; have q3 := q9.2.2; rw [← hAT.2.2.1] at q1; rw [← hAT.2.2.2 q1] at q2 q3; omega⟩, rfl⟩⟩
  · have hc1 : (tk).toInt = 2 := i_eq hc1 rfl rfl
    refine lv_aload_n hx hb dX9_takes_8 rfl (lv_at hl 0 rfl) ?_
    refine r_get kc9 X h 64 14 (by decide) rfl pf (by decide) kv_666 rfl dX9_takes_9 ?_
    obtain ⟨z2, e3⟩ : ∃ z : Int64, va.toInt64 = z := ⟨_, rfl⟩
    have tz2 : z2.toInt = (va).toInt := by rw [← e3]; exact Int32.toInt_toInt64 _
    refine lv_i2l (v := z2) hx hb dX9_takes_12 e3 ?_
    refine lv_iload_n hx hb dX9_takes_13 rfl (lv_at hl 2 rfl) ?_
    obtain ⟨z4, e5⟩ : ∃ z : Int64, q0.toInt64 = z := ⟨_, rfl⟩
    have tz4 : z4.toInt = (q0).toInt := by rw [← e5]; exact Int32.toInt_toInt64 _
    refine lv_i2l (v := z4) hx hb dX9_takes_14 e5 ?_
    refine lv_iload_n hx hb dX9_takes_15 rfl (lv_at hl 3 rfl) ?_
    obtain ⟨z6, e7⟩ : ∃ z : Int64, q1.toInt64 = z := ⟨_, rfl⟩
    have tz6 : z6.toInt = (q1).toInt := by rw [← e7]; exact Int32.toInt_toInt64 _
    refine lv_i2l (v := z6) hx hb dX9_takes_16 e7 ?_
    refine n_Si (na := 3) (As := [.long z2, .long z4, .long z6]) (rest := []) X hD hN h (c_M_in l G cI cB cZ cO ad w z2 z4 z6 ((va).toInt) ((q0).toInt) ((q1).toInt) tz2 tz4 tz6) ⟨kv_468, kv_469, kv_470, kv_471⟩ ⟨by decide, by decide, by decide⟩ ⟨Nat.le_of_ble_eq_true rfl, Nat.le_of_ble_eq_true rfl⟩ ⟨Nat.zero_le _, Nat.zero_le _⟩ rfl hl.1 rfl (Nat.le_of_ble_eq_true rfl) dX9_takes_17 (fun r8 w9 H locs hp10 h => ?_)
    obtain ⟨rfl, hq11⟩ := hp10
    rcases hq11 with ⟨hq12, hq13, rfl⟩ | ⟨hq11, rfl⟩
    · refine lv_if_ne (tgt := 25) hx hb dX9_takes_20 (by decide) (fun _ => ?_) (fun hc => absurd hc (by decide))
      refine lv_aload_n hx hb dX9_takes_25 rfl (lv_at hl 0 rfl) ?_
      refine r_get kc9 X h 64 16 (by decide) rfl pf (by decide) kv_678 rfl dX9_takes_26 ?_
      refine lv_iload_n hx hb dX9_takes_29 rfl (lv_at hl 1 rfl) ?_
      refine lv_aload_n hx hb dX9_takes_30 rfl (lv_at hl 0 rfl) ?_
      refine r_get kc9 X h 64 14 (by decide) rfl pf (by decide) kv_666 rfl dX9_takes_31 ?_
      obtain ⟨g14, e15⟩ : ∃ z : Nat → Int32, upd f 1 va = z := ⟨_, rfl⟩
      have p17 : anyA g14 := trivial
      refine o_iast (f1 := g14) X hD h 73 0 (by decide) rfl p73 rfl (by unfold vp_in; decide) e15 dX9_takes_34 (fun H locs w18 e19 h => ?_)
      have f20 : w18 73 = .inl (cI, 3, .inl g14) := (congrFun e19 _).trans (va_up_self _ _ _)
      have ok21 : OK cI cB cZ cO ad w18 := OK.up ok e19 (sA_mk p17)
      have kx22 : F7 w w18 := F7.up F7.rf e19 (by decide)
      refine lv_aload_n hx hb dX9_takes_35 rfl (lv_at hl 0 rfl) ?_
      have f23 : w18 64 = .inr (7, [.ref (ad 65), .ref (ad 66), .ref (ad 67), .ref (ad 68), .long x, .long y, .ref (ad 69), .int mb, .ref (ad 70), .ref (ad 71), .int bl, .int ta, .int tl, .int tk, .int va, .ref (ad 72), .ref (ad 73)]) := by rw [e19, va_up_ne _ _ (by decide)]; exact pf
      have f24 : w18 71 = .inl (cI, 150, .inl bs) := by rw [e19, va_up_ne _ _ (by decide)]; exact p71
      refine n_Vv (na := 0) (As := []) (rest := []) X hD hN h rfl (c_MF_goBehind l G cI cB cZ cO ad w18 x y mb bl ta tl tk va bs p0 ok21 f23 (by omega) (by omega) f24 (by omega) (by omega) (by omega) hAT) ⟨kv_679, kv_680, kv_681, kv_470, kv_682⟩ rfl ⟨by decide, by decide, by decide⟩ ⟨Nat.le_of_ble_eq_true rfl, Nat.le_of_ble_eq_true rfl⟩ ⟨Nat.zero_le _, Nat.zero_le _⟩ (by decide) f23 rfl rfl hl.1 rfl (Nat.le_of_ble_eq_true rfl) dX9_takes_36 (fun w26 H locs hp27 h => ?_)
      obtain ⟨ok28, kk29, hr30⟩ := hp27
      obtain ⟨y31, y32, y33, y34, h35, h36, h37, h38, h39, h40⟩ := hr30
      have kx41 : F7 w w26 := F7.tr kx22 kk29.f7
      refine lv_iconst (v := 1) hx hb dX9_takes_39 (by decide) ?_
      have f42 : w26 73 = .inl (cI, 3, .inl g14) := (kk29 73 (by decide)).trans f20
      exact e_n X h hr hlk rfl dX9_takes_40 ⟨ok28, kx41, Or.inl ⟨⟨_, _, _, _, h35, by omega, by omega, by omega, by omega, h40, by rw [f42, ← e15], ⟨by rw [← hAT.2.2.1]; omega, by rw [← hAT.2.2.2 (by omega)]; omega, by rw [← hAT.2.2.2 (by omega)]; omega⟩⟩, rfl⟩⟩
    · refine lv_if_ne (tgt := 25) hx hb dX9_takes_20 (by decide) (fun hc => absurd (by decide) hc) (fun _ => ?_)
      refine lv_iconst (v := 0) hx hb dX9_takes_23 (by decide) ?_
      exact e_n X h hr hlk rfl dX9_takes_24 ⟨ok, F7.rf, Or.inr ⟨⟨rfl, rfl, fun q9 => by have q1 := q9.1; have q2 := q9.2.1; have q3 := q9.2.2; rw [← hAT.2.2.1] at q1; rw [← hAT.2.2.2 q1] at q2 q3; omega⟩, rfl⟩⟩

set_option maxHeartbeats 4000000 in
set_option maxRecDepth 100000 in
theorem c_MF_takes2 (l : Launch) (G : va_G) (cI cB cZ cO : ClassId) (ad : Nat → Nat) (w : Nat → va_E) (x y : Int64) (mb bl ta tl tk va : Int32) (bs : Nat → Int32) (p0 : Nat) (f : Nat → Int32) (ok : OK cI cB cZ cO ad w) (q0 : Int32) (q1 : Int32)  (pf : w 64 = .inr (7, [.ref (ad 65), .ref (ad 66), .ref (ad 67), .ref (ad 68), .long x, .long y, .ref (ad 69), .int mb, .ref (ad 70), .ref (ad 71), .int bl, .int ta, .int tl, .int tk, .int va, .ref (ad 72), .ref (ad 73)])) (hbl0 : 0 ≤ bl.toInt) (hbl1 : bl.toInt ≤ 150) (p71 : w 71 = .inl (cI, 150, .inl bs)) (hta : 0 ≤ ta.toInt) (htl : 0 ≤ tl.toInt) (htb : ta.toInt + tl.toInt ≤ bl.toInt) (hAT : AT bs bl.toNatClampNeg p0 ta tl tk va) (p73 : w 73 = .inl (cI, 3, .inl f)) : NI l G (tyq cI cB cZ cO) yX9_takes cX9_takes 4 (some .boolean) 4 89 74 ad w [.ref (ad 64), .int 2, .int q0, .int q1] (fun r w1 => OK cI cB cZ cO ad w1 ∧ F7 w w1 ∧ (((∃ ta1 tl1 tk1 va1 : Int32, w1 64 = .inr (7, [.ref (ad 65), .ref (ad 66), .ref (ad 67), .ref (ad 68), .long x, .long y, .ref (ad 69), .int mb, .ref (ad 70), .ref (ad 71), .int bl, .int ta1, .int tl1, .int tk1, .int va1, .ref (ad 72), .ref (ad 73)]) ∧ ta.toInt + tl.toInt ≤ ta1.toInt ∧ 0 ≤ tl1.toInt ∧ ta1.toInt + tl1.toInt ≤ bl.toInt ∧ (tk1.toInt = 0 ∨ 1 ≤ tl1.toInt) ∧ AT bs bl.toNatClampNeg (tE bs bl.toNatClampNeg p0) ta1 tl1 tk1 va1 ∧ w1 73 = .inl (cI, 3, .inl (upd f 2 va)) ∧ numK bs bl.toNatClampNeg p0 q0.toInt q1.toInt) ∧ r = 1) ∨ ((w1 64 = w 64 ∧ w1 73 = w 73 ∧ ¬ numK bs bl.toNatClampNeg p0 q0.toInt q1.toInt) ∧ r = 0))) := by
  refine nk_i (own := "NoonShadeModel") rfl (by decide) (Nat.le_of_ble_eq_true rfl) ?_
  intro p e s m below meth c ls X hD hN hr hlk h hl
  have hx := X.1.1
  have hb := X.1.2.1
  have hown := X.1.2.2.2.1
  have hts := X.1.2.2.2.2
  have hl : lv_has ls 4 [(0, .ref (ad 64)), (1, .int 2), (2, .int q0), (3, .int q1)] := hl
  have kq0 : (0 : Int32).toInt = 0 := rfl
  have kq1 : (1 : Int32).toInt = 1 := rfl
  have kq2 : (2 : Int32).toInt = 2 := rfl
  have kq3 : (3 : Int32).toInt = 3 := rfl
  have kq4 : (4 : Int32).toInt = 4 := rfl
  refine lv_aload_n hx hb dX9_takes_0 rfl (lv_at hl 0 rfl) ?_
  refine r_get kc9 X h 64 13 (by decide) rfl pf (by decide) kv_665 rfl dX9_takes_1 ?_
  refine lv_iconst (v := 2) hx hb dX9_takes_4 (by decide) ?_
  refine lv_icmp_ne (tgt := 23) hx hb dX9_takes_5 (by decide) (fun hc1 => ?_) (fun hc1 => ?_)
  · have hc1 : ¬ (tk).toInt = 2 := i_ne hc1 rfl rfl
    refine lv_iconst (v := 0) hx hb dX9_takes_23 (by decide) ?_
    exact e_n X h hr hlk rfl dX9_takes_24 ⟨ok, F7.rf, Or.inr ⟨⟨rfl, rfl, fun q9 => by have q1 := q9.1; have q2 := q9.2.1; have q3 := q9.2.2; rw [← hAT.2.2.1] at q1; rw [← hAT.2.2.2 q1] at q2 q3; omega⟩, rfl⟩⟩
  · have hc1 : (tk).toInt = 2 := i_eq hc1 rfl rfl
    refine lv_aload_n hx hb dX9_takes_8 rfl (lv_at hl 0 rfl) ?_
    refine r_get kc9 X h 64 14 (by decide) rfl pf (by decide) kv_666 rfl dX9_takes_9 ?_
    obtain ⟨z2, e3⟩ : ∃ z : Int64, va.toInt64 = z := ⟨_, rfl⟩
    have tz2 : z2.toInt = (va).toInt := by rw [← e3]; exact Int32.toInt_toInt64 _
    refine lv_i2l (v := z2) hx hb dX9_takes_12 e3 ?_
    refine lv_iload_n hx hb dX9_takes_13 rfl (lv_at hl 2 rfl) ?_
    obtain ⟨z4, e5⟩ : ∃ z : Int64, q0.toInt64 = z := ⟨_, rfl⟩
    have tz4 : z4.toInt = (q0).toInt := by rw [← e5]; exact Int32.toInt_toInt64 _
    refine lv_i2l (v := z4) hx hb dX9_takes_14 e5 ?_
    refine lv_iload_n hx hb dX9_takes_15 rfl (lv_at hl 3 rfl) ?_
    obtain ⟨z6, e7⟩ : ∃ z : Int64, q1.toInt64 = z := ⟨_, rfl⟩
    have tz6 : z6.toInt = (q1).toInt := by rw [← e7]; exact Int32.toInt_toInt64 _
    refine lv_i2l (v := z6) hx hb dX9_takes_16 e7 ?_
    refine n_Si (na := 3) (As := [.long z2, .long z4, .long z6]) (rest := []) X hD hN h (c_M_in l G cI cB cZ cO ad w z2 z4 z6 ((va).toInt) ((q0).toInt) ((q1).toInt) tz2 tz4 tz6) ⟨kv_468, kv_469, kv_470, kv_471⟩ ⟨by decide, by decide, by decide⟩ ⟨Nat.le_of_ble_eq_true rfl, Nat.le_of_ble_eq_true rfl⟩ ⟨Nat.zero_le _, Nat.zero_le _⟩ rfl hl.1 rfl (Nat.le_of_ble_eq_true rfl) dX9_takes_17 (fun r8 w9 H locs hp10 h => ?_)
    obtain ⟨rfl, hq11⟩ := hp10
    rcases hq11 with ⟨hq12, hq13, rfl⟩ | ⟨hq11, rfl⟩
    · refine lv_if_ne (tgt := 25) hx hb dX9_takes_20 (by decide) (fun _ => ?_) (fun hc => absurd hc (by decide))
      refine lv_aload_n hx hb dX9_takes_25 rfl (lv_at hl 0 rfl) ?_
      refine r_get kc9 X h 64 16 (by decide) rfl pf (by decide) kv_678 rfl dX9_takes_26 ?_
      refine lv_iload_n hx hb dX9_takes_29 rfl (lv_at hl 1 rfl) ?_
      refine lv_aload_n hx hb dX9_takes_30 rfl (lv_at hl 0 rfl) ?_
      refine r_get kc9 X h 64 14 (by decide) rfl pf (by decide) kv_666 rfl dX9_takes_31 ?_
      obtain ⟨g14, e15⟩ : ∃ z : Nat → Int32, upd f 2 va = z := ⟨_, rfl⟩
      have p17 : anyA g14 := trivial
      refine o_iast (f1 := g14) X hD h 73 0 (by decide) rfl p73 rfl (by unfold vp_in; decide) e15 dX9_takes_34 (fun H locs w18 e19 h => ?_)
      have f20 : w18 73 = .inl (cI, 3, .inl g14) := (congrFun e19 _).trans (va_up_self _ _ _)
      have ok21 : OK cI cB cZ cO ad w18 := OK.up ok e19 (sA_mk p17)
      have kx22 : F7 w w18 := F7.up F7.rf e19 (by decide)
      refine lv_aload_n hx hb dX9_takes_35 rfl (lv_at hl 0 rfl) ?_
      have f23 : w18 64 = .inr (7, [.ref (ad 65), .ref (ad 66), .ref (ad 67), .ref (ad 68), .long x, .long y, .ref (ad 69), .int mb, .ref (ad 70), .ref (ad 71), .int bl, .int ta, .int tl, .int tk, .int va, .ref (ad 72), .ref (ad 73)]) := by rw [e19, va_up_ne _ _ (by decide)]; exact pf
      have f24 : w18 71 = .inl (cI, 150, .inl bs) := by rw [e19, va_up_ne _ _ (by decide)]; exact p71
      refine n_Vv (na := 0) (As := []) (rest := []) X hD hN h rfl (c_MF_goBehind l G cI cB cZ cO ad w18 x y mb bl ta tl tk va bs p0 ok21 f23 (by omega) (by omega) f24 (by omega) (by omega) (by omega) hAT) ⟨kv_679, kv_680, kv_681, kv_470, kv_682⟩ rfl ⟨by decide, by decide, by decide⟩ ⟨Nat.le_of_ble_eq_true rfl, Nat.le_of_ble_eq_true rfl⟩ ⟨Nat.zero_le _, Nat.zero_le _⟩ (by decide) f23 rfl rfl hl.1 rfl (Nat.le_of_ble_eq_true rfl) dX9_takes_36 (fun w26 H locs hp27 h => ?_)
      obtain ⟨ok28, kk29, hr30⟩ := hp27
      obtain ⟨y31, y32, y33, y34, h35, h36, h37, h38, h39, h40⟩ := hr30
      have kx41 : F7 w w26 := F7.tr kx22 kk29.f7
      refine lv_iconst (v := 1) hx hb dX9_takes_39 (by decide) ?_
      have f42 : w26 73 = .inl (cI, 3, .inl g14) := (kk29 73 (by decide)).trans f20
      exact e_n X h hr hlk rfl dX9_takes_40 ⟨ok28, kx41, Or.inl ⟨⟨_, _, _, _, h35, by omega, by omega, by omega, by omega, h40, by rw [f42, ← e15], ⟨by rw [← hAT.2.2.1]; omega, by rw [← hAT.2.2.2 (by omega)]; omega, by rw [← hAT.2.2.2 (by omega)]; omega⟩⟩, rfl⟩⟩
    · refine lv_if_ne (tgt := 25) hx hb dX9_takes_20 (by decide) (fun hc => absurd (by decide) hc) (fun _ => ?_)
      refine lv_iconst (v := 0) hx hb dX9_takes_23 (by decide) ?_
      exact e_n X h hr hlk rfl dX9_takes_24 ⟨ok, F7.rf, Or.inr ⟨⟨rfl, rfl, fun q9 => by have q1 := q9.1; have q2 := q9.2.1; have q3 := q9.2.2; rw [← hAT.2.2.1] at q1; rw [← hAT.2.2.2 q1] at q2 q3; omega⟩, rfl⟩⟩
