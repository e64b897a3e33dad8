set_option maxHeartbeats 4000000 in
set_option maxRecDepth 100000 in
theorem c_M_isSmall (l : Launch) (G : va_G) (cI cB cZ cO : ClassId) (ad : Nat → Nat) (w : Nat → va_E)   (i : Int32)   : NI l G (tyq cI cB cZ cO) yX9_isSmall cX9_isSmall 1 (some .boolean) 1 25 74 ad w [.int i] (fun r w1 => w = w1 ∧ ((97 ≤ i.toInt ∧ i.toInt ≤ 122 ∧ r = 1) ∨ (¬ (97 ≤ i.toInt ∧ i.toInt ≤ 122) ∧ r = 0))) := by
  refine nk_i (own := "NoonShadeModel") rfl (by decide) (Nat.le_of_ble_eq_true rfl) ?_
  intro p e s m below meth c ls X hD hN hr hlk h hl
  have hx := X.1.1
  have hb := X.1.2.1
  have hown := X.1.2.2.2.1
  have hts := X.1.2.2.2.2
  have hl : lv_has ls 1 [(0, .int i)] := hl
  refine lv_iload_n hx hb dX9_isSmall_0 rfl (lv_at hl 0 rfl) ?_
  obtain ⟨z1, e2⟩ : ∃ z : Int64, i.toInt64 = z := ⟨_, rfl⟩
  have tz1 : z1.toInt = (i).toInt := by rw [← e2]; exact Int32.toInt_toInt64 _
  refine lv_i2l (v := z1) hx hb dX9_isSmall_1 e2 ?_
  refine lv_ldc2 (v := 97) hx hb hown (hts _ kv_659) dX9_isSmall_2 ?_
  refine lv_ldc2 (v := 122) hx hb hown (hts _ kv_660) dX9_isSmall_5 ?_
  refine n_Si (na := 3) (As := [.long z1, .long 97, .long 122]) (rest := []) X hD hN h (c_M_in l G cI cB cZ cO ad w z1 (97 : Int64) (122 : Int64) ((i).toInt) 97 122 tz1 rfl rfl) ⟨kv_468, kv_469, kv_470, kv_471⟩ ⟨by decide, by decide, by decide⟩ ⟨Nat.le_of_ble_eq_true rfl, Nat.le_of_ble_eq_true rfl⟩ ⟨Nat.zero_le _, Nat.zero_le _⟩ rfl hl.1 rfl (Nat.le_of_ble_eq_true rfl) dX9_isSmall_8 (fun r3 w4 H locs hp5 h => ?_)
  obtain ⟨rfl, hq6⟩ := hp5
  rcases hq6 with ⟨hq7, hq8, rfl⟩ | ⟨hq6, rfl⟩
  · exact e_n X h hr hlk rfl dX9_isSmall_11 ⟨rfl, Or.inl ⟨by omega, by omega, rfl⟩⟩
  · exact e_n X h hr hlk rfl dX9_isSmall_11 ⟨rfl, Or.inr ⟨by omega, rfl⟩⟩

set_option maxHeartbeats 4000000 in
set_option maxRecDepth 100000 in
theorem c_M_isFigure (l : Launch) (G : va_G) (cI cB cZ cO : ClassId) (ad : Nat → Nat) (w : Nat → va_E)   (i : Int32)   : NI l G (tyq cI cB cZ cO) yX9_isFigure cX9_isFigure 1 (some .boolean) 1 25 74 ad w [.int i] (fun r w1 => w = w1 ∧ ((48 ≤ i.toInt ∧ i.toInt ≤ 57 ∧ r = 1) ∨ (¬ (48 ≤ i.toInt ∧ i.toInt ≤ 57) ∧ r = 0))) := by
  refine nk_i (own := "NoonShadeModel") rfl (by decide) (Nat.le_of_ble_eq_true rfl) ?_
  intro p e s m below meth c ls X hD hN hr hlk h hl
  have hx := X.1.1
  have hb := X.1.2.1
  have hown := X.1.2.2.2.1
  have hts := X.1.2.2.2.2
  have hl : lv_has ls 1 [(0, .int i)] := hl
  refine lv_iload_n hx hb dX9_isFigure_0 rfl (lv_at hl 0 rfl) ?_
  obtain ⟨z1, e2⟩ : ∃ z : Int64, i.toInt64 = z := ⟨_, rfl⟩
  have tz1 : z1.toInt = (i).toInt := by rw [← e2]; exact Int32.toInt_toInt64 _
  refine lv_i2l (v := z1) hx hb dX9_isFigure_1 e2 ?_
  refine lv_ldc2 (v := 48) hx hb hown (hts _ kv_661) dX9_isFigure_2 ?_
  refine lv_ldc2 (v := 57) hx hb hown (hts _ kv_662) dX9_isFigure_5 ?_
  refine n_Si (na := 3) (As := [.long z1, .long 48, .long 57]) (rest := []) X hD hN h (c_M_in l G cI cB cZ cO ad w z1 (48 : Int64) (57 : Int64) ((i).toInt) 48 57 tz1 rfl rfl) ⟨kv_468, kv_469, kv_470, kv_471⟩ ⟨by decide, by decide, by decide⟩ ⟨Nat.le_of_ble_eq_true rfl, Nat.le_of_ble_eq_true rfl⟩ ⟨Nat.zero_le _, Nat.zero_le _⟩ rfl hl.1 rfl (Nat.le_of_ble_eq_true rfl) dX9_isFigure_8 (fun r3 w4 H locs hp5 h => ?_)
  obtain ⟨rfl, hq6⟩ := hp5
  rcases hq6 with ⟨hq7, hq8, rfl⟩ | ⟨hq6, rfl⟩
  · exact e_n X h hr hlk rfl dX9_isFigure_11 ⟨rfl, Or.inl ⟨by omega, by omega, rfl⟩⟩
  · exact e_n X h hr hlk rfl dX9_isFigure_11 ⟨rfl, Or.inr ⟨by omega, rfl⟩⟩

set_option maxHeartbeats 4000000 in
set_option maxRecDepth 100000 in
theorem c_M_lookAt (l : Launch) (G : va_G) (cI cB cZ cO : ClassId) (ad : Nat → Nat) (w : Nat → va_E) (x y : Int64) (mb bl ta tl tk va : Int32) (ok : OK cI cB cZ cO ad w) (n : Int32) (hl_n : 0 ≤ n.toInt) (hh_n : n.toInt ≤ 150) (pf : w 64 = .inr (7, [.ref (ad 65), .ref (ad 66), .ref (ad 67), .ref (ad 68), .long x, .long y, .ref (ad 69), .int mb, .ref (ad 70), .ref (ad 71), .int bl, .int ta, .int tl, .int tk, .int va, .ref (ad 72), .ref (ad 73)])) (hbl0 : 0 ≤ bl.toInt) (hbl1 : bl.toInt ≤ 150) (hnb : n.toInt ≤ bl.toInt) : NV l G (tyq cI cB cZ cO) yX9_lookAt cX9_lookAt 5 2 45 74 ad w [.ref (ad 64), .int n] (fun w1 => OK cI cB cZ cO ad w1 ∧ F6 w w1 ∧ ∃ ta1 tl1 tk1 va1 : Int32, w1 64 = .inr (7, [.ref (ad 65), .ref (ad 66), .ref (ad 67), .ref (ad 68), .long x, .long y, .ref (ad 69), .int mb, .ref (ad 70), .ref (ad 71), .int bl, .int ta1, .int tl1, .int tk1, .int va1, .ref (ad 72), .ref (ad 73)]) ∧ n.toInt ≤ ta1.toInt ∧ 0 ≤ tl1.toInt ∧ ta1.toInt + tl1.toInt ≤ bl.toInt ∧ (tk1.toInt = 0 ∨ 1 ≤ tl1.toInt)) := by
  refine nk_v (own := "NoonShadeModel") rfl (by decide) (Nat.le_of_ble_eq_true rfl) ?_
  intro p e s m below meth c ls X hD hN hr hlk h hl
  have hx := X.1.1
  have hb := X.1.2.1
  have hown := X.1.2.2.2.1
  have hts := X.1.2.2.2.2
  have hl : lv_has ls 5 [(0, .ref (ad 64)), (1, .int n)] := hl
  have kq0 : (0 : Int32).toInt = 0 := rfl
  have kq1 : (1 : Int32).toInt = 1 := rfl
  have kq2 : (2 : Int32).toInt = 2 := rfl
  have kq3 : (3 : Int32).toInt = 3 := rfl
  have kq4 : (4 : Int32).toInt = 4 := rfl
  refine lv_aload_n hx hb dX9_lookAt_0 rfl (lv_at hl 0 rfl) ?_
  refine lv_iload_n hx hb dX9_lookAt_1 rfl (lv_at hl 1 rfl) ?_
  refine r_put kc9 X hD h 64 11 (by decide) rfl pf (by decide) kv_663 rfl rfl rfl (Nat.le_of_ble_eq_true rfl) dX9_lookAt_2 (fun H locs w1 e2 h => ?_)
  have f3 : w1 64 = .inr (7, [.ref (ad 65), .ref (ad 66), .ref (ad 67), .ref (ad 68), .long x, .long y, .ref (ad 69), .int mb, .ref (ad 70), .ref (ad 71), .int bl, .int n, .int tl, .int tk, .int va, .ref (ad 72), .ref (ad 73)]) := (congrFun e2 _).trans (va_up_self _ _ _)
  have ok4 : OK cI cB cZ cO ad w1 := OK.up ok e2 (sM_mk (by omega) (by omega))
  have kx5 : F6 w w1 := F6.up F6.rf e2
  have hloop8 : ∀ (d9 : Nat) (C7 : Int32) (wL6 : Nat → va_E) (H : Heap) (locs : List Loc) (ls : Array Slot), n.toInt ≤ C7.toInt → C7.toInt ≤ bl.toInt → 0 ≤ C7.toInt → C7.toInt ≤ 150 → OK cI cB cZ cO ad wL6 → F6 w wL6 → wL6 64 = .inr (7, [.ref (ad 65), .ref (ad 66), .ref (ad 67), .ref (ad 68), .long x, .long y, .ref (ad 69), .int mb, .ref (ad 70), .ref (ad 71), .int bl, .int C7, .int tl, .int tk, .int va, .ref (ad 72), .ref (ad 73)]) → bl.toInt - C7.toInt < (d9 : Int) → St G 74 ad (wA 74 ad s.heap.size) s.heap wL6 H locs → lv_has ls 5 [(0, .ref (ad 64)), (1, .int n)] → W p l e { frames := 2, cells := 0, slots := 0, locals := 45 } s m [.ref (ad 64), .int n].toArray below meth c H locs 0 0 (MQ below (va_Qv (fun w1 => OK cI cB cZ cO ad w1 ∧ F6 w w1 ∧ ∃ ta1 tl1 tk1 va1 : Int32, w1 64 = .inr (7, [.ref (ad 65), .ref (ad 66), .ref (ad 67), .ref (ad 68), .long x, .long y, .ref (ad 69), .int mb, .ref (ad 70), .ref (ad 71), .int bl, .int ta1, .int tl1, .int tk1, .int va1, .ref (ad 72), .ref (ad 73)]) ∧ n.toInt ≤ ta1.toInt ∧ 0 ≤ tl1.toInt ∧ ta1.toInt + tl1.toInt ≤ bl.toInt ∧ (tk1.toInt = 0 ∨ 1 ≤ tl1.toInt)) (Aft G 74 ad) (wA 74 ad s.heap.size)) [.ref (ad 64), .int n].toArray s 0 0 (wA 74 ad s.heap.size)) (F0 m 5 ls []) := by
    intro d9
    induction d9 with
    | zero => intro C7 wL6 H locs ls hi12 hi13 hi14 hi15 ok16 kx17 cf18 hm11 h hl; exfalso; omega
    | succ d9 ih10 =>
      intro C7 wL6 H locs ls hi12 hi13 hi14 hi15 ok16 kx17 cf18 hm11 h hl
      refine lv_aload_n hx hb dX9_lookAt_5 rfl (lv_at hl 0 rfl) ?_
      refine r_get kc9 X h 64 11 (by decide) rfl cf18 (by decide) kv_663 rfl dX9_lookAt_6 ?_
      refine lv_aload_n hx hb dX9_lookAt_9 rfl (lv_at hl 0 rfl) ?_
      refine r_get kc9 X h 64 10 (by decide) rfl cf18 (by decide) kv_539 rfl dX9_lookAt_10 ?_
      refine lv_icmp_ge (tgt := 43) hx hb dX9_lookAt_13 (by decide) (fun hc20 => ?_) (fun hc20 => ?_)
      · have hc20 : (bl).toInt ≤ (C7).toInt := i_le hc20 rfl rfl
        refine lv_aload_n hx hb dX9_lookAt_43 rfl (lv_at hl 0 rfl) ?_
        refine lv_iconst (v := 0) hx hb dX9_lookAt_44 (by decide) ?_
        refine r_put kc9 X hD h 64 12 (by decide) rfl cf18 (by decide) kv_664 rfl rfl rfl (Nat.le_of_ble_eq_true rfl) dX9_lookAt_45 (fun H locs w21 e22 h => ?_)
        have f23 : w21 64 = .inr (7, [.ref (ad 65), .ref (ad 66), .ref (ad 67), .ref (ad 68), .long x, .long y, .ref (ad 69), .int mb, .ref (ad 70), .ref (ad 71), .int bl, .int C7, .int 0, .int tk, .int va, .ref (ad 72), .ref (ad 73)]) := (congrFun e22 _).trans (va_up_self _ _ _)
        have ok24 : OK cI cB cZ cO ad w21 := OK.up ok16 e22 (sM_mk (by omega) (by omega))
        have kx25 : F6 w w21 := F6.up kx17 e22
        refine lv_aload_n hx hb dX9_lookAt_48 rfl (lv_at hl 0 rfl) ?_
        refine lv_iconst (v := 0) hx hb dX9_lookAt_49 (by decide) ?_
        refine r_put kc9 X hD h 64 13 (by decide) rfl f23 (by decide) kv_665 rfl rfl rfl (Nat.le_of_ble_eq_true rfl) dX9_lookAt_50 (fun H locs w26 e27 h => ?_)
        have f28 : w26 64 = .inr (7, [.ref (ad 65), .ref (ad 66), .ref (ad 67), .ref (ad 68), .long x, .long y, .ref (ad 69), .int mb, .ref (ad 70), .ref (ad 71), .int bl, .int C7, .int 0, .int 0, .int va, .ref (ad 72), .ref (ad 73)]) := (congrFun e27 _).trans (va_up_self _ _ _)
        have ok29 : OK cI cB cZ cO ad w26 := OK.up ok24 e27 (sM_mk (by omega) (by omega))
        have kx30 : F6 w w26 := F6.up kx25 e27
        refine lv_aload_n hx hb dX9_lookAt_53 rfl (lv_at hl 0 rfl) ?_
        refine lv_iconst (v := 0) hx hb dX9_lookAt_54 (by decide) ?_
        refine r_put kc9 X hD h 64 14 (by decide) rfl f28 (by decide) kv_666 rfl rfl rfl (Nat.le_of_ble_eq_true rfl) dX9_lookAt_55 (fun H locs w31 e32 h => ?_)
        have f33 : w31 64 = .inr (7, [.ref (ad 65), .ref (ad 66), .ref (ad 67), .ref (ad 68), .long x, .long y, .ref (ad 69), .int mb, .ref (ad 70), .ref (ad 71), .int bl, .int C7, .int 0, .int 0, .int 0, .ref (ad 72), .ref (ad 73)]) := (congrFun e32 _).trans (va_up_self _ _ _)
        have ok34 : OK cI cB cZ cO ad w31 := OK.up ok29 e32 (sM_mk (by omega) (by omega))
        have kx35 : F6 w w31 := F6.up kx30 e32
        refine lv_aload_n hx hb dX9_lookAt_58 rfl (lv_at hl 0 rfl) ?_
        refine r_get kc9 X h 64 11 (by decide) rfl f33 (by decide) kv_663 rfl dX9_lookAt_59 ?_
        refine lv_aload_n hx hb dX9_lookAt_62 rfl (lv_at hl 0 rfl) ?_
        refine r_get kc9 X h 64 10 (by decide) rfl f33 (by decide) kv_539 rfl dX9_lookAt_63 ?_
        refine lv_icmp_ne (tgt := 70) hx hb dX9_lookAt_66 (by decide) (fun hc36 => ?_) (fun hc36 => ?_)
        · have hc36 : ¬ (C7).toInt = (bl).toInt := i_ne hc36 rfl rfl
          refine lv_aload_n hx hb dX9_lookAt_70 rfl (lv_at hl 0 rfl) ?_
          refine r_get kc9 X h 64 9 (by decide) rfl f33 (by decide) kv_667 rfl dX9_lookAt_71 ?_
          refine lv_aload_n hx hb dX9_lookAt_74 rfl (lv_at hl 0 rfl) ?_
          refine r_get kc9 X h 64 11 (by decide) rfl f33 (by decide) kv_663 rfl dX9_lookAt_75 ?_
          obtain ⟨g38, f37, p39⟩ := (show sA cI 150 (anyA) (w31 71) from ok34 71 (by decide))
          have f40 : w31 71 = .inl (cI, 150, .inl g38) := f37
          obtain ⟨v41, e42⟩ : ∃ z : Int32, g38 (C7).toNatClampNeg = z := ⟨_, rfl⟩
          refine o_iald (v := v41) X h 71 0 (by decide) rfl f40 rfl (in_of (by omega) (by omega)) e42 dX9_lookAt_78 ?_
          refine lv_istore_n (lv' := [(2, .int v41), (0, .ref (ad 64)), (1, .int n)]) hx hb dX9_lookAt_79 rfl hl (by decide) rfl (fun ls hl => ?_)
          refine lv_aload_n hx hb dX9_lookAt_80 rfl (lv_at hl 1 rfl) ?_
          refine lv_iload_n hx hb dX9_lookAt_81 rfl (lv_at hl 0 rfl) ?_
          refine n_Si (na := 1) (As := [.int v41]) (rest := [.ref (ad 64)]) X hD hN h (c_M_isSmall l G cI cB cZ cO ad w31   v41  ) ⟨kv_668, kv_669, kv_470, kv_670⟩ ⟨by decide, by decide, by decide⟩ ⟨Nat.le_of_ble_eq_true rfl, Nat.le_of_ble_eq_true rfl⟩ ⟨Nat.zero_le _, Nat.zero_le _⟩ rfl hl.1 rfl (Nat.le_of_ble_eq_true rfl) dX9_lookAt_82 (fun r44 w45 H locs hp46 h => ?_)
          obtain ⟨rfl, hr47⟩ := hp46
          rcases hr47 with ⟨hq48, hq49, rfl⟩ | ⟨hq50, rfl⟩
          · refine lv_if_eq (tgt := 92) hx hb dX9_lookAt_85 (by decide) (fun hc => absurd hc (by decide)) (fun _ => ?_)
            refine lv_iconst (v := 1) hx hb dX9_lookAt_88 (by decide) ?_
            refine lv_goto (tgt := 114) hx hb dX9_lookAt_89 (by decide) ?_
            refine r_put kc9 X hD h 64 13 (by decide) rfl f33 (by decide) kv_665 rfl rfl rfl (Nat.le_of_ble_eq_true rfl) dX9_lookAt_114 (fun H locs w51 e52 h => ?_)
            have f53 : w51 64 = .inr (7, [.ref (ad 65), .ref (ad 66), .ref (ad 67), .ref (ad 68), .long x, .long y, .ref (ad 69), .int mb, .ref (ad 70), .ref (ad 71), .int bl, .int C7, .int 0, .int 1, .int 0, .ref (ad 72), .ref (ad 73)]) := (congrFun e52 _).trans (va_up_self _ _ _)
            have ok54 : OK cI cB cZ cO ad w51 := OK.up ok34 e52 (sM_mk (by omega) (by omega))
            have kx55 : F6 w w51 := F6.up kx35 e52
            refine lv_aload_n hx hb dX9_lookAt_117 rfl (lv_at hl 1 rfl) ?_
            refine lv_iconst (v := 1) hx hb dX9_lookAt_118 (by decide) ?_
            refine r_put kc9 X hD h 64 12 (by decide) rfl f53 (by decide) kv_664 rfl rfl rfl (Nat.le_of_ble_eq_true rfl) dX9_lookAt_119 (fun H locs w56 e57 h => ?_)
            have f58 : w56 64 = .inr (7, [.ref (ad 65), .ref (ad 66), .ref (ad 67), .ref (ad 68), .long x, .long y, .ref (ad 69), .int mb, .ref (ad 70), .ref (ad 71), .int bl, .int C7, .int 1, .int 1, .int 0, .ref (ad 72), .ref (ad 73)]) := (congrFun e57 _).trans (va_up_self _ _ _)
            have ok59 : OK cI cB cZ cO ad w56 := OK.up ok54 e57 (sM_mk (by omega) (by omega))
            have kx60 : F6 w w56 := F6.up kx55 e57
            refine lv_aload_n hx hb dX9_lookAt_122 rfl (lv_at hl 1 rfl) ?_
            refine r_get kc9 X h 64 13 (by decide) rfl f58 (by decide) kv_665 rfl dX9_lookAt_123 ?_
            refine lv_iconst (v := 3) hx hb dX9_lookAt_126 (by decide) ?_
            refine lv_icmp_ge (tgt := 134) hx hb dX9_lookAt_127 (by decide) (fun hc => absurd hc (by decide)) (fun _ => ?_)
            refine lv_iconst (v := 1) hx hb dX9_lookAt_130 (by decide) ?_
            refine lv_goto (tgt := 135) hx hb dX9_lookAt_131 (by decide) ?_
            refine lv_istore_n (lv' := [(3, .int 1), (2, .int v41), (0, .ref (ad 64)), (1, .int n)]) hx hb dX9_lookAt_135 rfl hl (by decide) rfl (fun ls hl => ?_)
            have hloop64 : ∀ (d65 : Nat) (L61 : Int32) (C63 : Int32) (wL62 : Nat → va_E) (H : Heap) (locs : List Loc) (ls : Array Slot), 0 ≤ L61.toInt → L61.toInt ≤ 1 → C7.toInt + C63.toInt ≤ bl.toInt → 1 ≤ C63.toInt → C63.toInt ≤ 150 → OK cI cB cZ cO ad wL62 → F6 w wL62 → wL62 64 = .inr (7, [.ref (ad 65), .ref (ad 66), .ref (ad 67), .ref (ad 68), .long x, .long y, .ref (ad 69), .int mb, .ref (ad 70), .ref (ad 71), .int bl, .int C7, .int C63, .int 1, .int 0, .ref (ad 72), .ref (ad 73)]) → bl.toInt - C7.toInt - C63.toInt + L61.toInt < (d65 : Int) → St G 74 ad (wA 74 ad s.heap.size) s.heap wL62 H locs → lv_has ls 5 [(3, .int L61), (2, .int v41), (0, .ref (ad 64)), (1, .int n)] → W p l e { frames := 2, cells := 0, slots := 0, locals := 45 } s m [.ref (ad 64), .int n].toArray below meth c H locs 0 0 (MQ below (va_Qv (fun w1 => OK cI cB cZ cO ad w1 ∧ F6 w w1 ∧ ∃ ta1 tl1 tk1 va1 : Int32, w1 64 = .inr (7, [.ref (ad 65), .ref (ad 66), .ref (ad 67), .ref (ad 68), .long x, .long y, .ref (ad 69), .int mb, .ref (ad 70), .ref (ad 71), .int bl, .int ta1, .int tl1, .int tk1, .int va1, .ref (ad 72), .ref (ad 73)]) ∧ n.toInt ≤ ta1.toInt ∧ 0 ≤ tl1.toInt ∧ ta1.toInt + tl1.toInt ≤ bl.toInt ∧ (tk1.toInt = 0 ∨ 1 ≤ tl1.toInt)) (Aft G 74 ad) (wA 74 ad s.heap.size)) [.ref (ad 64), .int n].toArray s 0 0 (wA 74 ad s.heap.size)) (F0 m 136 ls []) := by
              intro d65
              induction d65 with
              | zero => intro L61 C63 wL62 H locs ls hi68 hi69 hi70 hi71 hi72 ok73 kx74 cf75 hm67 h hl; exfalso; omega
              | succ d65 ih66 =>
                intro L61 C63 wL62 H locs ls hi68 hi69 hi70 hi71 hi72 ok73 kx74 cf75 hm67 h hl
                refine lv_iload_n hx hb dX9_lookAt_136 rfl (lv_at hl 0 rfl) ?_
                refine lv_if_eq (tgt := 215) hx hb dX9_lookAt_137 (by decide) (fun hc77 => ?_) (fun hc77 => ?_)
                · have hc77 : (L61).toInt = 0 := i_eq hc77 rfl rfl
                  refine lv_iconst (v := 0) hx hb dX9_lookAt_215 (by decide) ?_
                  refine lv_istore (lv' := [(4, .int 0), (3, .int L61), (2, .int v41), (0, .ref (ad 64)), (1, .int n)]) hx hb dX9_lookAt_216 hl (by decide) rfl (fun ls hl => ?_)
                  have hloop81 : ∀ (d82 : Nat) (L78 : Int32) (C80 : Int32) (wL79 : Nat → va_E) (H : Heap) (locs : List Loc) (ls : Array Slot), 0 ≤ L78.toInt → L78.toInt ≤ 2 → OK cI cB cZ cO ad wL79 → F6 w wL79 → wL79 64 = .inr (7, [.ref (ad 65), .ref (ad 66), .ref (ad 67), .ref (ad 68), .long x, .long y, .ref (ad 69), .int mb, .ref (ad 70), .ref (ad 71), .int bl, .int C7, .int C63, .int 1, .int C80, .ref (ad 72), .ref (ad 73)]) → 2 - L78.toInt < (d82 : Int) → St G 74 ad (wA 74 ad s.heap.size) s.heap wL79 H locs → lv_has ls 5 [(4, .int L78), (3, .int L61), (2, .int v41), (0, .ref (ad 64)), (1, .int n)] → W p l e { frames := 2, cells := 0, slots := 0, locals := 45 } s m [.ref (ad 64), .int n].toArray below meth c H locs 0 0 (MQ below (va_Qv (fun w1 => OK cI cB cZ cO ad w1 ∧ F6 w w1 ∧ ∃ ta1 tl1 tk1 va1 : Int32, w1 64 = .inr (7, [.ref (ad 65), .ref (ad 66), .ref (ad 67), .ref (ad 68), .long x, .long y, .ref (ad 69), .int mb, .ref (ad 70), .ref (ad 71), .int bl, .int ta1, .int tl1, .int tk1, .int va1, .ref (ad 72), .ref (ad 73)]) ∧ n.toInt ≤ ta1.toInt ∧ 0 ≤ tl1.toInt ∧ ta1.toInt + tl1.toInt ≤ bl.toInt ∧ (tk1.toInt = 0 ∨ 1 ≤ tl1.toInt)) (Aft G 74 ad) (wA 74 ad s.heap.size)) [.ref (ad 64), .int n].toArray s 0 0 (wA 74 ad s.heap.size)) (F0 m 218 ls []) := by
                    intro d82
                    induction d82 with
                    | zero => intro L78 C80 wL79 H locs ls hi85 hi86 ok87 kx88 cf89 hm84 h hl; exfalso; omega
                    | succ d82 ih83 =>
                      intro L78 C80 wL79 H locs ls hi85 hi86 ok87 kx88 cf89 hm84 h hl
                      refine lv_iload hx hb dX9_lookAt_218 (lv_at hl 0 rfl) ?_
                      refine lv_aload_n hx hb dX9_lookAt_220 rfl (lv_at hl 3 rfl) ?_
                      refine r_get kc9 X h 64 12 (by decide) rfl cf89 (by decide) kv_664 rfl dX9_lookAt_221 ?_
                      refine lv_icmp_ge (tgt := 274) hx hb dX9_lookAt_224 (by decide) (fun hc91 => ?_) (fun hc91 => ?_)
                      · have hc91 : (C63).toInt ≤ (L78).toInt := i_le hc91 rfl rfl
                        refine lv_aload_n hx hb dX9_lookAt_274 rfl (lv_at hl 3 rfl) ?_
                        refine lv_aload_n hx hb dX9_lookAt_275 rfl (lv_at hl 3 rfl) ?_
                        refine r_get kc9 X h 64 13 (by decide) rfl cf89 (by decide) kv_665 rfl dX9_lookAt_276 ?_
                        refine lv_iconst (v := 2) hx hb dX9_lookAt_279 (by decide) ?_
                        refine lv_icmp_ne (tgt := 295) hx hb dX9_lookAt_280 (by decide) (fun _ => ?_) (fun hc => absurd hc (by decide))
                        refine lv_aload_n hx hb dX9_lookAt_295 rfl (lv_at hl 3 rfl) ?_
                        refine r_get kc9 X h 64 13 (by decide) rfl cf89 (by decide) kv_665 rfl dX9_lookAt_296 ?_
                        refine r_put kc9 X hD h 64 13 (by decide) rfl cf89 (by decide) kv_665 rfl rfl rfl (Nat.le_of_ble_eq_true rfl) dX9_lookAt_299 (fun H locs w92 e93 h => ?_)
                        have f94 : w92 64 = .inr (7, [.ref (ad 65), .ref (ad 66), .ref (ad 67), .ref (ad 68), .long x, .long y, .ref (ad 69), .int mb, .ref (ad 70), .ref (ad 71), .int bl, .int C7, .int C63, .int 1, .int C80, .ref (ad 72), .ref (ad 73)]) := (congrFun e93 _).trans (va_up_self _ _ _)
                        have ok95 : OK cI cB cZ cO ad w92 := OK.up ok87 e93 (sM_mk (by omega) (by omega))
                        have kx96 : F6 w w92 := F6.up kx88 e93
                        exact e_v X h hr hlk dX9_lookAt_302 ⟨ok95, kx96, ⟨_, _, _, _, f94, by omega, by omega, by omega, by omega⟩⟩
                      · have hc91 : ¬ (C63).toInt ≤ (L78).toInt := i_nle hc91 rfl rfl
                        refine lv_iload hx hb dX9_lookAt_227 (lv_at hl 0 rfl) ?_
                        refine lv_iconst (v := 2) hx hb dX9_lookAt_229 (by decide) ?_
                        refine lv_icmp_ge (tgt := 274) hx hb dX9_lookAt_230 (by decide) (fun hc97 => ?_) (fun hc97 => ?_)
                        · have hc97 : 2 ≤ (L78).toInt := i_le hc97 rfl rfl
                          refine lv_aload_n hx hb dX9_lookAt_274 rfl (lv_at hl 3 rfl) ?_
                          refine lv_aload_n hx hb dX9_lookAt_275 rfl (lv_at hl 3 rfl) ?_
                          refine r_get kc9 X h 64 13 (by decide) rfl cf89 (by decide) kv_665 rfl dX9_lookAt_276 ?_
                          refine lv_iconst (v := 2) hx hb dX9_lookAt_279 (by decide) ?_
                          refine lv_icmp_ne (tgt := 295) hx hb dX9_lookAt_280 (by decide) (fun _ => ?_) (fun hc => absurd hc (by decide))
                          refine lv_aload_n hx hb dX9_lookAt_295 rfl (lv_at hl 3 rfl) ?_
                          refine r_get kc9 X h 64 13 (by decide) rfl cf89 (by decide) kv_665 rfl dX9_lookAt_296 ?_
                          refine r_put kc9 X hD h 64 13 (by decide) rfl cf89 (by decide) kv_665 rfl rfl rfl (Nat.le_of_ble_eq_true rfl) dX9_lookAt_299 (fun H locs w98 e99 h => ?_)
                          have f100 : w98 64 = .inr (7, [.ref (ad 65), .ref (ad 66), .ref (ad 67), .ref (ad 68), .long x, .long y, .ref (ad 69), .int mb, .ref (ad 70), .ref (ad 71), .int bl, .int C7, .int C63, .int 1, .int C80, .ref (ad 72), .ref (ad 73)]) := (congrFun e99 _).trans (va_up_self _ _ _)
                          have ok101 : OK cI cB cZ cO ad w98 := OK.up ok87 e99 (sM_mk (by omega) (by omega))
                          have kx102 : F6 w w98 := F6.up kx88 e99
                          exact e_v X h hr hlk dX9_lookAt_302 ⟨ok101, kx102, ⟨_, _, _, _, f100, by omega, by omega, by omega, by omega⟩⟩
                        · have hc97 : ¬ 2 ≤ (L78).toInt := i_nle hc97 rfl rfl
                          refine lv_aload_n hx hb dX9_lookAt_233 rfl (lv_at hl 3 rfl) ?_
                          refine r_get kc9 X h 64 13 (by decide) rfl cf89 (by decide) kv_665 rfl dX9_lookAt_234 ?_
                          refine lv_iconst (v := 2) hx hb dX9_lookAt_237 (by decide) ?_
                          refine lv_icmp_ne (tgt := 274) hx hb dX9_lookAt_238 (by decide) (fun _ => ?_) (fun hc => absurd hc (by decide))
                          refine lv_aload_n hx hb dX9_lookAt_274 rfl (lv_at hl 3 rfl) ?_
                          refine lv_aload_n hx hb dX9_lookAt_275 rfl (lv_at hl 3 rfl) ?_
                          refine r_get kc9 X h 64 13 (by decide) rfl cf89 (by decide) kv_665 rfl dX9_lookAt_276 ?_
                          refine lv_iconst (v := 2) hx hb dX9_lookAt_279 (by decide) ?_
                          refine lv_icmp_ne (tgt := 295) hx hb dX9_lookAt_280 (by decide) (fun _ => ?_) (fun hc => absurd hc (by decide))
                          refine lv_aload_n hx hb dX9_lookAt_295 rfl (lv_at hl 3 rfl) ?_
                          refine r_get kc9 X h 64 13 (by decide) rfl cf89 (by decide) kv_665 rfl dX9_lookAt_296 ?_
                          refine r_put kc9 X hD h 64 13 (by decide) rfl cf89 (by decide) kv_665 rfl rfl rfl (Nat.le_of_ble_eq_true rfl) dX9_lookAt_299 (fun H locs w103 e104 h => ?_)
                          have f105 : w103 64 = .inr (7, [.ref (ad 65), .ref (ad 66), .ref (ad 67), .ref (ad 68), .long x, .long y, .ref (ad 69), .int mb, .ref (ad 70), .ref (ad 71), .int bl, .int C7, .int C63, .int 1, .int C80, .ref (ad 72), .ref (ad 73)]) := (congrFun e104 _).trans (va_up_self _ _ _)
                          have ok106 : OK cI cB cZ cO ad w103 := OK.up ok87 e104 (sM_mk (by omega) (by omega))
                          have kx107 : F6 w w103 := F6.up kx88 e104
                          exact e_v X h hr hlk dX9_lookAt_302 ⟨ok106, kx107, ⟨_, _, _, _, f105, by omega, by omega, by omega, by omega⟩⟩
                  exact hloop81 3 (0 : Int32) (0 : Int32) wL62 _ _ _ (by have q0 : (0 : Int32).toInt = 0 := rfl; omega) (by have q0 : (0 : Int32).toInt = 0 := rfl; omega) ok73 kx74 cf75 (by have q0 : (0 : Int32).toInt = 0 := rfl; omega) h (lv_sub hl [0, 1, 2, 3, 4] rfl)
                · have hc77 : ¬ (L61).toInt = 0 := i_ne hc77 rfl rfl
                  refine lv_aload_n hx hb dX9_lookAt_140 rfl (lv_at hl 2 rfl) ?_
                  refine r_get kc9 X h 64 11 (by decide) rfl cf75 (by decide) kv_663 rfl dX9_lookAt_141 ?_
                  refine lv_aload_n hx hb dX9_lookAt_144 rfl (lv_at hl 2 rfl) ?_
                  refine r_get kc9 X h 64 12 (by decide) rfl cf75 (by decide) kv_664 rfl dX9_lookAt_145 ?_
                  obtain ⟨z110, e108, t109⟩ := x_add (x := C7) (y := C63) (a := (C7).toInt) (b := (C63).toInt) rfl rfl (by omega) (by omega)
                  refine o_iadd (z := z110) hx hb dX9_lookAt_148 e108 ?_
                  refine lv_aload_n hx hb dX9_lookAt_149 rfl (lv_at hl 2 rfl) ?_
                  refine r_get kc9 X h 64 10 (by decide) rfl cf75 (by decide) kv_539 rfl dX9_lookAt_150 ?_
                  refine lv_icmp_ge (tgt := 215) hx hb dX9_lookAt_153 (by decide) (fun hc111 => ?_) (fun hc111 => ?_)
                  · have hc111 : (bl).toInt ≤ (z110).toInt := i_le hc111 rfl rfl
                    refine lv_iconst (v := 0) hx hb dX9_lookAt_215 (by decide) ?_
                    refine lv_istore (lv' := [(4, .int 0), (3, .int L61), (2, .int v41), (0, .ref (ad 64)), (1, .int n)]) hx hb dX9_lookAt_216 hl (by decide) rfl (fun ls hl => ?_)
                    have hloop115 : ∀ (d116 : Nat) (L112 : Int32) (C114 : Int32) (wL113 : Nat → va_E) (H : Heap) (locs : List Loc) (ls : Array Slot), 0 ≤ L112.toInt → L112.toInt ≤ 2 → OK cI cB cZ cO ad wL113 → F6 w wL113 → wL113 64 = .inr (7, [.ref (ad 65), .ref (ad 66), .ref (ad 67), .ref (ad 68), .long x, .long y, .ref (ad 69), .int mb, .ref (ad 70), .ref (ad 71), .int bl, .int C7, .int C63, .int 1, .int C114, .ref (ad 72), .ref (ad 73)]) → 2 - L112.toInt < (d116 : Int) → St G 74 ad (wA 74 ad s.heap.size) s.heap wL113 H locs → lv_has ls 5 [(4, .int L112), (3, .int L61), (2, .int v41), (0, .ref (ad 64)), (1, .int n)] → W p l e { frames := 2, cells := 0, slots := 0, locals := 45 } s m [.ref (ad 64), .int n].toArray below meth c H locs 0 0 (MQ below (va_Qv (fun w1 => OK cI cB cZ cO ad w1 ∧ F6 w w1 ∧ ∃ ta1 tl1 tk1 va1 : Int32, w1 64 = .inr (7, [.ref (ad 65), .ref (ad 66), .ref (ad 67), .ref (ad 68), .long x, .long y, .ref (ad 69), .int mb, .ref (ad 70), .ref (ad 71), .int bl, .int ta1, .int tl1, .int tk1, .int va1, .ref (ad 72), .ref (ad 73)]) ∧ n.toInt ≤ ta1.toInt ∧ 0 ≤ tl1.toInt ∧ ta1.toInt + tl1.toInt ≤ bl.toInt ∧ (tk1.toInt = 0 ∨ 1 ≤ tl1.toInt)) (Aft G 74 ad) (wA 74 ad s.heap.size)) [.ref (ad 64), .int n].toArray s 0 0 (wA 74 ad s.heap.size)) (F0 m 218 ls []) := by
                      intro d116
                      induction d116 with
                      | zero => intro L112 C114 wL113 H locs ls hi119 hi120 ok121 kx122 cf123 hm118 h hl; exfalso; omega
                      | succ d116 ih117 =>
                        intro L112 C114 wL113 H locs ls hi119 hi120 ok121 kx122 cf123 hm118 h hl
                        refine lv_iload hx hb dX9_lookAt_218 (lv_at hl 0 rfl) ?_
                        refine lv_aload_n hx hb dX9_lookAt_220 rfl (lv_at hl 3 rfl) ?_
                        refine r_get kc9 X h 64 12 (by decide) rfl cf123 (by decide) kv_664 rfl dX9_lookAt_221 ?_
                        refine lv_icmp_ge (tgt := 274) hx hb dX9_lookAt_224 (by decide) (fun hc125 => ?_) (fun hc125 => ?_)
                        · have hc125 : (C63).toInt ≤ (L112).toInt := i_le hc125 rfl rfl
                          refine lv_aload_n hx hb dX9_lookAt_274 rfl (lv_at hl 3 rfl) ?_
                          refine lv_aload_n hx hb dX9_lookAt_275 rfl (lv_at hl 3 rfl) ?_
                          refine r_get kc9 X h 64 13 (by decide) rfl cf123 (by decide) kv_665 rfl dX9_lookAt_276 ?_
                          refine lv_iconst (v := 2) hx hb dX9_lookAt_279 (by decide) ?_
                          refine lv_icmp_ne (tgt := 295) hx hb dX9_lookAt_280 (by decide) (fun _ => ?_) (fun hc => absurd hc (by decide))
                          refine lv_aload_n hx hb dX9_lookAt_295 rfl (lv_at hl 3 rfl) ?_
                          refine r_get kc9 X h 64 13 (by decide) rfl cf123 (by decide) kv_665 rfl dX9_lookAt_296 ?_
                          refine r_put kc9 X hD h 64 13 (by decide) rfl cf123 (by decide) kv_665 rfl rfl rfl (Nat.le_of_ble_eq_true rfl) dX9_lookAt_299 (fun H locs w126 e127 h => ?_)
                          have f128 : w126 64 = .inr (7, [.ref (ad 65), .ref (ad 66), .ref (ad 67), .ref (ad 68), .long x, .long y, .ref (ad 69), .int mb, .ref (ad 70), .ref (ad 71), .int bl, .int C7, .int C63, .int 1, .int C114, .ref (ad 72), .ref (ad 73)]) := (congrFun e127 _).trans (va_up_self _ _ _)
                          have ok129 : OK cI cB cZ cO ad w126 := OK.up ok121 e127 (sM_mk (by omega) (by omega))
                          have kx130 : F6 w w126 := F6.up kx122 e127
                          exact e_v X h hr hlk dX9_lookAt_302 ⟨ok129, kx130, ⟨_, _, _, _, f128, by omega, by omega, by omega, by omega⟩⟩
                        · have hc125 : ¬ (C63).toInt ≤ (L112).toInt := i_nle hc125 rfl rfl
                          refine lv_iload hx hb dX9_lookAt_227 (lv_at hl 0 rfl) ?_
                          refine lv_iconst (v := 2) hx hb dX9_lookAt_229 (by decide) ?_
                          refine lv_icmp_ge (tgt := 274) hx hb dX9_lookAt_230 (by decide) (fun hc131 => ?_) (fun hc131 => ?_)
                          · have hc131 : 2 ≤ (L112).toInt := i_le hc131 rfl rfl
                            refine lv_aload_n hx hb dX9_lookAt_274 rfl (lv_at hl 3 rfl) ?_
                            refine lv_aload_n hx hb dX9_lookAt_275 rfl (lv_at hl 3 rfl) ?_
                            refine r_get kc9 X h 64 13 (by decide) rfl cf123 (by decide) kv_665 rfl dX9_lookAt_276 ?_
                            refine lv_iconst (v := 2) hx hb dX9_lookAt_279 (by decide) ?_
                            refine lv_icmp_ne (tgt := 295) hx hb dX9_lookAt_280 (by decide) (fun _ => ?_) (fun hc => absurd hc (by decide))
                            refine lv_aload_n hx hb dX9_lookAt_295 rfl (lv_at hl 3 rfl) ?_
                            refine r_get kc9 X h 64 13 (by decide) rfl cf123 (by decide) kv_665 rfl dX9_lookAt_296 ?_
                            refine r_put kc9 X hD h 64 13 (by decide) rfl cf123 (by decide) kv_665 rfl rfl rfl (Nat.le_of_ble_eq_true rfl) dX9_lookAt_299 (fun H locs w132 e133 h => ?_)
                            have f134 : w132 64 = .inr (7, [.ref (ad 65), .ref (ad 66), .ref (ad 67), .ref (ad 68), .long x, .long y, .ref (ad 69), .int mb, .ref (ad 70), .ref (ad 71), .int bl, .int C7, .int C63, .int 1, .int C114, .ref (ad 72), .ref (ad 73)]) := (congrFun e133 _).trans (va_up_self _ _ _)
                            have ok135 : OK cI cB cZ cO ad w132 := OK.up ok121 e133 (sM_mk (by omega) (by omega))
                            have kx136 : F6 w w132 := F6.up kx122 e133
                            exact e_v X h hr hlk dX9_lookAt_302 ⟨ok135, kx136, ⟨_, _, _, _, f134, by omega, by omega, by omega, by omega⟩⟩
                          · have hc131 : ¬ 2 ≤ (L112).toInt := i_nle hc131 rfl rfl
                            refine lv_aload_n hx hb dX9_lookAt_233 rfl (lv_at hl 3 rfl) ?_
                            refine r_get kc9 X h 64 13 (by decide) rfl cf123 (by decide) kv_665 rfl dX9_lookAt_234 ?_
                            refine lv_iconst (v := 2) hx hb dX9_lookAt_237 (by decide) ?_
                            refine lv_icmp_ne (tgt := 274) hx hb dX9_lookAt_238 (by decide) (fun _ => ?_) (fun hc => absurd hc (by decide))
                            refine lv_aload_n hx hb dX9_lookAt_274 rfl (lv_at hl 3 rfl) ?_
                            refine lv_aload_n hx hb dX9_lookAt_275 rfl (lv_at hl 3 rfl) ?_
                            refine r_get kc9 X h 64 13 (by decide) rfl cf123 (by decide) kv_665 rfl dX9_lookAt_276 ?_
                            refine lv_iconst (v := 2) hx hb dX9_lookAt_279 (by decide) ?_
                            refine lv_icmp_ne (tgt := 295) hx hb dX9_lookAt_280 (by decide) (fun _ => ?_) (fun hc => absurd hc (by decide))
                            refine lv_aload_n hx hb dX9_lookAt_295 rfl (lv_at hl 3 rfl) ?_
                            refine r_get kc9 X h 64 13 (by decide) rfl cf123 (by decide) kv_665 rfl dX9_lookAt_296 ?_
                            refine r_put kc9 X hD h 64 13 (by decide) rfl cf123 (by decide) kv_665 rfl rfl rfl (Nat.le_of_ble_eq_true rfl) dX9_lookAt_299 (fun H locs w137 e138 h => ?_)
                            have f139 : w137 64 = .inr (7, [.ref (ad 65), .ref (ad 66), .ref (ad 67), .ref (ad 68), .long x, .long y, .ref (ad 69), .int mb, .ref (ad 70), .ref (ad 71), .int bl, .int C7, .int C63, .int 1, .int C114, .ref (ad 72), .ref (ad 73)]) := (congrFun e138 _).trans (va_up_self _ _ _)
                            have ok140 : OK cI cB cZ cO ad w137 := OK.up ok121 e138 (sM_mk (by omega) (by omega))
                            have kx141 : F6 w w137 := F6.up kx122 e138
                            exact e_v X h hr hlk dX9_lookAt_302 ⟨ok140, kx141, ⟨_, _, _, _, f139, by omega, by omega, by omega, by omega⟩⟩
                    exact hloop115 3 (0 : Int32) (0 : Int32) wL62 _ _ _ (by have q0 : (0 : Int32).toInt = 0 := rfl; omega) (by have q0 : (0 : Int32).toInt = 0 := rfl; omega) ok73 kx74 cf75 (by have q0 : (0 : Int32).toInt = 0 := rfl; omega) h (lv_sub hl [0, 1, 2, 3, 4] rfl)
                  · have hc111 : ¬ (bl).toInt ≤ (z110).toInt := i_nle hc111 rfl rfl
                    refine lv_aload_n hx hb dX9_lookAt_156 rfl (lv_at hl 2 rfl) ?_
                    refine r_get kc9 X h 64 9 (by decide) rfl cf75 (by decide) kv_667 rfl dX9_lookAt_157 ?_
                    refine lv_aload_n hx hb dX9_lookAt_160 rfl (lv_at hl 2 rfl) ?_
                    refine r_get kc9 X h 64 11 (by decide) rfl cf75 (by decide) kv_663 rfl dX9_lookAt_161 ?_
                    refine lv_aload_n hx hb dX9_lookAt_164 rfl (lv_at hl 2 rfl) ?_
                    refine r_get kc9 X h 64 12 (by decide) rfl cf75 (by decide) kv_664 rfl dX9_lookAt_165 ?_
                    obtain ⟨z144, e142, t143⟩ := x_add (x := C7) (y := C63) (a := (C7).toInt) (b := (C63).toInt) rfl rfl (by omega) (by omega)
                    refine o_iadd (z := z144) hx hb dX9_lookAt_168 e142 ?_
                    obtain ⟨g146, f145, p147⟩ := (show sA cI 150 (anyA) (wL62 71) from ok73 71 (by decide))
                    have f148 : wL62 71 = .inl (cI, 150, .inl g146) := f145
                    obtain ⟨v149, e150⟩ : ∃ z : Int32, g146 (z144).toNatClampNeg = z := ⟨_, rfl⟩
                    refine o_iald (v := v149) X h 71 0 (by decide) rfl f148 rfl (in_of (by omega) (by omega)) e150 dX9_lookAt_169 ?_
                    refine lv_istore (lv' := [(4, .int v149), (3, .int L61), (2, .int v41), (0, .ref (ad 64)), (1, .int n)]) hx hb dX9_lookAt_170 hl (by decide) rfl (fun ls hl => ?_)
                    refine lv_aload_n hx hb dX9_lookAt_172 rfl (lv_at hl 3 rfl) ?_
                    refine r_get kc9 X h 64 13 (by decide) rfl cf75 (by decide) kv_665 rfl dX9_lookAt_173 ?_
                    refine lv_iconst (v := 1) hx hb dX9_lookAt_176 (by decide) ?_
                    refine lv_icmp_ne (tgt := 188) hx hb dX9_lookAt_177 (by decide) (fun hc => absurd (by decide) hc) (fun _ => ?_)
                    refine lv_iload hx hb dX9_lookAt_180 (lv_at hl 0 rfl) ?_
                    refine n_Si (na := 1) (As := [.int v149]) (rest := []) X hD hN h (c_M_isSmall l G cI cB cZ cO ad wL62   v149  ) ⟨kv_668, kv_669, kv_470, kv_670⟩ ⟨by decide, by decide, by decide⟩ ⟨Nat.le_of_ble_eq_true rfl, Nat.le_of_ble_eq_true rfl⟩ ⟨Nat.zero_le _, Nat.zero_le _⟩ rfl hl.1 rfl (Nat.le_of_ble_eq_true rfl) dX9_lookAt_182 (fun r152 w153 H locs hp154 h => ?_)
                    obtain ⟨rfl, hr155⟩ := hp154
                    rcases hr155 with ⟨hq156, hq157, rfl⟩ | ⟨hq158, rfl⟩
                    · refine lv_goto (tgt := 193) hx hb dX9_lookAt_185 (by decide) ?_
                      refine lv_istore_n (lv' := [(3, .int 1), (4, .int v149), (2, .int v41), (0, .ref (ad 64)), (1, .int n)]) hx hb dX9_lookAt_193 rfl hl (by decide) rfl (fun ls hl => ?_)
                      refine lv_aload_n hx hb dX9_lookAt_194 rfl (lv_at hl 3 rfl) ?_
                      refine lv_dup hx hb dX9_lookAt_195 rfl ?_
                      refine r_get kc9 X h 64 12 (by decide) rfl cf75 (by decide) kv_664 rfl dX9_lookAt_196 ?_
                      refine lv_iload_n hx hb dX9_lookAt_199 rfl (lv_at hl 0 rfl) ?_
                      refine lv_if_eq (tgt := 207) hx hb dX9_lookAt_200 (by decide) (fun hc => absurd hc (by decide)) (fun _ => ?_)
                      refine lv_iconst (v := 1) hx hb dX9_lookAt_203 (by decide) ?_
                      refine lv_goto (tgt := 208) hx hb dX9_lookAt_204 (by decide) ?_
                      obtain ⟨z161, e159, t160⟩ := x_add (x := C63) (y := (1 : Int32)) (a := (C63).toInt) (b := 1) rfl rfl (by omega) (by omega)
                      refine o_iadd (z := z161) hx hb dX9_lookAt_208 e159 ?_
                      refine r_put kc9 X hD h 64 12 (by decide) rfl cf75 (by decide) kv_664 rfl rfl rfl (Nat.le_of_ble_eq_true rfl) dX9_lookAt_209 (fun H locs w162 e163 h => ?_)
                      have f164 : w162 64 = .inr (7, [.ref (ad 65), .ref (ad 66), .ref (ad 67), .ref (ad 68), .long x, .long y, .ref (ad 69), .int mb, .ref (ad 70), .ref (ad 71), .int bl, .int C7, .int z161, .int 1, .int 0, .ref (ad 72), .ref (ad 73)]) := (congrFun e163 _).trans (va_up_self _ _ _)
                      have ok165 : OK cI cB cZ cO ad w162 := OK.up ok73 e163 (sM_mk (by omega) (by omega))
                      have kx166 : F6 w w162 := F6.up kx74 e163
                      refine lv_goto (tgt := 136) hx hb dX9_lookAt_212 (by decide) ?_
                      exact ih66  (1 : Int32) z161 w162 _ _ _ (by have q0 : (1 : Int32).toInt = 1 := rfl; omega) (by have q0 : (1 : Int32).toInt = 1 := rfl; omega) (by have q0 : (1 : Int32).toInt = 1 := rfl; omega) (by have q0 : (1 : Int32).toInt = 1 := rfl; omega) (by have q0 : (1 : Int32).toInt = 1 := rfl; omega) ok165 kx166 f164 (by have q0 : (1 : Int32).toInt = 1 := rfl; omega) h (lv_sub hl [0, 2, 3, 4] rfl)
                    · refine lv_goto (tgt := 193) hx hb dX9_lookAt_185 (by decide) ?_
                      refine lv_istore_n (lv' := [(3, .int 0), (4, .int v149), (2, .int v41), (0, .ref (ad 64)), (1, .int n)]) hx hb dX9_lookAt_193 rfl hl (by decide) rfl (fun ls hl => ?_)
                      refine lv_aload_n hx hb dX9_lookAt_194 rfl (lv_at hl 3 rfl) ?_
                      refine lv_dup hx hb dX9_lookAt_195 rfl ?_
                      refine r_get kc9 X h 64 12 (by decide) rfl cf75 (by decide) kv_664 rfl dX9_lookAt_196 ?_
                      refine lv_iload_n hx hb dX9_lookAt_199 rfl (lv_at hl 0 rfl) ?_
                      refine lv_if_eq (tgt := 207) hx hb dX9_lookAt_200 (by decide) (fun _ => ?_) (fun hc => absurd (by decide) hc)
                      refine lv_iconst (v := 0) hx hb dX9_lookAt_207 (by decide) ?_
                      obtain ⟨z169, e167, t168⟩ := x_add (x := C63) (y := (0 : Int32)) (a := (C63).toInt) (b := 0) rfl rfl (by omega) (by omega)
                      refine o_iadd (z := z169) hx hb dX9_lookAt_208 e167 ?_
                      refine r_put kc9 X hD h 64 12 (by decide) rfl cf75 (by decide) kv_664 rfl rfl rfl (Nat.le_of_ble_eq_true rfl) dX9_lookAt_209 (fun H locs w170 e171 h => ?_)
                      have f172 : w170 64 = .inr (7, [.ref (ad 65), .ref (ad 66), .ref (ad 67), .ref (ad 68), .long x, .long y, .ref (ad 69), .int mb, .ref (ad 70), .ref (ad 71), .int bl, .int C7, .int z169, .int 1, .int 0, .ref (ad 72), .ref (ad 73)]) := (congrFun e171 _).trans (va_up_self _ _ _)
                      have ok173 : OK cI cB cZ cO ad w170 := OK.up ok73 e171 (sM_mk (by omega) (by omega))
                      have kx174 : F6 w w170 := F6.up kx74 e171
                      refine lv_goto (tgt := 136) hx hb dX9_lookAt_212 (by decide) ?_
                      exact ih66  (0 : Int32) z169 w170 _ _ _ (by have q0 : (0 : Int32).toInt = 0 := rfl; omega) (by have q0 : (0 : Int32).toInt = 0 := rfl; omega) (by have q0 : (0 : Int32).toInt = 0 := rfl; omega) (by have q0 : (0 : Int32).toInt = 0 := rfl; omega) (by have q0 : (0 : Int32).toInt = 0 := rfl; omega) ok173 kx174 f172 (by have q0 : (0 : Int32).toInt = 0 := rfl; omega) h (lv_sub hl [0, 2, 3, 4] rfl)
            exact hloop64 152 (1 : Int32) (1 : Int32) w56 _ _ _ (by have q0 : (1 : Int32).toInt = 1 := rfl; omega) (by have q0 : (1 : Int32).toInt = 1 := rfl; omega) (by have q0 : (1 : Int32).toInt = 1 := rfl; omega) (by have q0 : (1 : Int32).toInt = 1 := rfl; omega) (by have q0 : (1 : Int32).toInt = 1 := rfl; omega) ok59 kx60 f58 (by have q0 : (1 : Int32).toInt = 1 := rfl; omega) h (lv_sub hl [0, 1, 2, 3] rfl)
          · refine lv_if_eq (tgt := 92) hx hb dX9_lookAt_85 (by decide) (fun _ => ?_) (fun hc => absurd (by decide) hc)
            refine lv_iload_n hx hb dX9_lookAt_92 rfl (lv_at hl 0 rfl) ?_
            refine n_Si (na := 1) (As := [.int v41]) (rest := [.ref (ad 64)]) X hD hN h (c_M_isFigure l G cI cB cZ cO ad w31   v41  ) ⟨kv_671, kv_672, kv_470, kv_673⟩ ⟨by decide, by decide, by decide⟩ ⟨Nat.le_of_ble_eq_true rfl, Nat.le_of_ble_eq_true rfl⟩ ⟨Nat.zero_le _, Nat.zero_le _⟩ rfl hl.1 rfl (Nat.le_of_ble_eq_true rfl) dX9_lookAt_93 (fun r175 w176 H locs hp177 h => ?_)
            obtain ⟨rfl, hr178⟩ := hp177
            rcases hr178 with ⟨hq179, hq180, rfl⟩ | ⟨hq181, rfl⟩
            · refine lv_if_eq (tgt := 103) hx hb dX9_lookAt_96 (by decide) (fun hc => absurd hc (by decide)) (fun _ => ?_)
              refine lv_iconst (v := 2) hx hb dX9_lookAt_99 (by decide) ?_
              refine lv_goto (tgt := 114) hx hb dX9_lookAt_100 (by decide) ?_
              refine r_put kc9 X hD h 64 13 (by decide) rfl f33 (by decide) kv_665 rfl rfl rfl (Nat.le_of_ble_eq_true rfl) dX9_lookAt_114 (fun H locs w182 e183 h => ?_)
              have f184 : w182 64 = .inr (7, [.ref (ad 65), .ref (ad 66), .ref (ad 67), .ref (ad 68), .long x, .long y, .ref (ad 69), .int mb, .ref (ad 70), .ref (ad 71), .int bl, .int C7, .int 0, .int 2, .int 0, .ref (ad 72), .ref (ad 73)]) := (congrFun e183 _).trans (va_up_self _ _ _)
              have ok185 : OK cI cB cZ cO ad w182 := OK.up ok34 e183 (sM_mk (by omega) (by omega))
              have kx186 : F6 w w182 := F6.up kx35 e183
              refine lv_aload_n hx hb dX9_lookAt_117 rfl (lv_at hl 1 rfl) ?_
              refine lv_iconst (v := 1) hx hb dX9_lookAt_118 (by decide) ?_
              refine r_put kc9 X hD h 64 12 (by decide) rfl f184 (by decide) kv_664 rfl rfl rfl (Nat.le_of_ble_eq_true rfl) dX9_lookAt_119 (fun H locs w187 e188 h => ?_)
              have f189 : w187 64 = .inr (7, [.ref (ad 65), .ref (ad 66), .ref (ad 67), .ref (ad 68), .long x, .long y, .ref (ad 69), .int mb, .ref (ad 70), .ref (ad 71), .int bl, .int C7, .int 1, .int 2, .int 0, .ref (ad 72), .ref (ad 73)]) := (congrFun e188 _).trans (va_up_self _ _ _)
              have ok190 : OK cI cB cZ cO ad w187 := OK.up ok185 e188 (sM_mk (by omega) (by omega))
              have kx191 : F6 w w187 := F6.up kx186 e188
              refine lv_aload_n hx hb dX9_lookAt_122 rfl (lv_at hl 1 rfl) ?_
              refine r_get kc9 X h 64 13 (by decide) rfl f189 (by decide) kv_665 rfl dX9_lookAt_123 ?_
              refine lv_iconst (v := 3) hx hb dX9_lookAt_126 (by decide) ?_
              refine lv_icmp_ge (tgt := 134) hx hb dX9_lookAt_127 (by decide) (fun hc => absurd hc (by decide)) (fun _ => ?_)
              refine lv_iconst (v := 1) hx hb dX9_lookAt_130 (by decide) ?_
              refine lv_goto (tgt := 135) hx hb dX9_lookAt_131 (by decide) ?_
              refine lv_istore_n (lv' := [(3, .int 1), (2, .int v41), (0, .ref (ad 64)), (1, .int n)]) hx hb dX9_lookAt_135 rfl hl (by decide) rfl (fun ls hl => ?_)
              have hloop195 : ∀ (d196 : Nat) (L192 : Int32) (C194 : Int32) (wL193 : Nat → va_E) (H : Heap) (locs : List Loc) (ls : Array Slot), 0 ≤ L192.toInt → L192.toInt ≤ 1 → C7.toInt + C194.toInt ≤ bl.toInt → 1 ≤ C194.toInt → C194.toInt ≤ 150 → OK cI cB cZ cO ad wL193 → F6 w wL193 → wL193 64 = .inr (7, [.ref (ad 65), .ref (ad 66), .ref (ad 67), .ref (ad 68), .long x, .long y, .ref (ad 69), .int mb, .ref (ad 70), .ref (ad 71), .int bl, .int C7, .int C194, .int 2, .int 0, .ref (ad 72), .ref (ad 73)]) → bl.toInt - C7.toInt - C194.toInt + L192.toInt < (d196 : Int) → St G 74 ad (wA 74 ad s.heap.size) s.heap wL193 H locs → lv_has ls 5 [(3, .int L192), (2, .int v41), (0, .ref (ad 64)), (1, .int n)] → W p l e { frames := 2, cells := 0, slots := 0, locals := 45 } s m [.ref (ad 64), .int n].toArray below meth c H locs 0 0 (MQ below (va_Qv (fun w1 => OK cI cB cZ cO ad w1 ∧ F6 w w1 ∧ ∃ ta1 tl1 tk1 va1 : Int32, w1 64 = .inr (7, [.ref (ad 65), .ref (ad 66), .ref (ad 67), .ref (ad 68), .long x, .long y, .ref (ad 69), .int mb, .ref (ad 70), .ref (ad 71), .int bl, .int ta1, .int tl1, .int tk1, .int va1, .ref (ad 72), .ref (ad 73)]) ∧ n.toInt ≤ ta1.toInt ∧ 0 ≤ tl1.toInt ∧ ta1.toInt + tl1.toInt ≤ bl.toInt ∧ (tk1.toInt = 0 ∨ 1 ≤ tl1.toInt)) (Aft G 74 ad) (wA 74 ad s.heap.size)) [.ref (ad 64), .int n].toArray s 0 0 (wA 74 ad s.heap.size)) (F0 m 136 ls []) := by
                intro d196
                induction d196 with
                | zero => intro L192 C194 wL193 H locs ls hi199 hi200 hi201 hi202 hi203 ok204 kx205 cf206 hm198 h hl; exfalso; omega
                | succ d196 ih197 =>
                  intro L192 C194 wL193 H locs ls hi199 hi200 hi201 hi202 hi203 ok204 kx205 cf206 hm198 h hl
                  refine lv_iload_n hx hb dX9_lookAt_136 rfl (lv_at hl 0 rfl) ?_
                  refine lv_if_eq (tgt := 215) hx hb dX9_lookAt_137 (by decide) (fun hc208 => ?_) (fun hc208 => ?_)
                  · have hc208 : (L192).toInt = 0 := i_eq hc208 rfl rfl
                    refine lv_iconst (v := 0) hx hb dX9_lookAt_215 (by decide) ?_
                    refine lv_istore (lv' := [(4, .int 0), (3, .int L192), (2, .int v41), (0, .ref (ad 64)), (1, .int n)]) hx hb dX9_lookAt_216 hl (by decide) rfl (fun ls hl => ?_)
                    have hloop212 : ∀ (d213 : Nat) (L209 : Int32) (C211 : Int32) (wL210 : Nat → va_E) (H : Heap) (locs : List Loc) (ls : Array Slot), 0 ≤ L209.toInt → L209.toInt ≤ 2 → OK cI cB cZ cO ad wL210 → F6 w wL210 → wL210 64 = .inr (7, [.ref (ad 65), .ref (ad 66), .ref (ad 67), .ref (ad 68), .long x, .long y, .ref (ad 69), .int mb, .ref (ad 70), .ref (ad 71), .int bl, .int C7, .int C194, .int 2, .int C211, .ref (ad 72), .ref (ad 73)]) → 2 - L209.toInt < (d213 : Int) → St G 74 ad (wA 74 ad s.heap.size) s.heap wL210 H locs → lv_has ls 5 [(4, .int L209), (3, .int L192), (2, .int v41), (0, .ref (ad 64)), (1, .int n)] → W p l e { frames := 2, cells := 0, slots := 0, locals := 45 } s m [.ref (ad 64), .int n].toArray below meth c H locs 0 0 (MQ below (va_Qv (fun w1 => OK cI cB cZ cO ad w1 ∧ F6 w w1 ∧ ∃ ta1 tl1 tk1 va1 : Int32, w1 64 = .inr (7, [.ref (ad 65), .ref (ad 66), .ref (ad 67), .ref (ad 68), .long x, .long y, .ref (ad 69), .int mb, .ref (ad 70), .ref (ad 71), .int bl, .int ta1, .int tl1, .int tk1, .int va1, .ref (ad 72), .ref (ad 73)]) ∧ n.toInt ≤ ta1.toInt ∧ 0 ≤ tl1.toInt ∧ ta1.toInt + tl1.toInt ≤ bl.toInt ∧ (tk1.toInt = 0 ∨ 1 ≤ tl1.toInt)) (Aft G 74 ad) (wA 74 ad s.heap.size)) [.ref (ad 64), .int n].toArray s 0 0 (wA 74 ad s.heap.size)) (F0 m 218 ls []) := by
                      intro d213
                      induction d213 with
                      | zero => intro L209 C211 wL210 H locs ls hi216 hi217 ok218 kx219 cf220 hm215 h hl; exfalso; omega
                      | succ d213 ih214 =>
                        intro L209 C211 wL210 H locs ls hi216 hi217 ok218 kx219 cf220 hm215 h hl
                        refine lv_iload hx hb dX9_lookAt_218 (lv_at hl 0 rfl) ?_
                        refine lv_aload_n hx hb dX9_lookAt_220 rfl (lv_at hl 3 rfl) ?_
                        refine r_get kc9 X h 64 12 (by decide) rfl cf220 (by decide) kv_664 rfl dX9_lookAt_221 ?_
                        refine lv_icmp_ge (tgt := 274) hx hb dX9_lookAt_224 (by decide) (fun hc222 => ?_) (fun hc222 => ?_)
                        · have hc222 : (C194).toInt ≤ (L209).toInt := i_le hc222 rfl rfl
                          refine lv_aload_n hx hb dX9_lookAt_274 rfl (lv_at hl 3 rfl) ?_
                          refine lv_aload_n hx hb dX9_lookAt_275 rfl (lv_at hl 3 rfl) ?_
                          refine r_get kc9 X h 64 13 (by decide) rfl cf220 (by decide) kv_665 rfl dX9_lookAt_276 ?_
                          refine lv_iconst (v := 2) hx hb dX9_lookAt_279 (by decide) ?_
                          refine lv_icmp_ne (tgt := 295) hx hb dX9_lookAt_280 (by decide) (fun hc => absurd (by decide) hc) (fun _ => ?_)
                          refine lv_aload_n hx hb dX9_lookAt_283 rfl (lv_at hl 3 rfl) ?_
                          refine r_get kc9 X h 64 12 (by decide) rfl cf220 (by decide) kv_664 rfl dX9_lookAt_284 ?_
                          refine lv_iconst (v := 2) hx hb dX9_lookAt_287 (by decide) ?_
                          refine lv_icmp_le (tgt := 295) hx hb dX9_lookAt_288 (by decide) (fun hc223 => ?_) (fun hc223 => ?_)
                          · have hc223 : (C194).toInt ≤ 2 := i_le hc223 rfl rfl
                            refine lv_aload_n hx hb dX9_lookAt_295 rfl (lv_at hl 3 rfl) ?_
                            refine r_get kc9 X h 64 13 (by decide) rfl cf220 (by decide) kv_665 rfl dX9_lookAt_296 ?_
                            refine r_put kc9 X hD h 64 13 (by decide) rfl cf220 (by decide) kv_665 rfl rfl rfl (Nat.le_of_ble_eq_true rfl) dX9_lookAt_299 (fun H locs w224 e225 h => ?_)
                            have f226 : w224 64 = .inr (7, [.ref (ad 65), .ref (ad 66), .ref (ad 67), .ref (ad 68), .long x, .long y, .ref (ad 69), .int mb, .ref (ad 70), .ref (ad 71), .int bl, .int C7, .int C194, .int 2, .int C211, .ref (ad 72), .ref (ad 73)]) := (congrFun e225 _).trans (va_up_self _ _ _)
                            have ok227 : OK cI cB cZ cO ad w224 := OK.up ok218 e225 (sM_mk (by omega) (by omega))
                            have kx228 : F6 w w224 := F6.up kx219 e225
                            exact e_v X h hr hlk dX9_lookAt_302 ⟨ok227, kx228, ⟨_, _, _, _, f226, by omega, by omega, by omega, by omega⟩⟩
                          · have hc223 : ¬ (C194).toInt ≤ 2 := i_nle hc223 rfl rfl
                            exfalso; omega
                        · have hc222 : ¬ (C194).toInt ≤ (L209).toInt := i_nle hc222 rfl rfl
                          refine lv_iload hx hb dX9_lookAt_227 (lv_at hl 0 rfl) ?_
                          refine lv_iconst (v := 2) hx hb dX9_lookAt_229 (by decide) ?_
                          refine lv_icmp_ge (tgt := 274) hx hb dX9_lookAt_230 (by decide) (fun hc229 => ?_) (fun hc229 => ?_)
                          · have hc229 : 2 ≤ (L209).toInt := i_le hc229 rfl rfl
                            refine lv_aload_n hx hb dX9_lookAt_274 rfl (lv_at hl 3 rfl) ?_
                            refine lv_aload_n hx hb dX9_lookAt_275 rfl (lv_at hl 3 rfl) ?_
                            refine r_get kc9 X h 64 13 (by decide) rfl cf220 (by decide) kv_665 rfl dX9_lookAt_276 ?_
                            refine lv_iconst (v := 2) hx hb dX9_lookAt_279 (by decide) ?_
                            refine lv_icmp_ne (tgt := 295) hx hb dX9_lookAt_280 (by decide) (fun hc => absurd (by decide) hc) (fun _ => ?_)
                            refine lv_aload_n hx hb dX9_lookAt_283 rfl (lv_at hl 3 rfl) ?_
                            refine r_get kc9 X h 64 12 (by decide) rfl cf220 (by decide) kv_664 rfl dX9_lookAt_284 ?_
                            refine lv_iconst (v := 2) hx hb dX9_lookAt_287 (by decide) ?_
                            refine lv_icmp_le (tgt := 295) hx hb dX9_lookAt_288 (by decide) (fun hc230 => ?_) (fun hc230 => ?_)
                            · have hc230 : (C194).toInt ≤ 2 := i_le hc230 rfl rfl
                              refine lv_aload_n hx hb dX9_lookAt_295 rfl (lv_at hl 3 rfl) ?_
                              refine r_get kc9 X h 64 13 (by decide) rfl cf220 (by decide) kv_665 rfl dX9_lookAt_296 ?_
                              refine r_put kc9 X hD h 64 13 (by decide) rfl cf220 (by decide) kv_665 rfl rfl rfl (Nat.le_of_ble_eq_true rfl) dX9_lookAt_299 (fun H locs w231 e232 h => ?_)
                              have f233 : w231 64 = .inr (7, [.ref (ad 65), .ref (ad 66), .ref (ad 67), .ref (ad 68), .long x, .long y, .ref (ad 69), .int mb, .ref (ad 70), .ref (ad 71), .int bl, .int C7, .int C194, .int 2, .int C211, .ref (ad 72), .ref (ad 73)]) := (congrFun e232 _).trans (va_up_self _ _ _)
                              have ok234 : OK cI cB cZ cO ad w231 := OK.up ok218 e232 (sM_mk (by omega) (by omega))
                              have kx235 : F6 w w231 := F6.up kx219 e232
                              exact e_v X h hr hlk dX9_lookAt_302 ⟨ok234, kx235, ⟨_, _, _, _, f233, by omega, by omega, by omega, by omega⟩⟩
                            · have hc230 : ¬ (C194).toInt ≤ 2 := i_nle hc230 rfl rfl
                              refine lv_iconst (v := 4) hx hb dX9_lookAt_291 (by decide) ?_
                              refine lv_goto (tgt := 299) hx hb dX9_lookAt_292 (by decide) ?_
                              refine r_put kc9 X hD h 64 13 (by decide) rfl cf220 (by decide) kv_665 rfl rfl rfl (Nat.le_of_ble_eq_true rfl) dX9_lookAt_299 (fun H locs w236 e237 h => ?_)
                              have f238 : w236 64 = .inr (7, [.ref (ad 65), .ref (ad 66), .ref (ad 67), .ref (ad 68), .long x, .long y, .ref (ad 69), .int mb, .ref (ad 70), .ref (ad 71), .int bl, .int C7, .int C194, .int 4, .int C211, .ref (ad 72), .ref (ad 73)]) := (congrFun e237 _).trans (va_up_self _ _ _)
                              have ok239 : OK cI cB cZ cO ad w236 := OK.up ok218 e237 (sM_mk (by omega) (by omega))
                              have kx240 : F6 w w236 := F6.up kx219 e237
                              exact e_v X h hr hlk dX9_lookAt_302 ⟨ok239, kx240, ⟨_, _, _, _, f238, by omega, by omega, by omega, by omega⟩⟩
                          · have hc229 : ¬ 2 ≤ (L209).toInt := i_nle hc229 rfl rfl
                            refine lv_aload_n hx hb dX9_lookAt_233 rfl (lv_at hl 3 rfl) ?_
                            refine r_get kc9 X h 64 13 (by decide) rfl cf220 (by decide) kv_665 rfl dX9_lookAt_234 ?_
                            refine lv_iconst (v := 2) hx hb dX9_lookAt_237 (by decide) ?_
                            refine lv_icmp_ne (tgt := 274) hx hb dX9_lookAt_238 (by decide) (fun hc => absurd (by decide) hc) (fun _ => ?_)
                            refine lv_aload_n hx hb dX9_lookAt_241 rfl (lv_at hl 3 rfl) ?_
                            refine lv_bipush (v := 10) hx hb dX9_lookAt_242 (by decide) ?_
                            refine lv_aload_n hx hb dX9_lookAt_244 rfl (lv_at hl 3 rfl) ?_
                            refine r_get kc9 X h 64 14 (by decide) rfl cf220 (by decide) kv_666 rfl dX9_lookAt_245 ?_
                            obtain ⟨z243, e241⟩ : ∃ z : Int32, (10 : Int32) * C211 = z := ⟨_, rfl⟩
                            refine o_imul (z := z243) hx hb dX9_lookAt_248 e241 ?_
                            refine lv_aload_n hx hb dX9_lookAt_249 rfl (lv_at hl 3 rfl) ?_
                            refine r_get kc9 X h 64 9 (by decide) rfl cf220 (by decide) kv_667 rfl dX9_lookAt_250 ?_
                            refine lv_aload_n hx hb dX9_lookAt_253 rfl (lv_at hl 3 rfl) ?_
                            refine r_get kc9 X h 64 11 (by decide) rfl cf220 (by decide) kv_663 rfl dX9_lookAt_254 ?_
                            refine lv_iload hx hb dX9_lookAt_257 (lv_at hl 0 rfl) ?_
                            obtain ⟨z246, e244, t245⟩ := x_add (x := C7) (y := L209) (a := (C7).toInt) (b := (L209).toInt) rfl rfl (by omega) (by omega)
                            refine o_iadd (z := z246) hx hb dX9_lookAt_259 e244 ?_
                            obtain ⟨g248, f247, p249⟩ := (show sA cI 150 (anyA) (wL210 71) from ok218 71 (by decide))
                            have f250 : wL210 71 = .inl (cI, 150, .inl g248) := f247
                            obtain ⟨v251, e252⟩ : ∃ z : Int32, g248 (z246).toNatClampNeg = z := ⟨_, rfl⟩
                            refine o_iald (v := v251) X h 71 0 (by decide) rfl f250 rfl (in_of (by omega) (by omega)) e252 dX9_lookAt_260 ?_
                            obtain ⟨z256, e254⟩ : ∃ z : Int32, z243 + v251 = z := ⟨_, rfl⟩
                            refine o_iadd (z := z256) hx hb dX9_lookAt_261 e254 ?_
                            refine lv_bipush (v := 48) hx hb dX9_lookAt_262 (by decide) ?_
                            obtain ⟨z259, e257⟩ : ∃ z : Int32, z256 - (48 : Int32) = z := ⟨_, rfl⟩
                            refine o_isub (z := z259) hx hb dX9_lookAt_264 e257 ?_
                            refine r_put kc9 X hD h 64 14 (by decide) rfl cf220 (by decide) kv_666 rfl rfl rfl (Nat.le_of_ble_eq_true rfl) dX9_lookAt_265 (fun H locs w260 e261 h => ?_)
                            have f262 : w260 64 = .inr (7, [.ref (ad 65), .ref (ad 66), .ref (ad 67), .ref (ad 68), .long x, .long y, .ref (ad 69), .int mb, .ref (ad 70), .ref (ad 71), .int bl, .int C7, .int C194, .int 2, .int z259, .ref (ad 72), .ref (ad 73)]) := (congrFun e261 _).trans (va_up_self _ _ _)
                            have ok263 : OK cI cB cZ cO ad w260 := OK.up ok218 e261 (sM_mk (by omega) (by omega))
                            have kx264 : F6 w w260 := F6.up kx219 e261
                            obtain ⟨z265, e266, t267⟩ := x_add (x := L209) (y := 1) (a := L209.toInt) (b := 1) rfl rfl (by omega) (by omega)
                            refine lv_iinc (v := z265) (lv' := [(4, .int z265), (3, .int L192), (2, .int v41), (0, .ref (ad 64)), (1, .int n)]) hx hb dX9_lookAt_268 hl (k := 0) rfl e266 (by decide) rfl (fun ls hl => ?_)
                            refine lv_goto (tgt := 218) hx hb dX9_lookAt_271 (by decide) ?_
                            exact ih214  z265 z259 w260 _ _ _ (by omega) (by omega) ok263 kx264 f262 (by omega) h (lv_sub hl [0, 1, 2, 3, 4] rfl)
                    exact hloop212 3 (0 : Int32) (0 : Int32) wL193 _ _ _ (by have q0 : (0 : Int32).toInt = 0 := rfl; omega) (by have q0 : (0 : Int32).toInt = 0 := rfl; omega) ok204 kx205 cf206 (by have q0 : (0 : Int32).toInt = 0 := rfl; omega) h (lv_sub hl [0, 1, 2, 3, 4] rfl)
                  · have hc208 : ¬ (L192).toInt = 0 := i_ne hc208 rfl rfl
                    refine lv_aload_n hx hb dX9_lookAt_140 rfl (lv_at hl 2 rfl) ?_
                    refine r_get kc9 X h 64 11 (by decide) rfl cf206 (by decide) kv_663 rfl dX9_lookAt_141 ?_
                    refine lv_aload_n hx hb dX9_lookAt_144 rfl (lv_at hl 2 rfl) ?_
                    refine r_get kc9 X h 64 12 (by decide) rfl cf206 (by decide) kv_664 rfl dX9_lookAt_145 ?_
                    obtain ⟨z270, e268, t269⟩ := x_add (x := C7) (y := C194) (a := (C7).toInt) (b := (C194).toInt) rfl rfl (by omega) (by omega)
                    refine o_iadd (z := z270) hx hb dX9_lookAt_148 e268 ?_
                    refine lv_aload_n hx hb dX9_lookAt_149 rfl (lv_at hl 2 rfl) ?_
                    refine r_get kc9 X h 64 10 (by decide) rfl cf206 (by decide) kv_539 rfl dX9_lookAt_150 ?_
                    refine lv_icmp_ge (tgt := 215) hx hb dX9_lookAt_153 (by decide) (fun hc271 => ?_) (fun hc271 => ?_)
                    · have hc271 : (bl).toInt ≤ (z270).toInt := i_le hc271 rfl rfl
                      refine lv_iconst (v := 0) hx hb dX9_lookAt_215 (by decide) ?_
                      refine lv_istore (lv' := [(4, .int 0), (3, .int L192), (2, .int v41), (0, .ref (ad 64)), (1, .int n)]) hx hb dX9_lookAt_216 hl (by decide) rfl (fun ls hl => ?_)
                      have hloop275 : ∀ (d276 : Nat) (L272 : Int32) (C274 : Int32) (wL273 : Nat → va_E) (H : Heap) (locs : List Loc) (ls : Array Slot), 0 ≤ L272.toInt → L272.toInt ≤ 2 → OK cI cB cZ cO ad wL273 → F6 w wL273 → wL273 64 = .inr (7, [.ref (ad 65), .ref (ad 66), .ref (ad 67), .ref (ad 68), .long x, .long y, .ref (ad 69), .int mb, .ref (ad 70), .ref (ad 71), .int bl, .int C7, .int C194, .int 2, .int C274, .ref (ad 72), .ref (ad 73)]) → 2 - L272.toInt < (d276 : Int) → St G 74 ad (wA 74 ad s.heap.size) s.heap wL273 H locs → lv_has ls 5 [(4, .int L272), (3, .int L192), (2, .int v41), (0, .ref (ad 64)), (1, .int n)] → W p l e { frames := 2, cells := 0, slots := 0, locals := 45 } s m [.ref (ad 64), .int n].toArray below meth c H locs 0 0 (MQ below (va_Qv (fun w1 => OK cI cB cZ cO ad w1 ∧ F6 w w1 ∧ ∃ ta1 tl1 tk1 va1 : Int32, w1 64 = .inr (7, [.ref (ad 65), .ref (ad 66), .ref (ad 67), .ref (ad 68), .long x, .long y, .ref (ad 69), .int mb, .ref (ad 70), .ref (ad 71), .int bl, .int ta1, .int tl1, .int tk1, .int va1, .ref (ad 72), .ref (ad 73)]) ∧ n.toInt ≤ ta1.toInt ∧ 0 ≤ tl1.toInt ∧ ta1.toInt + tl1.toInt ≤ bl.toInt ∧ (tk1.toInt = 0 ∨ 1 ≤ tl1.toInt)) (Aft G 74 ad) (wA 74 ad s.heap.size)) [.ref (ad 64), .int n].toArray s 0 0 (wA 74 ad s.heap.size)) (F0 m 218 ls []) := by
                        intro d276
                        induction d276 with
                        | zero => intro L272 C274 wL273 H locs ls hi279 hi280 ok281 kx282 cf283 hm278 h hl; exfalso; omega
                        | succ d276 ih277 =>
                          intro L272 C274 wL273 H locs ls hi279 hi280 ok281 kx282 cf283 hm278 h hl
                          refine lv_iload hx hb dX9_lookAt_218 (lv_at hl 0 rfl) ?_
                          refine lv_aload_n hx hb dX9_lookAt_220 rfl (lv_at hl 3 rfl) ?_
                          refine r_get kc9 X h 64 12 (by decide) rfl cf283 (by decide) kv_664 rfl dX9_lookAt_221 ?_
                          refine lv_icmp_ge (tgt := 274) hx hb dX9_lookAt_224 (by decide) (fun hc285 => ?_) (fun hc285 => ?_)
                          · have hc285 : (C194).toInt ≤ (L272).toInt := i_le hc285 rfl rfl
                            refine lv_aload_n hx hb dX9_lookAt_274 rfl (lv_at hl 3 rfl) ?_
                            refine lv_aload_n hx hb dX9_lookAt_275 rfl (lv_at hl 3 rfl) ?_
                            refine r_get kc9 X h 64 13 (by decide) rfl cf283 (by decide) kv_665 rfl dX9_lookAt_276 ?_
                            refine lv_iconst (v := 2) hx hb dX9_lookAt_279 (by decide) ?_
                            refine lv_icmp_ne (tgt := 295) hx hb dX9_lookAt_280 (by decide) (fun hc => absurd (by decide) hc) (fun _ => ?_)
                            refine lv_aload_n hx hb dX9_lookAt_283 rfl (lv_at hl 3 rfl) ?_
                            refine r_get kc9 X h 64 12 (by decide) rfl cf283 (by decide) kv_664 rfl dX9_lookAt_284 ?_
                            refine lv_iconst (v := 2) hx hb dX9_lookAt_287 (by decide) ?_
                            refine lv_icmp_le (tgt := 295) hx hb dX9_lookAt_288 (by decide) (fun hc286 => ?_) (fun hc286 => ?_)
                            · have hc286 : (C194).toInt ≤ 2 := i_le hc286 rfl rfl
                              refine lv_aload_n hx hb dX9_lookAt_295 rfl (lv_at hl 3 rfl) ?_
                              refine r_get kc9 X h 64 13 (by decide) rfl cf283 (by decide) kv_665 rfl dX9_lookAt_296 ?_
                              refine r_put kc9 X hD h 64 13 (by decide) rfl cf283 (by decide) kv_665 rfl rfl rfl (Nat.le_of_ble_eq_true rfl) dX9_lookAt_299 (fun H locs w287 e288 h => ?_)
                              have f289 : w287 64 = .inr (7, [.ref (ad 65), .ref (ad 66), .ref (ad 67), .ref (ad 68), .long x, .long y, .ref (ad 69), .int mb, .ref (ad 70), .ref (ad 71), .int bl, .int C7, .int C194, .int 2, .int C274, .ref (ad 72), .ref (ad 73)]) := (congrFun e288 _).trans (va_up_self _ _ _)
                              have ok290 : OK cI cB cZ cO ad w287 := OK.up ok281 e288 (sM_mk (by omega) (by omega))
                              have kx291 : F6 w w287 := F6.up kx282 e288
                              exact e_v X h hr hlk dX9_lookAt_302 ⟨ok290, kx291, ⟨_, _, _, _, f289, by omega, by omega, by omega, by omega⟩⟩
                            · have hc286 : ¬ (C194).toInt ≤ 2 := i_nle hc286 rfl rfl
                              exfalso; omega
                          · have hc285 : ¬ (C194).toInt ≤ (L272).toInt := i_nle hc285 rfl rfl
                            refine lv_iload hx hb dX9_lookAt_227 (lv_at hl 0 rfl) ?_
                            refine lv_iconst (v := 2) hx hb dX9_lookAt_229 (by decide) ?_
                            refine lv_icmp_ge (tgt := 274) hx hb dX9_lookAt_230 (by decide) (fun hc292 => ?_) (fun hc292 => ?_)
                            · have hc292 : 2 ≤ (L272).toInt := i_le hc292 rfl rfl
                              refine lv_aload_n hx hb dX9_lookAt_274 rfl (lv_at hl 3 rfl) ?_
                              refine lv_aload_n hx hb dX9_lookAt_275 rfl (lv_at hl 3 rfl) ?_
                              refine r_get kc9 X h 64 13 (by decide) rfl cf283 (by decide) kv_665 rfl dX9_lookAt_276 ?_
                              refine lv_iconst (v := 2) hx hb dX9_lookAt_279 (by decide) ?_
                              refine lv_icmp_ne (tgt := 295) hx hb dX9_lookAt_280 (by decide) (fun hc => absurd (by decide) hc) (fun _ => ?_)
                              refine lv_aload_n hx hb dX9_lookAt_283 rfl (lv_at hl 3 rfl) ?_
                              refine r_get kc9 X h 64 12 (by decide) rfl cf283 (by decide) kv_664 rfl dX9_lookAt_284 ?_
                              refine lv_iconst (v := 2) hx hb dX9_lookAt_287 (by decide) ?_
                              refine lv_icmp_le (tgt := 295) hx hb dX9_lookAt_288 (by decide) (fun hc293 => ?_) (fun hc293 => ?_)
                              · have hc293 : (C194).toInt ≤ 2 := i_le hc293 rfl rfl
                                refine lv_aload_n hx hb dX9_lookAt_295 rfl (lv_at hl 3 rfl) ?_
                                refine r_get kc9 X h 64 13 (by decide) rfl cf283 (by decide) kv_665 rfl dX9_lookAt_296 ?_
                                refine r_put kc9 X hD h 64 13 (by decide) rfl cf283 (by decide) kv_665 rfl rfl rfl (Nat.le_of_ble_eq_true rfl) dX9_lookAt_299 (fun H locs w294 e295 h => ?_)
                                have f296 : w294 64 = .inr (7, [.ref (ad 65), .ref (ad 66), .ref (ad 67), .ref (ad 68), .long x, .long y, .ref (ad 69), .int mb, .ref (ad 70), .ref (ad 71), .int bl, .int C7, .int C194, .int 2, .int C274, .ref (ad 72), .ref (ad 73)]) := (congrFun e295 _).trans (va_up_self _ _ _)
                                have ok297 : OK cI cB cZ cO ad w294 := OK.up ok281 e295 (sM_mk (by omega) (by omega))
                                have kx298 : F6 w w294 := F6.up kx282 e295
                                exact e_v X h hr hlk dX9_lookAt_302 ⟨ok297, kx298, ⟨_, _, _, _, f296, by omega, by omega, by omega, by omega⟩⟩
                              · have hc293 : ¬ (C194).toInt ≤ 2 := i_nle hc293 rfl rfl
                                refine lv_iconst (v := 4) hx hb dX9_lookAt_291 (by decide) ?_
                                refine lv_goto (tgt := 299) hx hb dX9_lookAt_292 (by decide) ?_
                                refine r_put kc9 X hD h 64 13 (by decide) rfl cf283 (by decide) kv_665 rfl rfl rfl (Nat.le_of_ble_eq_true rfl) dX9_lookAt_299 (fun H locs w299 e300 h => ?_)
                                have f301 : w299 64 = .inr (7, [.ref (ad 65), .ref (ad 66), .ref (ad 67), .ref (ad 68), .long x, .long y, .ref (ad 69), .int mb, .ref (ad 70), .ref (ad 71), .int bl, .int C7, .int C194, .int 4, .int C274, .ref (ad 72), .ref (ad 73)]) := (congrFun e300 _).trans (va_up_self _ _ _)
                                have ok302 : OK cI cB cZ cO ad w299 := OK.up ok281 e300 (sM_mk (by omega) (by omega))
                                have kx303 : F6 w w299 := F6.up kx282 e300
                                exact e_v X h hr hlk dX9_lookAt_302 ⟨ok302, kx303, ⟨_, _, _, _, f301, by omega, by omega, by omega, by omega⟩⟩
                            · have hc292 : ¬ 2 ≤ (L272).toInt := i_nle hc292 rfl rfl
                              refine lv_aload_n hx hb dX9_lookAt_233 rfl (lv_at hl 3 rfl) ?_
                              refine r_get kc9 X h 64 13 (by decide) rfl cf283 (by decide) kv_665 rfl dX9_lookAt_234 ?_
                              refine lv_iconst (v := 2) hx hb dX9_lookAt_237 (by decide) ?_
                              refine lv_icmp_ne (tgt := 274) hx hb dX9_lookAt_238 (by decide) (fun hc => absurd (by decide) hc) (fun _ => ?_)
                              refine lv_aload_n hx hb dX9_lookAt_241 rfl (lv_at hl 3 rfl) ?_
                              refine lv_bipush (v := 10) hx hb dX9_lookAt_242 (by decide) ?_
                              refine lv_aload_n hx hb dX9_lookAt_244 rfl (lv_at hl 3 rfl) ?_
                              refine r_get kc9 X h 64 14 (by decide) rfl cf283 (by decide) kv_666 rfl dX9_lookAt_245 ?_
                              obtain ⟨z306, e304⟩ : ∃ z : Int32, (10 : Int32) * C274 = z := ⟨_, rfl⟩
                              refine o_imul (z := z306) hx hb dX9_lookAt_248 e304 ?_
                              refine lv_aload_n hx hb dX9_lookAt_249 rfl (lv_at hl 3 rfl) ?_
                              refine r_get kc9 X h 64 9 (by decide) rfl cf283 (by decide) kv_667 rfl dX9_lookAt_250 ?_
                              refine lv_aload_n hx hb dX9_lookAt_253 rfl (lv_at hl 3 rfl) ?_
                              refine r_get kc9 X h 64 11 (by decide) rfl cf283 (by decide) kv_663 rfl dX9_lookAt_254 ?_
                              refine lv_iload hx hb dX9_lookAt_257 (lv_at hl 0 rfl) ?_
                              obtain ⟨z309, e307, t308⟩ := x_add (x := C7) (y := L272) (a := (C7).toInt) (b := (L272).toInt) rfl rfl (by omega) (by omega)
                              refine o_iadd (z := z309) hx hb dX9_lookAt_259 e307 ?_
                              obtain ⟨g311, f310, p312⟩ := (show sA cI 150 (anyA) (wL273 71) from ok281 71 (by decide))
                              have f313 : wL273 71 = .inl (cI, 150, .inl g311) := f310
                              obtain ⟨v314, e315⟩ : ∃ z : Int32, g311 (z309).toNatClampNeg = z := ⟨_, rfl⟩
                              refine o_iald (v := v314) X h 71 0 (by decide) rfl f313 rfl (in_of (by omega) (by omega)) e315 dX9_lookAt_260 ?_
                              obtain ⟨z319, e317⟩ : ∃ z : Int32, z306 + v314 = z := ⟨_, rfl⟩
                              refine o_iadd (z := z319) hx hb dX9_lookAt_261 e317 ?_
                              refine lv_bipush (v := 48) hx hb dX9_lookAt_262 (by decide) ?_
                              obtain ⟨z322, e320⟩ : ∃ z : Int32, z319 - (48 : Int32) = z := ⟨_, rfl⟩
                              refine o_isub (z := z322) hx hb dX9_lookAt_264 e320 ?_
                              refine r_put kc9 X hD h 64 14 (by decide) rfl cf283 (by decide) kv_666 rfl rfl rfl (Nat.le_of_ble_eq_true rfl) dX9_lookAt_265 (fun H locs w323 e324 h => ?_)
                              have f325 : w323 64 = .inr (7, [.ref (ad 65), .ref (ad 66), .ref (ad 67), .ref (ad 68), .long x, .long y, .ref (ad 69), .int mb, .ref (ad 70), .ref (ad 71), .int bl, .int C7, .int C194, .int 2, .int z322, .ref (ad 72), .ref (ad 73)]) := (congrFun e324 _).trans (va_up_self _ _ _)
                              have ok326 : OK cI cB cZ cO ad w323 := OK.up ok281 e324 (sM_mk (by omega) (by omega))
                              have kx327 : F6 w w323 := F6.up kx282 e324
                              obtain ⟨z328, e329, t330⟩ := x_add (x := L272) (y := 1) (a := L272.toInt) (b := 1) rfl rfl (by omega) (by omega)
                              refine lv_iinc (v := z328) (lv' := [(4, .int z328), (3, .int L192), (2, .int v41), (0, .ref (ad 64)), (1, .int n)]) hx hb dX9_lookAt_268 hl (k := 0) rfl e329 (by decide) rfl (fun ls hl => ?_)
                              refine lv_goto (tgt := 218) hx hb dX9_lookAt_271 (by decide) ?_
                              exact ih277  z328 z322 w323 _ _ _ (by omega) (by omega) ok326 kx327 f325 (by omega) h (lv_sub hl [0, 1, 2, 3, 4] rfl)
                      exact hloop275 3 (0 : Int32) (0 : Int32) wL193 _ _ _ (by have q0 : (0 : Int32).toInt = 0 := rfl; omega) (by have q0 : (0 : Int32).toInt = 0 := rfl; omega) ok204 kx205 cf206 (by have q0 : (0 : Int32).toInt = 0 := rfl; omega) h (lv_sub hl [0, 1, 2, 3, 4] rfl)
                    · have hc271 : ¬ (bl).toInt ≤ (z270).toInt := i_nle hc271 rfl rfl
                      refine lv_aload_n hx hb dX9_lookAt_156 rfl (lv_at hl 2 rfl) ?_
                      refine r_get kc9 X h 64 9 (by decide) rfl cf206 (by decide) kv_667 rfl dX9_lookAt_157 ?_
                      refine lv_aload_n hx hb dX9_lookAt_160 rfl (lv_at hl 2 rfl) ?_
                      refine r_get kc9 X h 64 11 (by decide) rfl cf206 (by decide) kv_663 rfl dX9_lookAt_161 ?_
                      refine lv_aload_n hx hb dX9_lookAt_164 rfl (lv_at hl 2 rfl) ?_
                      refine r_get kc9 X h 64 12 (by decide) rfl cf206 (by decide) kv_664 rfl dX9_lookAt_165 ?_
                      obtain ⟨z333, e331, t332⟩ := x_add (x := C7) (y := C194) (a := (C7).toInt) (b := (C194).toInt) rfl rfl (by omega) (by omega)
                      refine o_iadd (z := z333) hx hb dX9_lookAt_168 e331 ?_
                      obtain ⟨g335, f334, p336⟩ := (show sA cI 150 (anyA) (wL193 71) from ok204 71 (by decide))
                      have f337 : wL193 71 = .inl (cI, 150, .inl g335) := f334
                      obtain ⟨v338, e339⟩ : ∃ z : Int32, g335 (z333).toNatClampNeg = z := ⟨_, rfl⟩
                      refine o_iald (v := v338) X h 71 0 (by decide) rfl f337 rfl (in_of (by omega) (by omega)) e339 dX9_lookAt_169 ?_
                      refine lv_istore (lv' := [(4, .int v338), (3, .int L192), (2, .int v41), (0, .ref (ad 64)), (1, .int n)]) hx hb dX9_lookAt_170 hl (by decide) rfl (fun ls hl => ?_)
                      refine lv_aload_n hx hb dX9_lookAt_172 rfl (lv_at hl 3 rfl) ?_
                      refine r_get kc9 X h 64 13 (by decide) rfl cf206 (by decide) kv_665 rfl dX9_lookAt_173 ?_
                      refine lv_iconst (v := 1) hx hb dX9_lookAt_176 (by decide) ?_
                      refine lv_icmp_ne (tgt := 188) hx hb dX9_lookAt_177 (by decide) (fun _ => ?_) (fun hc => absurd hc (by decide))
                      refine lv_iload hx hb dX9_lookAt_188 (lv_at hl 0 rfl) ?_
                      refine n_Si (na := 1) (As := [.int v338]) (rest := []) X hD hN h (c_M_isFigure l G cI cB cZ cO ad wL193   v338  ) ⟨kv_671, kv_672, kv_470, kv_673⟩ ⟨by decide, by decide, by decide⟩ ⟨Nat.le_of_ble_eq_true rfl, Nat.le_of_ble_eq_true rfl⟩ ⟨Nat.zero_le _, Nat.zero_le _⟩ rfl hl.1 rfl (Nat.le_of_ble_eq_true rfl) dX9_lookAt_190 (fun r341 w342 H locs hp343 h => ?_)
                      obtain ⟨rfl, hr344⟩ := hp343
                      rcases hr344 with ⟨hq345, hq346, rfl⟩ | ⟨hq347, rfl⟩
                      · refine lv_istore_n (lv' := [(3, .int 1), (4, .int v338), (2, .int v41), (0, .ref (ad 64)), (1, .int n)]) hx hb dX9_lookAt_193 rfl hl (by decide) rfl (fun ls hl => ?_)
                        refine lv_aload_n hx hb dX9_lookAt_194 rfl (lv_at hl 3 rfl) ?_
                        refine lv_dup hx hb dX9_lookAt_195 rfl ?_
                        refine r_get kc9 X h 64 12 (by decide) rfl cf206 (by decide) kv_664 rfl dX9_lookAt_196 ?_
                        refine lv_iload_n hx hb dX9_lookAt_199 rfl (lv_at hl 0 rfl) ?_
                        refine lv_if_eq (tgt := 207) hx hb dX9_lookAt_200 (by decide) (fun hc => absurd hc (by decide)) (fun _ => ?_)
                        refine lv_iconst (v := 1) hx hb dX9_lookAt_203 (by decide) ?_
                        refine lv_goto (tgt := 208) hx hb dX9_lookAt_204 (by decide) ?_
                        obtain ⟨z350, e348, t349⟩ := x_add (x := C194) (y := (1 : Int32)) (a := (C194).toInt) (b := 1) rfl rfl (by omega) (by omega)
                        refine o_iadd (z := z350) hx hb dX9_lookAt_208 e348 ?_
                        refine r_put kc9 X hD h 64 12 (by decide) rfl cf206 (by decide) kv_664 rfl rfl rfl (Nat.le_of_ble_eq_true rfl) dX9_lookAt_209 (fun H locs w351 e352 h => ?_)
                        have f353 : w351 64 = .inr (7, [.ref (ad 65), .ref (ad 66), .ref (ad 67), .ref (ad 68), .long x, .long y, .ref (ad 69), .int mb, .ref (ad 70), .ref (ad 71), .int bl, .int C7, .int z350, .int 2, .int 0, .ref (ad 72), .ref (ad 73)]) := (congrFun e352 _).trans (va_up_self _ _ _)
                        have ok354 : OK cI cB cZ cO ad w351 := OK.up ok204 e352 (sM_mk (by omega) (by omega))
                        have kx355 : F6 w w351 := F6.up kx205 e352
                        refine lv_goto (tgt := 136) hx hb dX9_lookAt_212 (by decide) ?_
                        exact ih197  (1 : Int32) z350 w351 _ _ _ (by have q0 : (1 : Int32).toInt = 1 := rfl; omega) (by have q0 : (1 : Int32).toInt = 1 := rfl; omega) (by have q0 : (1 : Int32).toInt = 1 := rfl; omega) (by have q0 : (1 : Int32).toInt = 1 := rfl; omega) (by have q0 : (1 : Int32).toInt = 1 := rfl; omega) ok354 kx355 f353 (by have q0 : (1 : Int32).toInt = 1 := rfl; omega) h (lv_sub hl [0, 2, 3, 4] rfl)
                      · refine lv_istore_n (lv' := [(3, .int 0), (4, .int v338), (2, .int v41), (0, .ref (ad 64)), (1, .int n)]) hx hb dX9_lookAt_193 rfl hl (by decide) rfl (fun ls hl => ?_)
                        refine lv_aload_n hx hb dX9_lookAt_194 rfl (lv_at hl 3 rfl) ?_
                        refine lv_dup hx hb dX9_lookAt_195 rfl ?_
                        refine r_get kc9 X h 64 12 (by decide) rfl cf206 (by decide) kv_664 rfl dX9_lookAt_196 ?_
                        refine lv_iload_n hx hb dX9_lookAt_199 rfl (lv_at hl 0 rfl) ?_
                        refine lv_if_eq (tgt := 207) hx hb dX9_lookAt_200 (by decide) (fun _ => ?_) (fun hc => absurd (by decide) hc)
                        refine lv_iconst (v := 0) hx hb dX9_lookAt_207 (by decide) ?_
                        obtain ⟨z358, e356, t357⟩ := x_add (x := C194) (y := (0 : Int32)) (a := (C194).toInt) (b := 0) rfl rfl (by omega) (by omega)
                        refine o_iadd (z := z358) hx hb dX9_lookAt_208 e356 ?_
                        refine r_put kc9 X hD h 64 12 (by decide) rfl cf206 (by decide) kv_664 rfl rfl rfl (Nat.le_of_ble_eq_true rfl) dX9_lookAt_209 (fun H locs w359 e360 h => ?_)
                        have f361 : w359 64 = .inr (7, [.ref (ad 65), .ref (ad 66), .ref (ad 67), .ref (ad 68), .long x, .long y, .ref (ad 69), .int mb, .ref (ad 70), .ref (ad 71), .int bl, .int C7, .int z358, .int 2, .int 0, .ref (ad 72), .ref (ad 73)]) := (congrFun e360 _).trans (va_up_self _ _ _)
                        have ok362 : OK cI cB cZ cO ad w359 := OK.up ok204 e360 (sM_mk (by omega) (by omega))
                        have kx363 : F6 w w359 := F6.up kx205 e360
                        refine lv_goto (tgt := 136) hx hb dX9_lookAt_212 (by decide) ?_
                        exact ih197  (0 : Int32) z358 w359 _ _ _ (by have q0 : (0 : Int32).toInt = 0 := rfl; omega) (by have q0 : (0 : Int32).toInt = 0 := rfl; omega) (by have q0 : (0 : Int32).toInt = 0 := rfl; omega) (by have q0 : (0 : Int32).toInt = 0 := rfl; omega) (by have q0 : (0 : Int32).toInt = 0 := rfl; omega) ok362 kx363 f361 (by have q0 : (0 : Int32).toInt = 0 := rfl; omega) h (lv_sub hl [0, 2, 3, 4] rfl)
              exact hloop195 152 (1 : Int32) (1 : Int32) w187 _ _ _ (by have q0 : (1 : Int32).toInt = 1 := rfl; omega) (by have q0 : (1 : Int32).toInt = 1 := rfl; omega) (by have q0 : (1 : Int32).toInt = 1 := rfl; omega) (by have q0 : (1 : Int32).toInt = 1 := rfl; omega) (by have q0 : (1 : Int32).toInt = 1 := rfl; omega) ok190 kx191 f189 (by have q0 : (1 : Int32).toInt = 1 := rfl; omega) h (lv_sub hl [0, 1, 2, 3] rfl)
            · refine lv_if_eq (tgt := 103) hx hb dX9_lookAt_96 (by decide) (fun _ => ?_) (fun hc => absurd (by decide) hc)
              refine lv_iload_n hx hb dX9_lookAt_103 rfl (lv_at hl 0 rfl) ?_
              refine lv_bipush (v := 59) hx hb dX9_lookAt_104 (by decide) ?_
              refine lv_icmp_ne (tgt := 113) hx hb dX9_lookAt_106 (by decide) (fun hc364 => ?_) (fun hc364 => ?_)
              · have hc364 : ¬ (v41).toInt = 59 := i_ne hc364 rfl rfl
                refine lv_iconst (v := 4) hx hb dX9_lookAt_113 (by decide) ?_
                refine r_put kc9 X hD h 64 13 (by decide) rfl f33 (by decide) kv_665 rfl rfl rfl (Nat.le_of_ble_eq_true rfl) dX9_lookAt_114 (fun H locs w365 e366 h => ?_)
                have f367 : w365 64 = .inr (7, [.ref (ad 65), .ref (ad 66), .ref (ad 67), .ref (ad 68), .long x, .long y, .ref (ad 69), .int mb, .ref (ad 70), .ref (ad 71), .int bl, .int C7, .int 0, .int 4, .int 0, .ref (ad 72), .ref (ad 73)]) := (congrFun e366 _).trans (va_up_self _ _ _)
                have ok368 : OK cI cB cZ cO ad w365 := OK.up ok34 e366 (sM_mk (by omega) (by omega))
                have kx369 : F6 w w365 := F6.up kx35 e366
                refine lv_aload_n hx hb dX9_lookAt_117 rfl (lv_at hl 1 rfl) ?_
                refine lv_iconst (v := 1) hx hb dX9_lookAt_118 (by decide) ?_
                refine r_put kc9 X hD h 64 12 (by decide) rfl f367 (by decide) kv_664 rfl rfl rfl (Nat.le_of_ble_eq_true rfl) dX9_lookAt_119 (fun H locs w370 e371 h => ?_)
                have f372 : w370 64 = .inr (7, [.ref (ad 65), .ref (ad 66), .ref (ad 67), .ref (ad 68), .long x, .long y, .ref (ad 69), .int mb, .ref (ad 70), .ref (ad 71), .int bl, .int C7, .int 1, .int 4, .int 0, .ref (ad 72), .ref (ad 73)]) := (congrFun e371 _).trans (va_up_self _ _ _)
                have ok373 : OK cI cB cZ cO ad w370 := OK.up ok368 e371 (sM_mk (by omega) (by omega))
                have kx374 : F6 w w370 := F6.up kx369 e371
                refine lv_aload_n hx hb dX9_lookAt_122 rfl (lv_at hl 1 rfl) ?_
                refine r_get kc9 X h 64 13 (by decide) rfl f372 (by decide) kv_665 rfl dX9_lookAt_123 ?_
                refine lv_iconst (v := 3) hx hb dX9_lookAt_126 (by decide) ?_
                refine lv_icmp_ge (tgt := 134) hx hb dX9_lookAt_127 (by decide) (fun _ => ?_) (fun hc => absurd (by decide) hc)
                refine lv_iconst (v := 0) hx hb dX9_lookAt_134 (by decide) ?_
                refine lv_istore_n (lv' := [(3, .int 0), (2, .int v41), (0, .ref (ad 64)), (1, .int n)]) hx hb dX9_lookAt_135 rfl hl (by decide) rfl (fun ls hl => ?_)
                have hloop378 : ∀ (d379 : Nat) (L375 : Int32) (C377 : Int32) (wL376 : Nat → va_E) (H : Heap) (locs : List Loc) (ls : Array Slot), 0 ≤ L375.toInt → L375.toInt ≤ 1 → C7.toInt + C377.toInt ≤ bl.toInt → 1 ≤ C377.toInt → C377.toInt ≤ 150 → OK cI cB cZ cO ad wL376 → F6 w wL376 → wL376 64 = .inr (7, [.ref (ad 65), .ref (ad 66), .ref (ad 67), .ref (ad 68), .long x, .long y, .ref (ad 69), .int mb, .ref (ad 70), .ref (ad 71), .int bl, .int C7, .int C377, .int 4, .int 0, .ref (ad 72), .ref (ad 73)]) → bl.toInt - C7.toInt - C377.toInt + L375.toInt < (d379 : Int) → St G 74 ad (wA 74 ad s.heap.size) s.heap wL376 H locs → lv_has ls 5 [(3, .int L375), (2, .int v41), (0, .ref (ad 64)), (1, .int n)] → W p l e { frames := 2, cells := 0, slots := 0, locals := 45 } s m [.ref (ad 64), .int n].toArray below meth c H locs 0 0 (MQ below (va_Qv (fun w1 => OK cI cB cZ cO ad w1 ∧ F6 w w1 ∧ ∃ ta1 tl1 tk1 va1 : Int32, w1 64 = .inr (7, [.ref (ad 65), .ref (ad 66), .ref (ad 67), .ref (ad 68), .long x, .long y, .ref (ad 69), .int mb, .ref (ad 70), .ref (ad 71), .int bl, .int ta1, .int tl1, .int tk1, .int va1, .ref (ad 72), .ref (ad 73)]) ∧ n.toInt ≤ ta1.toInt ∧ 0 ≤ tl1.toInt ∧ ta1.toInt + tl1.toInt ≤ bl.toInt ∧ (tk1.toInt = 0 ∨ 1 ≤ tl1.toInt)) (Aft G 74 ad) (wA 74 ad s.heap.size)) [.ref (ad 64), .int n].toArray s 0 0 (wA 74 ad s.heap.size)) (F0 m 136 ls []) := by
                  intro d379
                  induction d379 with
                  | zero => intro L375 C377 wL376 H locs ls hi382 hi383 hi384 hi385 hi386 ok387 kx388 cf389 hm381 h hl; exfalso; omega
                  | succ d379 ih380 =>
                    intro L375 C377 wL376 H locs ls hi382 hi383 hi384 hi385 hi386 ok387 kx388 cf389 hm381 h hl
                    refine lv_iload_n hx hb dX9_lookAt_136 rfl (lv_at hl 0 rfl) ?_
                    refine lv_if_eq (tgt := 215) hx hb dX9_lookAt_137 (by decide) (fun hc391 => ?_) (fun hc391 => ?_)
                    · have hc391 : (L375).toInt = 0 := i_eq hc391 rfl rfl
                      refine lv_iconst (v := 0) hx hb dX9_lookAt_215 (by decide) ?_
                      refine lv_istore (lv' := [(4, .int 0), (3, .int L375), (2, .int v41), (0, .ref (ad 64)), (1, .int n)]) hx hb dX9_lookAt_216 hl (by decide) rfl (fun ls hl => ?_)
                      have hloop395 : ∀ (d396 : Nat) (L392 : Int32) (C394 : Int32) (wL393 : Nat → va_E) (H : Heap) (locs : List Loc) (ls : Array Slot), 0 ≤ L392.toInt → L392.toInt ≤ 2 → OK cI cB cZ cO ad wL393 → F6 w wL393 → wL393 64 = .inr (7, [.ref (ad 65), .ref (ad 66), .ref (ad 67), .ref (ad 68), .long x, .long y, .ref (ad 69), .int mb, .ref (ad 70), .ref (ad 71), .int bl, .int C7, .int C377, .int 4, .int C394, .ref (ad 72), .ref (ad 73)]) → 2 - L392.toInt < (d396 : Int) → St G 74 ad (wA 74 ad s.heap.size) s.heap wL393 H locs → lv_has ls 5 [(4, .int L392), (3, .int L375), (2, .int v41), (0, .ref (ad 64)), (1, .int n)] → W p l e { frames := 2, cells := 0, slots := 0, locals := 45 } s m [.ref (ad 64), .int n].toArray below meth c H locs 0 0 (MQ below (va_Qv (fun w1 => OK cI cB cZ cO ad w1 ∧ F6 w w1 ∧ ∃ ta1 tl1 tk1 va1 : Int32, w1 64 = .inr (7, [.ref (ad 65), .ref (ad 66), .ref (ad 67), .ref (ad 68), .long x, .long y, .ref (ad 69), .int mb, .ref (ad 70), .ref (ad 71), .int bl, .int ta1, .int tl1, .int tk1, .int va1, .ref (ad 72), .ref (ad 73)]) ∧ n.toInt ≤ ta1.toInt ∧ 0 ≤ tl1.toInt ∧ ta1.toInt + tl1.toInt ≤ bl.toInt ∧ (tk1.toInt = 0 ∨ 1 ≤ tl1.toInt)) (Aft G 74 ad) (wA 74 ad s.heap.size)) [.ref (ad 64), .int n].toArray s 0 0 (wA 74 ad s.heap.size)) (F0 m 218 ls []) := by
                        intro d396
                        induction d396 with
                        | zero => intro L392 C394 wL393 H locs ls hi399 hi400 ok401 kx402 cf403 hm398 h hl; exfalso; omega
                        | succ d396 ih397 =>
                          intro L392 C394 wL393 H locs ls hi399 hi400 ok401 kx402 cf403 hm398 h hl
                          refine lv_iload hx hb dX9_lookAt_218 (lv_at hl 0 rfl) ?_
                          refine lv_aload_n hx hb dX9_lookAt_220 rfl (lv_at hl 3 rfl) ?_
                          refine r_get kc9 X h 64 12 (by decide) rfl cf403 (by decide) kv_664 rfl dX9_lookAt_221 ?_
                          refine lv_icmp_ge (tgt := 274) hx hb dX9_lookAt_224 (by decide) (fun hc405 => ?_) (fun hc405 => ?_)
                          · have hc405 : (C377).toInt ≤ (L392).toInt := i_le hc405 rfl rfl
                            refine lv_aload_n hx hb dX9_lookAt_274 rfl (lv_at hl 3 rfl) ?_
                            refine lv_aload_n hx hb dX9_lookAt_275 rfl (lv_at hl 3 rfl) ?_
                            refine r_get kc9 X h 64 13 (by decide) rfl cf403 (by decide) kv_665 rfl dX9_lookAt_276 ?_
                            refine lv_iconst (v := 2) hx hb dX9_lookAt_279 (by decide) ?_
                            refine lv_icmp_ne (tgt := 295) hx hb dX9_lookAt_280 (by decide) (fun _ => ?_) (fun hc => absurd hc (by decide))
                            refine lv_aload_n hx hb dX9_lookAt_295 rfl (lv_at hl 3 rfl) ?_
                            refine r_get kc9 X h 64 13 (by decide) rfl cf403 (by decide) kv_665 rfl dX9_lookAt_296 ?_
                            refine r_put kc9 X hD h 64 13 (by decide) rfl cf403 (by decide) kv_665 rfl rfl rfl (Nat.le_of_ble_eq_true rfl) dX9_lookAt_299 (fun H locs w406 e407 h => ?_)
                            have f408 : w406 64 = .inr (7, [.ref (ad 65), .ref (ad 66), .ref (ad 67), .ref (ad 68), .long x, .long y, .ref (ad 69), .int mb, .ref (ad 70), .ref (ad 71), .int bl, .int C7, .int C377, .int 4, .int C394, .ref (ad 72), .ref (ad 73)]) := (congrFun e407 _).trans (va_up_self _ _ _)
                            have ok409 : OK cI cB cZ cO ad w406 := OK.up ok401 e407 (sM_mk (by omega) (by omega))
                            have kx410 : F6 w w406 := F6.up kx402 e407
                            exact e_v X h hr hlk dX9_lookAt_302 ⟨ok409, kx410, ⟨_, _, _, _, f408, by omega, by omega, by omega, by omega⟩⟩
                          · have hc405 : ¬ (C377).toInt ≤ (L392).toInt := i_nle hc405 rfl rfl
                            refine lv_iload hx hb dX9_lookAt_227 (lv_at hl 0 rfl) ?_
                            refine lv_iconst (v := 2) hx hb dX9_lookAt_229 (by decide) ?_
                            refine lv_icmp_ge (tgt := 274) hx hb dX9_lookAt_230 (by decide) (fun hc411 => ?_) (fun hc411 => ?_)
                            · have hc411 : 2 ≤ (L392).toInt := i_le hc411 rfl rfl
                              refine lv_aload_n hx hb dX9_lookAt_274 rfl (lv_at hl 3 rfl) ?_
                              refine lv_aload_n hx hb dX9_lookAt_275 rfl (lv_at hl 3 rfl) ?_
                              refine r_get kc9 X h 64 13 (by decide) rfl cf403 (by decide) kv_665 rfl dX9_lookAt_276 ?_
                              refine lv_iconst (v := 2) hx hb dX9_lookAt_279 (by decide) ?_
                              refine lv_icmp_ne (tgt := 295) hx hb dX9_lookAt_280 (by decide) (fun _ => ?_) (fun hc => absurd hc (by decide))
                              refine lv_aload_n hx hb dX9_lookAt_295 rfl (lv_at hl 3 rfl) ?_
                              refine r_get kc9 X h 64 13 (by decide) rfl cf403 (by decide) kv_665 rfl dX9_lookAt_296 ?_
                              refine r_put kc9 X hD h 64 13 (by decide) rfl cf403 (by decide) kv_665 rfl rfl rfl (Nat.le_of_ble_eq_true rfl) dX9_lookAt_299 (fun H locs w412 e413 h => ?_)
                              have f414 : w412 64 = .inr (7, [.ref (ad 65), .ref (ad 66), .ref (ad 67), .ref (ad 68), .long x, .long y, .ref (ad 69), .int mb, .ref (ad 70), .ref (ad 71), .int bl, .int C7, .int C377, .int 4, .int C394, .ref (ad 72), .ref (ad 73)]) := (congrFun e413 _).trans (va_up_self _ _ _)
                              have ok415 : OK cI cB cZ cO ad w412 := OK.up ok401 e413 (sM_mk (by omega) (by omega))
                              have kx416 : F6 w w412 := F6.up kx402 e413
                              exact e_v X h hr hlk dX9_lookAt_302 ⟨ok415, kx416, ⟨_, _, _, _, f414, by omega, by omega, by omega, by omega⟩⟩
                            · have hc411 : ¬ 2 ≤ (L392).toInt := i_nle hc411 rfl rfl
                              refine lv_aload_n hx hb dX9_lookAt_233 rfl (lv_at hl 3 rfl) ?_
                              refine r_get kc9 X h 64 13 (by decide) rfl cf403 (by decide) kv_665 rfl dX9_lookAt_234 ?_
                              refine lv_iconst (v := 2) hx hb dX9_lookAt_237 (by decide) ?_
                              refine lv_icmp_ne (tgt := 274) hx hb dX9_lookAt_238 (by decide) (fun _ => ?_) (fun hc => absurd hc (by decide))
                              refine lv_aload_n hx hb dX9_lookAt_274 rfl (lv_at hl 3 rfl) ?_
                              refine lv_aload_n hx hb dX9_lookAt_275 rfl (lv_at hl 3 rfl) ?_
                              refine r_get kc9 X h 64 13 (by decide) rfl cf403 (by decide) kv_665 rfl dX9_lookAt_276 ?_
                              refine lv_iconst (v := 2) hx hb dX9_lookAt_279 (by decide) ?_
                              refine lv_icmp_ne (tgt := 295) hx hb dX9_lookAt_280 (by decide) (fun _ => ?_) (fun hc => absurd hc (by decide))
                              refine lv_aload_n hx hb dX9_lookAt_295 rfl (lv_at hl 3 rfl) ?_
                              refine r_get kc9 X h 64 13 (by decide) rfl cf403 (by decide) kv_665 rfl dX9_lookAt_296 ?_
                              refine r_put kc9 X hD h 64 13 (by decide) rfl cf403 (by decide) kv_665 rfl rfl rfl (Nat.le_of_ble_eq_true rfl) dX9_lookAt_299 (fun H locs w417 e418 h => ?_)
                              have f419 : w417 64 = .inr (7, [.ref (ad 65), .ref (ad 66), .ref (ad 67), .ref (ad 68), .long x, .long y, .ref (ad 69), .int mb, .ref (ad 70), .ref (ad 71), .int bl, .int C7, .int C377, .int 4, .int C394, .ref (ad 72), .ref (ad 73)]) := (congrFun e418 _).trans (va_up_self _ _ _)
                              have ok420 : OK cI cB cZ cO ad w417 := OK.up ok401 e418 (sM_mk (by omega) (by omega))
                              have kx421 : F6 w w417 := F6.up kx402 e418
                              exact e_v X h hr hlk dX9_lookAt_302 ⟨ok420, kx421, ⟨_, _, _, _, f419, by omega, by omega, by omega, by omega⟩⟩
                      exact hloop395 3 (0 : Int32) (0 : Int32) wL376 _ _ _ (by have q0 : (0 : Int32).toInt = 0 := rfl; omega) (by have q0 : (0 : Int32).toInt = 0 := rfl; omega) ok387 kx388 cf389 (by have q0 : (0 : Int32).toInt = 0 := rfl; omega) h (lv_sub hl [0, 1, 2, 3, 4] rfl)
                    · have hc391 : ¬ (L375).toInt = 0 := i_ne hc391 rfl rfl
                      refine lv_aload_n hx hb dX9_lookAt_140 rfl (lv_at hl 2 rfl) ?_
                      refine r_get kc9 X h 64 11 (by decide) rfl cf389 (by decide) kv_663 rfl dX9_lookAt_141 ?_
                      refine lv_aload_n hx hb dX9_lookAt_144 rfl (lv_at hl 2 rfl) ?_
                      refine r_get kc9 X h 64 12 (by decide) rfl cf389 (by decide) kv_664 rfl dX9_lookAt_145 ?_
                      obtain ⟨z424, e422, t423⟩ := x_add (x := C7) (y := C377) (a := (C7).toInt) (b := (C377).toInt) rfl rfl (by omega) (by omega)
                      refine o_iadd (z := z424) hx hb dX9_lookAt_148 e422 ?_
                      refine lv_aload_n hx hb dX9_lookAt_149 rfl (lv_at hl 2 rfl) ?_
                      refine r_get kc9 X h 64 10 (by decide) rfl cf389 (by decide) kv_539 rfl dX9_lookAt_150 ?_
                      refine lv_icmp_ge (tgt := 215) hx hb dX9_lookAt_153 (by decide) (fun hc425 => ?_) (fun hc425 => ?_)
                      · have hc425 : (bl).toInt ≤ (z424).toInt := i_le hc425 rfl rfl
                        refine lv_iconst (v := 0) hx hb dX9_lookAt_215 (by decide) ?_
                        refine lv_istore (lv' := [(4, .int 0), (3, .int L375), (2, .int v41), (0, .ref (ad 64)), (1, .int n)]) hx hb dX9_lookAt_216 hl (by decide) rfl (fun ls hl => ?_)
                        have hloop429 : ∀ (d430 : Nat) (L426 : Int32) (C428 : Int32) (wL427 : Nat → va_E) (H : Heap) (locs : List Loc) (ls : Array Slot), 0 ≤ L426.toInt → L426.toInt ≤ 2 → OK cI cB cZ cO ad wL427 → F6 w wL427 → wL427 64 = .inr (7, [.ref (ad 65), .ref (ad 66), .ref (ad 67), .ref (ad 68), .long x, .long y, .ref (ad 69), .int mb, .ref (ad 70), .ref (ad 71), .int bl, .int C7, .int C377, .int 4, .int C428, .ref (ad 72), .ref (ad 73)]) → 2 - L426.toInt < (d430 : Int) → St G 74 ad (wA 74 ad s.heap.size) s.heap wL427 H locs → lv_has ls 5 [(4, .int L426), (3, .int L375), (2, .int v41), (0, .ref (ad 64)), (1, .int n)] → W p l e { frames := 2, cells := 0, slots := 0, locals := 45 } s m [.ref (ad 64), .int n].toArray below meth c H locs 0 0 (MQ below (va_Qv (fun w1 => OK cI cB cZ cO ad w1 ∧ F6 w w1 ∧ ∃ ta1 tl1 tk1 va1 : Int32, w1 64 = .inr (7, [.ref (ad 65), .ref (ad 66), .ref (ad 67), .ref (ad 68), .long x, .long y, .ref (ad 69), .int mb, .ref (ad 70), .ref (ad 71), .int bl, .int ta1, .int tl1, .int tk1, .int va1, .ref (ad 72), .ref (ad 73)]) ∧ n.toInt ≤ ta1.toInt ∧ 0 ≤ tl1.toInt ∧ ta1.toInt + tl1.toInt ≤ bl.toInt ∧ (tk1.toInt = 0 ∨ 1 ≤ tl1.toInt)) (Aft G 74 ad) (wA 74 ad s.heap.size)) [.ref (ad 64), .int n].toArray s 0 0 (wA 74 ad s.heap.size)) (F0 m 218 ls []) := by
                          intro d430
                          induction d430 with
                          | zero => intro L426 C428 wL427 H locs ls hi433 hi434 ok435 kx436 cf437 hm432 h hl; exfalso; omega
                          | succ d430 ih431 =>
                            intro L426 C428 wL427 H locs ls hi433 hi434 ok435 kx436 cf437 hm432 h hl
                            refine lv_iload hx hb dX9_lookAt_218 (lv_at hl 0 rfl) ?_
                            refine lv_aload_n hx hb dX9_lookAt_220 rfl (lv_at hl 3 rfl) ?_
                            refine r_get kc9 X h 64 12 (by decide) rfl cf437 (by decide) kv_664 rfl dX9_lookAt_221 ?_
                            refine lv_icmp_ge (tgt := 274) hx hb dX9_lookAt_224 (by decide) (fun hc439 => ?_) (fun hc439 => ?_)
                            · have hc439 : (C377).toInt ≤ (L426).toInt := i_le hc439 rfl rfl
                              refine lv_aload_n hx hb dX9_lookAt_274 rfl (lv_at hl 3 rfl) ?_
                              refine lv_aload_n hx hb dX9_lookAt_275 rfl (lv_at hl 3 rfl) ?_
                              refine r_get kc9 X h 64 13 (by decide) rfl cf437 (by decide) kv_665 rfl dX9_lookAt_276 ?_
                              refine lv_iconst (v := 2) hx hb dX9_lookAt_279 (by decide) ?_
                              refine lv_icmp_ne (tgt := 295) hx hb dX9_lookAt_280 (by decide) (fun _ => ?_) (fun hc => absurd hc (by decide))
                              refine lv_aload_n hx hb dX9_lookAt_295 rfl (lv_at hl 3 rfl) ?_
                              refine r_get kc9 X h 64 13 (by decide) rfl cf437 (by decide) kv_665 rfl dX9_lookAt_296 ?_
                              refine r_put kc9 X hD h 64 13 (by decide) rfl cf437 (by decide) kv_665 rfl rfl rfl (Nat.le_of_ble_eq_true rfl) dX9_lookAt_299 (fun H locs w440 e441 h => ?_)
                              have f442 : w440 64 = .inr (7, [.ref (ad 65), .ref (ad 66), .ref (ad 67), .ref (ad 68), .long x, .long y, .ref (ad 69), .int mb, .ref (ad 70), .ref (ad 71), .int bl, .int C7, .int C377, .int 4, .int C428, .ref (ad 72), .ref (ad 73)]) := (congrFun e441 _).trans (va_up_self _ _ _)
                              have ok443 : OK cI cB cZ cO ad w440 := OK.up ok435 e441 (sM_mk (by omega) (by omega))
                              have kx444 : F6 w w440 := F6.up kx436 e441
                              exact e_v X h hr hlk dX9_lookAt_302 ⟨ok443, kx444, ⟨_, _, _, _, f442, by omega, by omega, by omega, by omega⟩⟩
                            · have hc439 : ¬ (C377).toInt ≤ (L426).toInt := i_nle hc439 rfl rfl
                              refine lv_iload hx hb dX9_lookAt_227 (lv_at hl 0 rfl) ?_
                              refine lv_iconst (v := 2) hx hb dX9_lookAt_229 (by decide) ?_
                              refine lv_icmp_ge (tgt := 274) hx hb dX9_lookAt_230 (by decide) (fun hc445 => ?_) (fun hc445 => ?_)
                              · have hc445 : 2 ≤ (L426).toInt := i_le hc445 rfl rfl
                                refine lv_aload_n hx hb dX9_lookAt_274 rfl (lv_at hl 3 rfl) ?_
                                refine lv_aload_n hx hb dX9_lookAt_275 rfl (lv_at hl 3 rfl) ?_
                                refine r_get kc9 X h 64 13 (by decide) rfl cf437 (by decide) kv_665 rfl dX9_lookAt_276 ?_
                                refine lv_iconst (v := 2) hx hb dX9_lookAt_279 (by decide) ?_
                                refine lv_icmp_ne (tgt := 295) hx hb dX9_lookAt_280 (by decide) (fun _ => ?_) (fun hc => absurd hc (by decide))
                                refine lv_aload_n hx hb dX9_lookAt_295 rfl (lv_at hl 3 rfl) ?_
                                refine r_get kc9 X h 64 13 (by decide) rfl cf437 (by decide) kv_665 rfl dX9_lookAt_296 ?_
                                refine r_put kc9 X hD h 64 13 (by decide) rfl cf437 (by decide) kv_665 rfl rfl rfl (Nat.le_of_ble_eq_true rfl) dX9_lookAt_299 (fun H locs w446 e447 h => ?_)
                                have f448 : w446 64 = .inr (7, [.ref (ad 65), .ref (ad 66), .ref (ad 67), .ref (ad 68), .long x, .long y, .ref (ad 69), .int mb, .ref (ad 70), .ref (ad 71), .int bl, .int C7, .int C377, .int 4, .int C428, .ref (ad 72), .ref (ad 73)]) := (congrFun e447 _).trans (va_up_self _ _ _)
                                have ok449 : OK cI cB cZ cO ad w446 := OK.up ok435 e447 (sM_mk (by omega) (by omega))
                                have kx450 : F6 w w446 := F6.up kx436 e447
                                exact e_v X h hr hlk dX9_lookAt_302 ⟨ok449, kx450, ⟨_, _, _, _, f448, by omega, by omega, by omega, by omega⟩⟩
                              · have hc445 : ¬ 2 ≤ (L426).toInt := i_nle hc445 rfl rfl
                                refine lv_aload_n hx hb dX9_lookAt_233 rfl (lv_at hl 3 rfl) ?_
                                refine r_get kc9 X h 64 13 (by decide) rfl cf437 (by decide) kv_665 rfl dX9_lookAt_234 ?_
                                refine lv_iconst (v := 2) hx hb dX9_lookAt_237 (by decide) ?_
                                refine lv_icmp_ne (tgt := 274) hx hb dX9_lookAt_238 (by decide) (fun _ => ?_) (fun hc => absurd hc (by decide))
                                refine lv_aload_n hx hb dX9_lookAt_274 rfl (lv_at hl 3 rfl) ?_
                                refine lv_aload_n hx hb dX9_lookAt_275 rfl (lv_at hl 3 rfl) ?_
                                refine r_get kc9 X h 64 13 (by decide) rfl cf437 (by decide) kv_665 rfl dX9_lookAt_276 ?_
                                refine lv_iconst (v := 2) hx hb dX9_lookAt_279 (by decide) ?_
                                refine lv_icmp_ne (tgt := 295) hx hb dX9_lookAt_280 (by decide) (fun _ => ?_) (fun hc => absurd hc (by decide))
                                refine lv_aload_n hx hb dX9_lookAt_295 rfl (lv_at hl 3 rfl) ?_
                                refine r_get kc9 X h 64 13 (by decide) rfl cf437 (by decide) kv_665 rfl dX9_lookAt_296 ?_
                                refine r_put kc9 X hD h 64 13 (by decide) rfl cf437 (by decide) kv_665 rfl rfl rfl (Nat.le_of_ble_eq_true rfl) dX9_lookAt_299 (fun H locs w451 e452 h => ?_)
                                have f453 : w451 64 = .inr (7, [.ref (ad 65), .ref (ad 66), .ref (ad 67), .ref (ad 68), .long x, .long y, .ref (ad 69), .int mb, .ref (ad 70), .ref (ad 71), .int bl, .int C7, .int C377, .int 4, .int C428, .ref (ad 72), .ref (ad 73)]) := (congrFun e452 _).trans (va_up_self _ _ _)
                                have ok454 : OK cI cB cZ cO ad w451 := OK.up ok435 e452 (sM_mk (by omega) (by omega))
                                have kx455 : F6 w w451 := F6.up kx436 e452
                                exact e_v X h hr hlk dX9_lookAt_302 ⟨ok454, kx455, ⟨_, _, _, _, f453, by omega, by omega, by omega, by omega⟩⟩
                        exact hloop429 3 (0 : Int32) (0 : Int32) wL376 _ _ _ (by have q0 : (0 : Int32).toInt = 0 := rfl; omega) (by have q0 : (0 : Int32).toInt = 0 := rfl; omega) ok387 kx388 cf389 (by have q0 : (0 : Int32).toInt = 0 := rfl; omega) h (lv_sub hl [0, 1, 2, 3, 4] rfl)
                      · have hc425 : ¬ (bl).toInt ≤ (z424).toInt := i_nle hc425 rfl rfl
                        refine lv_aload_n hx hb dX9_lookAt_156 rfl (lv_at hl 2 rfl) ?_
                        refine r_get kc9 X h 64 9 (by decide) rfl cf389 (by decide) kv_667 rfl dX9_lookAt_157 ?_
                        refine lv_aload_n hx hb dX9_lookAt_160 rfl (lv_at hl 2 rfl) ?_
                        refine r_get kc9 X h 64 11 (by decide) rfl cf389 (by decide) kv_663 rfl dX9_lookAt_161 ?_
                        refine lv_aload_n hx hb dX9_lookAt_164 rfl (lv_at hl 2 rfl) ?_
                        refine r_get kc9 X h 64 12 (by decide) rfl cf389 (by decide) kv_664 rfl dX9_lookAt_165 ?_
                        obtain ⟨z458, e456, t457⟩ := x_add (x := C7) (y := C377) (a := (C7).toInt) (b := (C377).toInt) rfl rfl (by omega) (by omega)
                        refine o_iadd (z := z458) hx hb dX9_lookAt_168 e456 ?_
                        obtain ⟨g460, f459, p461⟩ := (show sA cI 150 (anyA) (wL376 71) from ok387 71 (by decide))
                        have f462 : wL376 71 = .inl (cI, 150, .inl g460) := f459
                        obtain ⟨v463, e464⟩ : ∃ z : Int32, g460 (z458).toNatClampNeg = z := ⟨_, rfl⟩
                        refine o_iald (v := v463) X h 71 0 (by decide) rfl f462 rfl (in_of (by omega) (by omega)) e464 dX9_lookAt_169 ?_
                        refine lv_istore (lv' := [(4, .int v463), (3, .int L375), (2, .int v41), (0, .ref (ad 64)), (1, .int n)]) hx hb dX9_lookAt_170 hl (by decide) rfl (fun ls hl => ?_)
                        refine lv_aload_n hx hb dX9_lookAt_172 rfl (lv_at hl 3 rfl) ?_
                        refine r_get kc9 X h 64 13 (by decide) rfl cf389 (by decide) kv_665 rfl dX9_lookAt_173 ?_
                        refine lv_iconst (v := 1) hx hb dX9_lookAt_176 (by decide) ?_
                        refine lv_icmp_ne (tgt := 188) hx hb dX9_lookAt_177 (by decide) (fun _ => ?_) (fun hc => absurd hc (by decide))
                        refine lv_iload hx hb dX9_lookAt_188 (lv_at hl 0 rfl) ?_
                        refine n_Si (na := 1) (As := [.int v463]) (rest := []) X hD hN h (c_M_isFigure l G cI cB cZ cO ad wL376   v463  ) ⟨kv_671, kv_672, kv_470, kv_673⟩ ⟨by decide, by decide, by decide⟩ ⟨Nat.le_of_ble_eq_true rfl, Nat.le_of_ble_eq_true rfl⟩ ⟨Nat.zero_le _, Nat.zero_le _⟩ rfl hl.1 rfl (Nat.le_of_ble_eq_true rfl) dX9_lookAt_190 (fun r466 w467 H locs hp468 h => ?_)
                        obtain ⟨rfl, hr469⟩ := hp468
                        rcases hr469 with ⟨hq470, hq471, rfl⟩ | ⟨hq472, rfl⟩
                        · refine lv_istore_n (lv' := [(3, .int 1), (4, .int v463), (2, .int v41), (0, .ref (ad 64)), (1, .int n)]) hx hb dX9_lookAt_193 rfl hl (by decide) rfl (fun ls hl => ?_)
                          refine lv_aload_n hx hb dX9_lookAt_194 rfl (lv_at hl 3 rfl) ?_
                          refine lv_dup hx hb dX9_lookAt_195 rfl ?_
                          refine r_get kc9 X h 64 12 (by decide) rfl cf389 (by decide) kv_664 rfl dX9_lookAt_196 ?_
                          refine lv_iload_n hx hb dX9_lookAt_199 rfl (lv_at hl 0 rfl) ?_
                          refine lv_if_eq (tgt := 207) hx hb dX9_lookAt_200 (by decide) (fun hc => absurd hc (by decide)) (fun _ => ?_)
                          refine lv_iconst (v := 1) hx hb dX9_lookAt_203 (by decide) ?_
                          refine lv_goto (tgt := 208) hx hb dX9_lookAt_204 (by decide) ?_
                          obtain ⟨z475, e473, t474⟩ := x_add (x := C377) (y := (1 : Int32)) (a := (C377).toInt) (b := 1) rfl rfl (by omega) (by omega)
                          refine o_iadd (z := z475) hx hb dX9_lookAt_208 e473 ?_
                          refine r_put kc9 X hD h 64 12 (by decide) rfl cf389 (by decide) kv_664 rfl rfl rfl (Nat.le_of_ble_eq_true rfl) dX9_lookAt_209 (fun H locs w476 e477 h => ?_)
                          have f478 : w476 64 = .inr (7, [.ref (ad 65), .ref (ad 66), .ref (ad 67), .ref (ad 68), .long x, .long y, .ref (ad 69), .int mb, .ref (ad 70), .ref (ad 71), .int bl, .int C7, .int z475, .int 4, .int 0, .ref (ad 72), .ref (ad 73)]) := (congrFun e477 _).trans (va_up_self _ _ _)
                          have ok479 : OK cI cB cZ cO ad w476 := OK.up ok387 e477 (sM_mk (by omega) (by omega))
                          have kx480 : F6 w w476 := F6.up kx388 e477
                          refine lv_goto (tgt := 136) hx hb dX9_lookAt_212 (by decide) ?_
                          exact ih380  (1 : Int32) z475 w476 _ _ _ (by have q0 : (1 : Int32).toInt = 1 := rfl; omega) (by have q0 : (1 : Int32).toInt = 1 := rfl; omega) (by have q0 : (1 : Int32).toInt = 1 := rfl; omega) (by have q0 : (1 : Int32).toInt = 1 := rfl; omega) (by have q0 : (1 : Int32).toInt = 1 := rfl; omega) ok479 kx480 f478 (by have q0 : (1 : Int32).toInt = 1 := rfl; omega) h (lv_sub hl [0, 2, 3, 4] rfl)
                        · refine lv_istore_n (lv' := [(3, .int 0), (4, .int v463), (2, .int v41), (0, .ref (ad 64)), (1, .int n)]) hx hb dX9_lookAt_193 rfl hl (by decide) rfl (fun ls hl => ?_)
                          refine lv_aload_n hx hb dX9_lookAt_194 rfl (lv_at hl 3 rfl) ?_
                          refine lv_dup hx hb dX9_lookAt_195 rfl ?_
                          refine r_get kc9 X h 64 12 (by decide) rfl cf389 (by decide) kv_664 rfl dX9_lookAt_196 ?_
                          refine lv_iload_n hx hb dX9_lookAt_199 rfl (lv_at hl 0 rfl) ?_
                          refine lv_if_eq (tgt := 207) hx hb dX9_lookAt_200 (by decide) (fun _ => ?_) (fun hc => absurd (by decide) hc)
                          refine lv_iconst (v := 0) hx hb dX9_lookAt_207 (by decide) ?_
                          obtain ⟨z483, e481, t482⟩ := x_add (x := C377) (y := (0 : Int32)) (a := (C377).toInt) (b := 0) rfl rfl (by omega) (by omega)
                          refine o_iadd (z := z483) hx hb dX9_lookAt_208 e481 ?_
                          refine r_put kc9 X hD h 64 12 (by decide) rfl cf389 (by decide) kv_664 rfl rfl rfl (Nat.le_of_ble_eq_true rfl) dX9_lookAt_209 (fun H locs w484 e485 h => ?_)
                          have f486 : w484 64 = .inr (7, [.ref (ad 65), .ref (ad 66), .ref (ad 67), .ref (ad 68), .long x, .long y, .ref (ad 69), .int mb, .ref (ad 70), .ref (ad 71), .int bl, .int C7, .int z483, .int 4, .int 0, .ref (ad 72), .ref (ad 73)]) := (congrFun e485 _).trans (va_up_self _ _ _)
                          have ok487 : OK cI cB cZ cO ad w484 := OK.up ok387 e485 (sM_mk (by omega) (by omega))
                          have kx488 : F6 w w484 := F6.up kx388 e485
                          refine lv_goto (tgt := 136) hx hb dX9_lookAt_212 (by decide) ?_
                          exact ih380  (0 : Int32) z483 w484 _ _ _ (by have q0 : (0 : Int32).toInt = 0 := rfl; omega) (by have q0 : (0 : Int32).toInt = 0 := rfl; omega) (by have q0 : (0 : Int32).toInt = 0 := rfl; omega) (by have q0 : (0 : Int32).toInt = 0 := rfl; omega) (by have q0 : (0 : Int32).toInt = 0 := rfl; omega) ok487 kx488 f486 (by have q0 : (0 : Int32).toInt = 0 := rfl; omega) h (lv_sub hl [0, 2, 3, 4] rfl)
                exact hloop378 152 (0 : Int32) (1 : Int32) w370 _ _ _ (by have q0 : (0 : Int32).toInt = 0 := rfl; have q1 : (1 : Int32).toInt = 1 := rfl; omega) (by have q0 : (0 : Int32).toInt = 0 := rfl; have q1 : (1 : Int32).toInt = 1 := rfl; omega) (by have q0 : (0 : Int32).toInt = 0 := rfl; have q1 : (1 : Int32).toInt = 1 := rfl; omega) (by have q0 : (0 : Int32).toInt = 0 := rfl; have q1 : (1 : Int32).toInt = 1 := rfl; omega) (by have q0 : (0 : Int32).toInt = 0 := rfl; have q1 : (1 : Int32).toInt = 1 := rfl; omega) ok373 kx374 f372 (by have q0 : (0 : Int32).toInt = 0 := rfl; have q1 : (1 : Int32).toInt = 1 := rfl; omega) h (lv_sub hl [0, 1, 2, 3] rfl)
              · have hc364 : (v41).toInt = 59 := i_eq hc364 rfl rfl
                refine lv_iconst (v := 3) hx hb dX9_lookAt_109 (by decide) ?_
                refine lv_goto (tgt := 114) hx hb dX9_lookAt_110 (by decide) ?_
                refine r_put kc9 X hD h 64 13 (by decide) rfl f33 (by decide) kv_665 rfl rfl rfl (Nat.le_of_ble_eq_true rfl) dX9_lookAt_114 (fun H locs w489 e490 h => ?_)
                have f491 : w489 64 = .inr (7, [.ref (ad 65), .ref (ad 66), .ref (ad 67), .ref (ad 68), .long x, .long y, .ref (ad 69), .int mb, .ref (ad 70), .ref (ad 71), .int bl, .int C7, .int 0, .int 3, .int 0, .ref (ad 72), .ref (ad 73)]) := (congrFun e490 _).trans (va_up_self _ _ _)
                have ok492 : OK cI cB cZ cO ad w489 := OK.up ok34 e490 (sM_mk (by omega) (by omega))
                have kx493 : F6 w w489 := F6.up kx35 e490
                refine lv_aload_n hx hb dX9_lookAt_117 rfl (lv_at hl 1 rfl) ?_
                refine lv_iconst (v := 1) hx hb dX9_lookAt_118 (by decide) ?_
                refine r_put kc9 X hD h 64 12 (by decide) rfl f491 (by decide) kv_664 rfl rfl rfl (Nat.le_of_ble_eq_true rfl) dX9_lookAt_119 (fun H locs w494 e495 h => ?_)
                have f496 : w494 64 = .inr (7, [.ref (ad 65), .ref (ad 66), .ref (ad 67), .ref (ad 68), .long x, .long y, .ref (ad 69), .int mb, .ref (ad 70), .ref (ad 71), .int bl, .int C7, .int 1, .int 3, .int 0, .ref (ad 72), .ref (ad 73)]) := (congrFun e495 _).trans (va_up_self _ _ _)
                have ok497 : OK cI cB cZ cO ad w494 := OK.up ok492 e495 (sM_mk (by omega) (by omega))
                have kx498 : F6 w w494 := F6.up kx493 e495
                refine lv_aload_n hx hb dX9_lookAt_122 rfl (lv_at hl 1 rfl) ?_
                refine r_get kc9 X h 64 13 (by decide) rfl f496 (by decide) kv_665 rfl dX9_lookAt_123 ?_
                refine lv_iconst (v := 3) hx hb dX9_lookAt_126 (by decide) ?_
                refine lv_icmp_ge (tgt := 134) hx hb dX9_lookAt_127 (by decide) (fun _ => ?_) (fun hc => absurd (by decide) hc)
                refine lv_iconst (v := 0) hx hb dX9_lookAt_134 (by decide) ?_
                refine lv_istore_n (lv' := [(3, .int 0), (2, .int v41), (0, .ref (ad 64)), (1, .int n)]) hx hb dX9_lookAt_135 rfl hl (by decide) rfl (fun ls hl => ?_)
                have hloop502 : ∀ (d503 : Nat) (L499 : Int32) (C501 : Int32) (wL500 : Nat → va_E) (H : Heap) (locs : List Loc) (ls : Array Slot), 0 ≤ L499.toInt → L499.toInt ≤ 1 → C7.toInt + C501.toInt ≤ bl.toInt → 1 ≤ C501.toInt → C501.toInt ≤ 150 → OK cI cB cZ cO ad wL500 → F6 w wL500 → wL500 64 = .inr (7, [.ref (ad 65), .ref (ad 66), .ref (ad 67), .ref (ad 68), .long x, .long y, .ref (ad 69), .int mb, .ref (ad 70), .ref (ad 71), .int bl, .int C7, .int C501, .int 3, .int 0, .ref (ad 72), .ref (ad 73)]) → bl.toInt - C7.toInt - C501.toInt + L499.toInt < (d503 : Int) → St G 74 ad (wA 74 ad s.heap.size) s.heap wL500 H locs → lv_has ls 5 [(3, .int L499), (2, .int v41), (0, .ref (ad 64)), (1, .int n)] → W p l e { frames := 2, cells := 0, slots := 0, locals := 45 } s m [.ref (ad 64), .int n].toArray below meth c H locs 0 0 (MQ below (va_Qv (fun w1 => OK cI cB cZ cO ad w1 ∧ F6 w w1 ∧ ∃ ta1 tl1 tk1 va1 : Int32, w1 64 = .inr (7, [.ref (ad 65), .ref (ad 66), .ref (ad 67), .ref (ad 68), .long x, .long y, .ref (ad 69), .int mb, .ref (ad 70), .ref (ad 71), .int bl, .int ta1, .int tl1, .int tk1, .int va1, .ref (ad 72), .ref (ad 73)]) ∧ n.toInt ≤ ta1.toInt ∧ 0 ≤ tl1.toInt ∧ ta1.toInt + tl1.toInt ≤ bl.toInt ∧ (tk1.toInt = 0 ∨ 1 ≤ tl1.toInt)) (Aft G 74 ad) (wA 74 ad s.heap.size)) [.ref (ad 64), .int n].toArray s 0 0 (wA 74 ad s.heap.size)) (F0 m 136 ls []) := by
                  intro d503
                  induction d503 with
                  | zero => intro L499 C501 wL500 H locs ls hi506 hi507 hi508 hi509 hi510 ok511 kx512 cf513 hm505 h hl; exfalso; omega
                  | succ d503 ih504 =>
                    intro L499 C501 wL500 H locs ls hi506 hi507 hi508 hi509 hi510 ok511 kx512 cf513 hm505 h hl
                    refine lv_iload_n hx hb dX9_lookAt_136 rfl (lv_at hl 0 rfl) ?_
                    refine lv_if_eq (tgt := 215) hx hb dX9_lookAt_137 (by decide) (fun hc515 => ?_) (fun hc515 => ?_)
                    · have hc515 : (L499).toInt = 0 := i_eq hc515 rfl rfl
                      refine lv_iconst (v := 0) hx hb dX9_lookAt_215 (by decide) ?_
                      refine lv_istore (lv' := [(4, .int 0), (3, .int L499), (2, .int v41), (0, .ref (ad 64)), (1, .int n)]) hx hb dX9_lookAt_216 hl (by decide) rfl (fun ls hl => ?_)
                      have hloop519 : ∀ (d520 : Nat) (L516 : Int32) (C518 : Int32) (wL517 : Nat → va_E) (H : Heap) (locs : List Loc) (ls : Array Slot), 0 ≤ L516.toInt → L516.toInt ≤ 2 → OK cI cB cZ cO ad wL517 → F6 w wL517 → wL517 64 = .inr (7, [.ref (ad 65), .ref (ad 66), .ref (ad 67), .ref (ad 68), .long x, .long y, .ref (ad 69), .int mb, .ref (ad 70), .ref (ad 71), .int bl, .int C7, .int C501, .int 3, .int C518, .ref (ad 72), .ref (ad 73)]) → 2 - L516.toInt < (d520 : Int) → St G 74 ad (wA 74 ad s.heap.size) s.heap wL517 H locs → lv_has ls 5 [(4, .int L516), (3, .int L499), (2, .int v41), (0, .ref (ad 64)), (1, .int n)] → W p l e { frames := 2, cells := 0, slots := 0, locals := 45 } s m [.ref (ad 64), .int n].toArray below meth c H locs 0 0 (MQ below (va_Qv (fun w1 => OK cI cB cZ cO ad w1 ∧ F6 w w1 ∧ ∃ ta1 tl1 tk1 va1 : Int32, w1 64 = .inr (7, [.ref (ad 65), .ref (ad 66), .ref (ad 67), .ref (ad 68), .long x, .long y, .ref (ad 69), .int mb, .ref (ad 70), .ref (ad 71), .int bl, .int ta1, .int tl1, .int tk1, .int va1, .ref (ad 72), .ref (ad 73)]) ∧ n.toInt ≤ ta1.toInt ∧ 0 ≤ tl1.toInt ∧ ta1.toInt + tl1.toInt ≤ bl.toInt ∧ (tk1.toInt = 0 ∨ 1 ≤ tl1.toInt)) (Aft G 74 ad) (wA 74 ad s.heap.size)) [.ref (ad 64), .int n].toArray s 0 0 (wA 74 ad s.heap.size)) (F0 m 218 ls []) := by
                        intro d520
                        induction d520 with
                        | zero => intro L516 C518 wL517 H locs ls hi523 hi524 ok525 kx526 cf527 hm522 h hl; exfalso; omega
                        | succ d520 ih521 =>
                          intro L516 C518 wL517 H locs ls hi523 hi524 ok525 kx526 cf527 hm522 h hl
                          refine lv_iload hx hb dX9_lookAt_218 (lv_at hl 0 rfl) ?_
                          refine lv_aload_n hx hb dX9_lookAt_220 rfl (lv_at hl 3 rfl) ?_
                          refine r_get kc9 X h 64 12 (by decide) rfl cf527 (by decide) kv_664 rfl dX9_lookAt_221 ?_
                          refine lv_icmp_ge (tgt := 274) hx hb dX9_lookAt_224 (by decide) (fun hc529 => ?_) (fun hc529 => ?_)
                          · have hc529 : (C501).toInt ≤ (L516).toInt := i_le hc529 rfl rfl
                            refine lv_aload_n hx hb dX9_lookAt_274 rfl (lv_at hl 3 rfl) ?_
                            refine lv_aload_n hx hb dX9_lookAt_275 rfl (lv_at hl 3 rfl) ?_
                            refine r_get kc9 X h 64 13 (by decide) rfl cf527 (by decide) kv_665 rfl dX9_lookAt_276 ?_
                            refine lv_iconst (v := 2) hx hb dX9_lookAt_279 (by decide) ?_
                            refine lv_icmp_ne (tgt := 295) hx hb dX9_lookAt_280 (by decide) (fun _ => ?_) (fun hc => absurd hc (by decide))
                            refine lv_aload_n hx hb dX9_lookAt_295 rfl (lv_at hl 3 rfl) ?_
                            refine r_get kc9 X h 64 13 (by decide) rfl cf527 (by decide) kv_665 rfl dX9_lookAt_296 ?_
                            refine r_put kc9 X hD h 64 13 (by decide) rfl cf527 (by decide) kv_665 rfl rfl rfl (Nat.le_of_ble_eq_true rfl) dX9_lookAt_299 (fun H locs w530 e531 h => ?_)
                            have f532 : w530 64 = .inr (7, [.ref (ad 65), .ref (ad 66), .ref (ad 67), .ref (ad 68), .long x, .long y, .ref (ad 69), .int mb, .ref (ad 70), .ref (ad 71), .int bl, .int C7, .int C501, .int 3, .int C518, .ref (ad 72), .ref (ad 73)]) := (congrFun e531 _).trans (va_up_self _ _ _)
                            have ok533 : OK cI cB cZ cO ad w530 := OK.up ok525 e531 (sM_mk (by omega) (by omega))
                            have kx534 : F6 w w530 := F6.up kx526 e531
                            exact e_v X h hr hlk dX9_lookAt_302 ⟨ok533, kx534, ⟨_, _, _, _, f532, by omega, by omega, by omega, by omega⟩⟩
                          · have hc529 : ¬ (C501).toInt ≤ (L516).toInt := i_nle hc529 rfl rfl
                            refine lv_iload hx hb dX9_lookAt_227 (lv_at hl 0 rfl) ?_
                            refine lv_iconst (v := 2) hx hb dX9_lookAt_229 (by decide) ?_
                            refine lv_icmp_ge (tgt := 274) hx hb dX9_lookAt_230 (by decide) (fun hc535 => ?_) (fun hc535 => ?_)
                            · have hc535 : 2 ≤ (L516).toInt := i_le hc535 rfl rfl
                              refine lv_aload_n hx hb dX9_lookAt_274 rfl (lv_at hl 3 rfl) ?_
                              refine lv_aload_n hx hb dX9_lookAt_275 rfl (lv_at hl 3 rfl) ?_
                              refine r_get kc9 X h 64 13 (by decide) rfl cf527 (by decide) kv_665 rfl dX9_lookAt_276 ?_
                              refine lv_iconst (v := 2) hx hb dX9_lookAt_279 (by decide) ?_
                              refine lv_icmp_ne (tgt := 295) hx hb dX9_lookAt_280 (by decide) (fun _ => ?_) (fun hc => absurd hc (by decide))
                              refine lv_aload_n hx hb dX9_lookAt_295 rfl (lv_at hl 3 rfl) ?_
                              refine r_get kc9 X h 64 13 (by decide) rfl cf527 (by decide) kv_665 rfl dX9_lookAt_296 ?_
                              refine r_put kc9 X hD h 64 13 (by decide) rfl cf527 (by decide) kv_665 rfl rfl rfl (Nat.le_of_ble_eq_true rfl) dX9_lookAt_299 (fun H locs w536 e537 h => ?_)
                              have f538 : w536 64 = .inr (7, [.ref (ad 65), .ref (ad 66), .ref (ad 67), .ref (ad 68), .long x, .long y, .ref (ad 69), .int mb, .ref (ad 70), .ref (ad 71), .int bl, .int C7, .int C501, .int 3, .int C518, .ref (ad 72), .ref (ad 73)]) := (congrFun e537 _).trans (va_up_self _ _ _)
                              have ok539 : OK cI cB cZ cO ad w536 := OK.up ok525 e537 (sM_mk (by omega) (by omega))
                              have kx540 : F6 w w536 := F6.up kx526 e537
                              exact e_v X h hr hlk dX9_lookAt_302 ⟨ok539, kx540, ⟨_, _, _, _, f538, by omega, by omega, by omega, by omega⟩⟩
                            · have hc535 : ¬ 2 ≤ (L516).toInt := i_nle hc535 rfl rfl
                              refine lv_aload_n hx hb dX9_lookAt_233 rfl (lv_at hl 3 rfl) ?_
                              refine r_get kc9 X h 64 13 (by decide) rfl cf527 (by decide) kv_665 rfl dX9_lookAt_234 ?_
                              refine lv_iconst (v := 2) hx hb dX9_lookAt_237 (by decide) ?_
                              refine lv_icmp_ne (tgt := 274) hx hb dX9_lookAt_238 (by decide) (fun _ => ?_) (fun hc => absurd hc (by decide))
                              refine lv_aload_n hx hb dX9_lookAt_274 rfl (lv_at hl 3 rfl) ?_
                              refine lv_aload_n hx hb dX9_lookAt_275 rfl (lv_at hl 3 rfl) ?_
                              refine r_get kc9 X h 64 13 (by decide) rfl cf527 (by decide) kv_665 rfl dX9_lookAt_276 ?_
                              refine lv_iconst (v := 2) hx hb dX9_lookAt_279 (by decide) ?_
                              refine lv_icmp_ne (tgt := 295) hx hb dX9_lookAt_280 (by decide) (fun _ => ?_) (fun hc => absurd hc (by decide))
                              refine lv_aload_n hx hb dX9_lookAt_295 rfl (lv_at hl 3 rfl) ?_
                              refine r_get kc9 X h 64 13 (by decide) rfl cf527 (by decide) kv_665 rfl dX9_lookAt_296 ?_
                              refine r_put kc9 X hD h 64 13 (by decide) rfl cf527 (by decide) kv_665 rfl rfl rfl (Nat.le_of_ble_eq_true rfl) dX9_lookAt_299 (fun H locs w541 e542 h => ?_)
                              have f543 : w541 64 = .inr (7, [.ref (ad 65), .ref (ad 66), .ref (ad 67), .ref (ad 68), .long x, .long y, .ref (ad 69), .int mb, .ref (ad 70), .ref (ad 71), .int bl, .int C7, .int C501, .int 3, .int C518, .ref (ad 72), .ref (ad 73)]) := (congrFun e542 _).trans (va_up_self _ _ _)
                              have ok544 : OK cI cB cZ cO ad w541 := OK.up ok525 e542 (sM_mk (by omega) (by omega))
                              have kx545 : F6 w w541 := F6.up kx526 e542
                              exact e_v X h hr hlk dX9_lookAt_302 ⟨ok544, kx545, ⟨_, _, _, _, f543, by omega, by omega, by omega, by omega⟩⟩
                      exact hloop519 3 (0 : Int32) (0 : Int32) wL500 _ _ _ (by have q0 : (0 : Int32).toInt = 0 := rfl; omega) (by have q0 : (0 : Int32).toInt = 0 := rfl; omega) ok511 kx512 cf513 (by have q0 : (0 : Int32).toInt = 0 := rfl; omega) h (lv_sub hl [0, 1, 2, 3, 4] rfl)
                    · have hc515 : ¬ (L499).toInt = 0 := i_ne hc515 rfl rfl
                      refine lv_aload_n hx hb dX9_lookAt_140 rfl (lv_at hl 2 rfl) ?_
                      refine r_get kc9 X h 64 11 (by decide) rfl cf513 (by decide) kv_663 rfl dX9_lookAt_141 ?_
                      refine lv_aload_n hx hb dX9_lookAt_144 rfl (lv_at hl 2 rfl) ?_
                      refine r_get kc9 X h 64 12 (by decide) rfl cf513 (by decide) kv_664 rfl dX9_lookAt_145 ?_
                      obtain ⟨z548, e546, t547⟩ := x_add (x := C7) (y := C501) (a := (C7).toInt) (b := (C501).toInt) rfl rfl (by omega) (by omega)
                      refine o_iadd (z := z548) hx hb dX9_lookAt_148 e546 ?_
                      refine lv_aload_n hx hb dX9_lookAt_149 rfl (lv_at hl 2 rfl) ?_
                      refine r_get kc9 X h 64 10 (by decide) rfl cf513 (by decide) kv_539 rfl dX9_lookAt_150 ?_
                      refine lv_icmp_ge (tgt := 215) hx hb dX9_lookAt_153 (by decide) (fun hc549 => ?_) (fun hc549 => ?_)
                      · have hc549 : (bl).toInt ≤ (z548).toInt := i_le hc549 rfl rfl
                        refine lv_iconst (v := 0) hx hb dX9_lookAt_215 (by decide) ?_
                        refine lv_istore (lv' := [(4, .int 0), (3, .int L499), (2, .int v41), (0, .ref (ad 64)), (1, .int n)]) hx hb dX9_lookAt_216 hl (by decide) rfl (fun ls hl => ?_)
                        have hloop553 : ∀ (d554 : Nat) (L550 : Int32) (C552 : Int32) (wL551 : Nat → va_E) (H : Heap) (locs : List Loc) (ls : Array Slot), 0 ≤ L550.toInt → L550.toInt ≤ 2 → OK cI cB cZ cO ad wL551 → F6 w wL551 → wL551 64 = .inr (7, [.ref (ad 65), .ref (ad 66), .ref (ad 67), .ref (ad 68), .long x, .long y, .ref (ad 69), .int mb, .ref (ad 70), .ref (ad 71), .int bl, .int C7, .int C501, .int 3, .int C552, .ref (ad 72), .ref (ad 73)]) → 2 - L550.toInt < (d554 : Int) → St G 74 ad (wA 74 ad s.heap.size) s.heap wL551 H locs → lv_has ls 5 [(4, .int L550), (3, .int L499), (2, .int v41), (0, .ref (ad 64)), (1, .int n)] → W p l e { frames := 2, cells := 0, slots := 0, locals := 45 } s m [.ref (ad 64), .int n].toArray below meth c H locs 0 0 (MQ below (va_Qv (fun w1 => OK cI cB cZ cO ad w1 ∧ F6 w w1 ∧ ∃ ta1 tl1 tk1 va1 : Int32, w1 64 = .inr (7, [.ref (ad 65), .ref (ad 66), .ref (ad 67), .ref (ad 68), .long x, .long y, .ref (ad 69), .int mb, .ref (ad 70), .ref (ad 71), .int bl, .int ta1, .int tl1, .int tk1, .int va1, .ref (ad 72), .ref (ad 73)]) ∧ n.toInt ≤ ta1.toInt ∧ 0 ≤ tl1.toInt ∧ ta1.toInt + tl1.toInt ≤ bl.toInt ∧ (tk1.toInt = 0 ∨ 1 ≤ tl1.toInt)) (Aft G 74 ad) (wA 74 ad s.heap.size)) [.ref (ad 64), .int n].toArray s 0 0 (wA 74 ad s.heap.size)) (F0 m 218 ls []) := by
                          intro d554
                          induction d554 with
                          | zero => intro L550 C552 wL551 H locs ls hi557 hi558 ok559 kx560 cf561 hm556 h hl; exfalso; omega
                          | succ d554 ih555 =>
                            intro L550 C552 wL551 H locs ls hi557 hi558 ok559 kx560 cf561 hm556 h hl
                            refine lv_iload hx hb dX9_lookAt_218 (lv_at hl 0 rfl) ?_
                            refine lv_aload_n hx hb dX9_lookAt_220 rfl (lv_at hl 3 rfl) ?_
                            refine r_get kc9 X h 64 12 (by decide) rfl cf561 (by decide) kv_664 rfl dX9_lookAt_221 ?_
                            refine lv_icmp_ge (tgt := 274) hx hb dX9_lookAt_224 (by decide) (fun hc563 => ?_) (fun hc563 => ?_)
                            · have hc563 : (C501).toInt ≤ (L550).toInt := i_le hc563 rfl rfl
                              refine lv_aload_n hx hb dX9_lookAt_274 rfl (lv_at hl 3 rfl) ?_
                              refine lv_aload_n hx hb dX9_lookAt_275 rfl (lv_at hl 3 rfl) ?_
                              refine r_get kc9 X h 64 13 (by decide) rfl cf561 (by decide) kv_665 rfl dX9_lookAt_276 ?_
                              refine lv_iconst (v := 2) hx hb dX9_lookAt_279 (by decide) ?_
                              refine lv_icmp_ne (tgt := 295) hx hb dX9_lookAt_280 (by decide) (fun _ => ?_) (fun hc => absurd hc (by decide))
                              refine lv_aload_n hx hb dX9_lookAt_295 rfl (lv_at hl 3 rfl) ?_
                              refine r_get kc9 X h 64 13 (by decide) rfl cf561 (by decide) kv_665 rfl dX9_lookAt_296 ?_
                              refine r_put kc9 X hD h 64 13 (by decide) rfl cf561 (by decide) kv_665 rfl rfl rfl (Nat.le_of_ble_eq_true rfl) dX9_lookAt_299 (fun H locs w564 e565 h => ?_)
                              have f566 : w564 64 = .inr (7, [.ref (ad 65), .ref (ad 66), .ref (ad 67), .ref (ad 68), .long x, .long y, .ref (ad 69), .int mb, .ref (ad 70), .ref (ad 71), .int bl, .int C7, .int C501, .int 3, .int C552, .ref (ad 72), .ref (ad 73)]) := (congrFun e565 _).trans (va_up_self _ _ _)
                              have ok567 : OK cI cB cZ cO ad w564 := OK.up ok559 e565 (sM_mk (by omega) (by omega))
                              have kx568 : F6 w w564 := F6.up kx560 e565
                              exact e_v X h hr hlk dX9_lookAt_302 ⟨ok567, kx568, ⟨_, _, _, _, f566, by omega, by omega, by omega, by omega⟩⟩
                            · have hc563 : ¬ (C501).toInt ≤ (L550).toInt := i_nle hc563 rfl rfl
                              refine lv_iload hx hb dX9_lookAt_227 (lv_at hl 0 rfl) ?_
                              refine lv_iconst (v := 2) hx hb dX9_lookAt_229 (by decide) ?_
                              refine lv_icmp_ge (tgt := 274) hx hb dX9_lookAt_230 (by decide) (fun hc569 => ?_) (fun hc569 => ?_)
                              · have hc569 : 2 ≤ (L550).toInt := i_le hc569 rfl rfl
                                refine lv_aload_n hx hb dX9_lookAt_274 rfl (lv_at hl 3 rfl) ?_
                                refine lv_aload_n hx hb dX9_lookAt_275 rfl (lv_at hl 3 rfl) ?_
                                refine r_get kc9 X h 64 13 (by decide) rfl cf561 (by decide) kv_665 rfl dX9_lookAt_276 ?_
                                refine lv_iconst (v := 2) hx hb dX9_lookAt_279 (by decide) ?_
                                refine lv_icmp_ne (tgt := 295) hx hb dX9_lookAt_280 (by decide) (fun _ => ?_) (fun hc => absurd hc (by decide))
                                refine lv_aload_n hx hb dX9_lookAt_295 rfl (lv_at hl 3 rfl) ?_
                                refine r_get kc9 X h 64 13 (by decide) rfl cf561 (by decide) kv_665 rfl dX9_lookAt_296 ?_
                                refine r_put kc9 X hD h 64 13 (by decide) rfl cf561 (by decide) kv_665 rfl rfl rfl (Nat.le_of_ble_eq_true rfl) dX9_lookAt_299 (fun H locs w570 e571 h => ?_)
                                have f572 : w570 64 = .inr (7, [.ref (ad 65), .ref (ad 66), .ref (ad 67), .ref (ad 68), .long x, .long y, .ref (ad 69), .int mb, .ref (ad 70), .ref (ad 71), .int bl, .int C7, .int C501, .int 3, .int C552, .ref (ad 72), .ref (ad 73)]) := (congrFun e571 _).trans (va_up_self _ _ _)
                                have ok573 : OK cI cB cZ cO ad w570 := OK.up ok559 e571 (sM_mk (by omega) (by omega))
                                have kx574 : F6 w w570 := F6.up kx560 e571
                                exact e_v X h hr hlk dX9_lookAt_302 ⟨ok573, kx574, ⟨_, _, _, _, f572, by omega, by omega, by omega, by omega⟩⟩
                              · have hc569 : ¬ 2 ≤ (L550).toInt := i_nle hc569 rfl rfl
                                refine lv_aload_n hx hb dX9_lookAt_233 rfl (lv_at hl 3 rfl) ?_
                                refine r_get kc9 X h 64 13 (by decide) rfl cf561 (by decide) kv_665 rfl dX9_lookAt_234 ?_
                                refine lv_iconst (v := 2) hx hb dX9_lookAt_237 (by decide) ?_
                                refine lv_icmp_ne (tgt := 274) hx hb dX9_lookAt_238 (by decide) (fun _ => ?_) (fun hc => absurd hc (by decide))
                                refine lv_aload_n hx hb dX9_lookAt_274 rfl (lv_at hl 3 rfl) ?_
                                refine lv_aload_n hx hb dX9_lookAt_275 rfl (lv_at hl 3 rfl) ?_
                                refine r_get kc9 X h 64 13 (by decide) rfl cf561 (by decide) kv_665 rfl dX9_lookAt_276 ?_
                                refine lv_iconst (v := 2) hx hb dX9_lookAt_279 (by decide) ?_
                                refine lv_icmp_ne (tgt := 295) hx hb dX9_lookAt_280 (by decide) (fun _ => ?_) (fun hc => absurd hc (by decide))
                                refine lv_aload_n hx hb dX9_lookAt_295 rfl (lv_at hl 3 rfl) ?_
                                refine r_get kc9 X h 64 13 (by decide) rfl cf561 (by decide) kv_665 rfl dX9_lookAt_296 ?_
                                refine r_put kc9 X hD h 64 13 (by decide) rfl cf561 (by decide) kv_665 rfl rfl rfl (Nat.le_of_ble_eq_true rfl) dX9_lookAt_299 (fun H locs w575 e576 h => ?_)
                                have f577 : w575 64 = .inr (7, [.ref (ad 65), .ref (ad 66), .ref (ad 67), .ref (ad 68), .long x, .long y, .ref (ad 69), .int mb, .ref (ad 70), .ref (ad 71), .int bl, .int C7, .int C501, .int 3, .int C552, .ref (ad 72), .ref (ad 73)]) := (congrFun e576 _).trans (va_up_self _ _ _)
                                have ok578 : OK cI cB cZ cO ad w575 := OK.up ok559 e576 (sM_mk (by omega) (by omega))
                                have kx579 : F6 w w575 := F6.up kx560 e576
                                exact e_v X h hr hlk dX9_lookAt_302 ⟨ok578, kx579, ⟨_, _, _, _, f577, by omega, by omega, by omega, by omega⟩⟩
                        exact hloop553 3 (0 : Int32) (0 : Int32) wL500 _ _ _ (by have q0 : (0 : Int32).toInt = 0 := rfl; omega) (by have q0 : (0 : Int32).toInt = 0 := rfl; omega) ok511 kx512 cf513 (by have q0 : (0 : Int32).toInt = 0 := rfl; omega) h (lv_sub hl [0, 1, 2, 3, 4] rfl)
                      · have hc549 : ¬ (bl).toInt ≤ (z548).toInt := i_nle hc549 rfl rfl
                        refine lv_aload_n hx hb dX9_lookAt_156 rfl (lv_at hl 2 rfl) ?_
                        refine r_get kc9 X h 64 9 (by decide) rfl cf513 (by decide) kv_667 rfl dX9_lookAt_157 ?_
                        refine lv_aload_n hx hb dX9_lookAt_160 rfl (lv_at hl 2 rfl) ?_
                        refine r_get kc9 X h 64 11 (by decide) rfl cf513 (by decide) kv_663 rfl dX9_lookAt_161 ?_
                        refine lv_aload_n hx hb dX9_lookAt_164 rfl (lv_at hl 2 rfl) ?_
                        refine r_get kc9 X h 64 12 (by decide) rfl cf513 (by decide) kv_664 rfl dX9_lookAt_165 ?_
                        obtain ⟨z582, e580, t581⟩ := x_add (x := C7) (y := C501) (a := (C7).toInt) (b := (C501).toInt) rfl rfl (by omega) (by omega)
                        refine o_iadd (z := z582) hx hb dX9_lookAt_168 e580 ?_
                        obtain ⟨g584, f583, p585⟩ := (show sA cI 150 (anyA) (wL500 71) from ok511 71 (by decide))
                        have f586 : wL500 71 = .inl (cI, 150, .inl g584) := f583
                        obtain ⟨v587, e588⟩ : ∃ z : Int32, g584 (z582).toNatClampNeg = z := ⟨_, rfl⟩
                        refine o_iald (v := v587) X h 71 0 (by decide) rfl f586 rfl (in_of (by omega) (by omega)) e588 dX9_lookAt_169 ?_
                        refine lv_istore (lv' := [(4, .int v587), (3, .int L499), (2, .int v41), (0, .ref (ad 64)), (1, .int n)]) hx hb dX9_lookAt_170 hl (by decide) rfl (fun ls hl => ?_)
                        refine lv_aload_n hx hb dX9_lookAt_172 rfl (lv_at hl 3 rfl) ?_
                        refine r_get kc9 X h 64 13 (by decide) rfl cf513 (by decide) kv_665 rfl dX9_lookAt_173 ?_
                        refine lv_iconst (v := 1) hx hb dX9_lookAt_176 (by decide) ?_
                        refine lv_icmp_ne (tgt := 188) hx hb dX9_lookAt_177 (by decide) (fun _ => ?_) (fun hc => absurd hc (by decide))
                        refine lv_iload hx hb dX9_lookAt_188 (lv_at hl 0 rfl) ?_
                        refine n_Si (na := 1) (As := [.int v587]) (rest := []) X hD hN h (c_M_isFigure l G cI cB cZ cO ad wL500   v587  ) ⟨kv_671, kv_672, kv_470, kv_673⟩ ⟨by decide, by decide, by decide⟩ ⟨Nat.le_of_ble_eq_true rfl, Nat.le_of_ble_eq_true rfl⟩ ⟨Nat.zero_le _, Nat.zero_le _⟩ rfl hl.1 rfl (Nat.le_of_ble_eq_true rfl) dX9_lookAt_190 (fun r590 w591 H locs hp592 h => ?_)
                        obtain ⟨rfl, hr593⟩ := hp592
                        rcases hr593 with ⟨hq594, hq595, rfl⟩ | ⟨hq596, rfl⟩
                        · refine lv_istore_n (lv' := [(3, .int 1), (4, .int v587), (2, .int v41), (0, .ref (ad 64)), (1, .int n)]) hx hb dX9_lookAt_193 rfl hl (by decide) rfl (fun ls hl => ?_)
                          refine lv_aload_n hx hb dX9_lookAt_194 rfl (lv_at hl 3 rfl) ?_
                          refine lv_dup hx hb dX9_lookAt_195 rfl ?_
                          refine r_get kc9 X h 64 12 (by decide) rfl cf513 (by decide) kv_664 rfl dX9_lookAt_196 ?_
                          refine lv_iload_n hx hb dX9_lookAt_199 rfl (lv_at hl 0 rfl) ?_
                          refine lv_if_eq (tgt := 207) hx hb dX9_lookAt_200 (by decide) (fun hc => absurd hc (by decide)) (fun _ => ?_)
                          refine lv_iconst (v := 1) hx hb dX9_lookAt_203 (by decide) ?_
                          refine lv_goto (tgt := 208) hx hb dX9_lookAt_204 (by decide) ?_
                          obtain ⟨z599, e597, t598⟩ := x_add (x := C501) (y := (1 : Int32)) (a := (C501).toInt) (b := 1) rfl rfl (by omega) (by omega)
                          refine o_iadd (z := z599) hx hb dX9_lookAt_208 e597 ?_
                          refine r_put kc9 X hD h 64 12 (by decide) rfl cf513 (by decide) kv_664 rfl rfl rfl (Nat.le_of_ble_eq_true rfl) dX9_lookAt_209 (fun H locs w600 e601 h => ?_)
                          have f602 : w600 64 = .inr (7, [.ref (ad 65), .ref (ad 66), .ref (ad 67), .ref (ad 68), .long x, .long y, .ref (ad 69), .int mb, .ref (ad 70), .ref (ad 71), .int bl, .int C7, .int z599, .int 3, .int 0, .ref (ad 72), .ref (ad 73)]) := (congrFun e601 _).trans (va_up_self _ _ _)
                          have ok603 : OK cI cB cZ cO ad w600 := OK.up ok511 e601 (sM_mk (by omega) (by omega))
                          have kx604 : F6 w w600 := F6.up kx512 e601
                          refine lv_goto (tgt := 136) hx hb dX9_lookAt_212 (by decide) ?_
                          exact ih504  (1 : Int32) z599 w600 _ _ _ (by have q0 : (1 : Int32).toInt = 1 := rfl; omega) (by have q0 : (1 : Int32).toInt = 1 := rfl; omega) (by have q0 : (1 : Int32).toInt = 1 := rfl; omega) (by have q0 : (1 : Int32).toInt = 1 := rfl; omega) (by have q0 : (1 : Int32).toInt = 1 := rfl; omega) ok603 kx604 f602 (by have q0 : (1 : Int32).toInt = 1 := rfl; omega) h (lv_sub hl [0, 2, 3, 4] rfl)
                        · refine lv_istore_n (lv' := [(3, .int 0), (4, .int v587), (2, .int v41), (0, .ref (ad 64)), (1, .int n)]) hx hb dX9_lookAt_193 rfl hl (by decide) rfl (fun ls hl => ?_)
                          refine lv_aload_n hx hb dX9_lookAt_194 rfl (lv_at hl 3 rfl) ?_
                          refine lv_dup hx hb dX9_lookAt_195 rfl ?_
                          refine r_get kc9 X h 64 12 (by decide) rfl cf513 (by decide) kv_664 rfl dX9_lookAt_196 ?_
                          refine lv_iload_n hx hb dX9_lookAt_199 rfl (lv_at hl 0 rfl) ?_
                          refine lv_if_eq (tgt := 207) hx hb dX9_lookAt_200 (by decide) (fun _ => ?_) (fun hc => absurd (by decide) hc)
                          refine lv_iconst (v := 0) hx hb dX9_lookAt_207 (by decide) ?_
                          obtain ⟨z607, e605, t606⟩ := x_add (x := C501) (y := (0 : Int32)) (a := (C501).toInt) (b := 0) rfl rfl (by omega) (by omega)
                          refine o_iadd (z := z607) hx hb dX9_lookAt_208 e605 ?_
                          refine r_put kc9 X hD h 64 12 (by decide) rfl cf513 (by decide) kv_664 rfl rfl rfl (Nat.le_of_ble_eq_true rfl) dX9_lookAt_209 (fun H locs w608 e609 h => ?_)
                          have f610 : w608 64 = .inr (7, [.ref (ad 65), .ref (ad 66), .ref (ad 67), .ref (ad 68), .long x, .long y, .ref (ad 69), .int mb, .ref (ad 70), .ref (ad 71), .int bl, .int C7, .int z607, .int 3, .int 0, .ref (ad 72), .ref (ad 73)]) := (congrFun e609 _).trans (va_up_self _ _ _)
                          have ok611 : OK cI cB cZ cO ad w608 := OK.up ok511 e609 (sM_mk (by omega) (by omega))
                          have kx612 : F6 w w608 := F6.up kx512 e609
                          refine lv_goto (tgt := 136) hx hb dX9_lookAt_212 (by decide) ?_
                          exact ih504  (0 : Int32) z607 w608 _ _ _ (by have q0 : (0 : Int32).toInt = 0 := rfl; omega) (by have q0 : (0 : Int32).toInt = 0 := rfl; omega) (by have q0 : (0 : Int32).toInt = 0 := rfl; omega) (by have q0 : (0 : Int32).toInt = 0 := rfl; omega) (by have q0 : (0 : Int32).toInt = 0 := rfl; omega) ok611 kx612 f610 (by have q0 : (0 : Int32).toInt = 0 := rfl; omega) h (lv_sub hl [0, 2, 3, 4] rfl)
                exact hloop502 152 (0 : Int32) (1 : Int32) w494 _ _ _ (by have q0 : (0 : Int32).toInt = 0 := rfl; have q1 : (1 : Int32).toInt = 1 := rfl; omega) (by have q0 : (0 : Int32).toInt = 0 := rfl; have q1 : (1 : Int32).toInt = 1 := rfl; omega) (by have q0 : (0 : Int32).toInt = 0 := rfl; have q1 : (1 : Int32).toInt = 1 := rfl; omega) (by have q0 : (0 : Int32).toInt = 0 := rfl; have q1 : (1 : Int32).toInt = 1 := rfl; omega) (by have q0 : (0 : Int32).toInt = 0 := rfl; have q1 : (1 : Int32).toInt = 1 := rfl; omega) ok497 kx498 f496 (by have q0 : (0 : Int32).toInt = 0 := rfl; have q1 : (1 : Int32).toInt = 1 := rfl; omega) h (lv_sub hl [0, 1, 2, 3] rfl)
        · have hc36 : (C7).toInt = (bl).toInt := i_eq hc36 rfl rfl
          exact e_v X h hr hlk dX9_lookAt_69 ⟨ok34, kx35, ⟨_, _, _, _, f33, by omega, by omega, by omega, by omega⟩⟩
      · have hc20 : ¬ (bl).toInt ≤ (C7).toInt := i_nle hc20 rfl rfl
        refine lv_aload_n hx hb dX9_lookAt_16 rfl (lv_at hl 0 rfl) ?_
        refine r_get kc9 X h 64 9 (by decide) rfl cf18 (by decide) kv_667 rfl dX9_lookAt_17 ?_
        refine lv_aload_n hx hb dX9_lookAt_20 rfl (lv_at hl 0 rfl) ?_
        refine r_get kc9 X h 64 11 (by decide) rfl cf18 (by decide) kv_663 rfl dX9_lookAt_21 ?_
        obtain ⟨g614, f613, p615⟩ := (show sA cI 150 (anyA) (wL6 71) from ok16 71 (by decide))
        have f616 : wL6 71 = .inl (cI, 150, .inl g614) := f613
        obtain ⟨v617, e618⟩ : ∃ z : Int32, g614 (C7).toNatClampNeg = z := ⟨_, rfl⟩
        refine o_iald (v := v617) X h 71 0 (by decide) rfl f616 rfl (in_of (by omega) (by omega)) e618 dX9_lookAt_24 ?_
        refine lv_bipush (v := 32) hx hb dX9_lookAt_25 (by decide) ?_
        refine lv_icmp_ne (tgt := 43) hx hb dX9_lookAt_27 (by decide) (fun hc620 => ?_) (fun hc620 => ?_)
        · have hc620 : ¬ (v617).toInt = 32 := i_ne hc620 rfl rfl
          refine lv_aload_n hx hb dX9_lookAt_43 rfl (lv_at hl 0 rfl) ?_
          refine lv_iconst (v := 0) hx hb dX9_lookAt_44 (by decide) ?_
          refine r_put kc9 X hD h 64 12 (by decide) rfl cf18 (by decide) kv_664 rfl rfl rfl (Nat.le_of_ble_eq_true rfl) dX9_lookAt_45 (fun H locs w621 e622 h => ?_)
          have f623 : w621 64 = .inr (7, [.ref (ad 65), .ref (ad 66), .ref (ad 67), .ref (ad 68), .long x, .long y, .ref (ad 69), .int mb, .ref (ad 70), .ref (ad 71), .int bl, .int C7, .int 0, .int tk, .int va, .ref (ad 72), .ref (ad 73)]) := (congrFun e622 _).trans (va_up_self _ _ _)
          have ok624 : OK cI cB cZ cO ad w621 := OK.up ok16 e622 (sM_mk (by omega) (by omega))
          have kx625 : F6 w w621 := F6.up kx17 e622
          refine lv_aload_n hx hb dX9_lookAt_48 rfl (lv_at hl 0 rfl) ?_
          refine lv_iconst (v := 0) hx hb dX9_lookAt_49 (by decide) ?_
          refine r_put kc9 X hD h 64 13 (by decide) rfl f623 (by decide) kv_665 rfl rfl rfl (Nat.le_of_ble_eq_true rfl) dX9_lookAt_50 (fun H locs w626 e627 h => ?_)
          have f628 : w626 64 = .inr (7, [.ref (ad 65), .ref (ad 66), .ref (ad 67), .ref (ad 68), .long x, .long y, .ref (ad 69), .int mb, .ref (ad 70), .ref (ad 71), .int bl, .int C7, .int 0, .int 0, .int va, .ref (ad 72), .ref (ad 73)]) := (congrFun e627 _).trans (va_up_self _ _ _)
          have ok629 : OK cI cB cZ cO ad w626 := OK.up ok624 e627 (sM_mk (by omega) (by omega))
          have kx630 : F6 w w626 := F6.up kx625 e627
          refine lv_aload_n hx hb dX9_lookAt_53 rfl (lv_at hl 0 rfl) ?_
          refine lv_iconst (v := 0) hx hb dX9_lookAt_54 (by decide) ?_
          refine r_put kc9 X hD h 64 14 (by decide) rfl f628 (by decide) kv_666 rfl rfl rfl (Nat.le_of_ble_eq_true rfl) dX9_lookAt_55 (fun H locs w631 e632 h => ?_)
          have f633 : w631 64 = .inr (7, [.ref (ad 65), .ref (ad 66), .ref (ad 67), .ref (ad 68), .long x, .long y, .ref (ad 69), .int mb, .ref (ad 70), .ref (ad 71), .int bl, .int C7, .int 0, .int 0, .int 0, .ref (ad 72), .ref (ad 73)]) := (congrFun e632 _).trans (va_up_self _ _ _)
          have ok634 : OK cI cB cZ cO ad w631 := OK.up ok629 e632 (sM_mk (by omega) (by omega))
          have kx635 : F6 w w631 := F6.up kx630 e632
          refine lv_aload_n hx hb dX9_lookAt_58 rfl (lv_at hl 0 rfl) ?_
          refine r_get kc9 X h 64 11 (by decide) rfl f633 (by decide) kv_663 rfl dX9_lookAt_59 ?_
          refine lv_aload_n hx hb dX9_lookAt_62 rfl (lv_at hl 0 rfl) ?_
          refine r_get kc9 X h 64 10 (by decide) rfl f633 (by decide) kv_539 rfl dX9_lookAt_63 ?_
          refine lv_icmp_ne (tgt := 70) hx hb dX9_lookAt_66 (by decide) (fun hc636 => ?_) (fun hc636 => ?_)
          · have hc636 : ¬ (C7).toInt = (bl).toInt := i_ne hc636 rfl rfl
            refine lv_aload_n hx hb dX9_lookAt_70 rfl (lv_at hl 0 rfl) ?_
            refine r_get kc9 X h 64 9 (by decide) rfl f633 (by decide) kv_667 rfl dX9_lookAt_71 ?_
            refine lv_aload_n hx hb dX9_lookAt_74 rfl (lv_at hl 0 rfl) ?_
            refine r_get kc9 X h 64 11 (by decide) rfl f633 (by decide) kv_663 rfl dX9_lookAt_75 ?_
            have f637 : w621 71 = .inl (cI, 150, .inl g614) := by rw [e622, va_up_ne _ _ (by decide)]; exact f616
            have f638 : w626 71 = .inl (cI, 150, .inl g614) := by rw [e627, va_up_ne _ _ (by decide)]; exact f637
            have f639 : w631 71 = .inl (cI, 150, .inl g614) := by rw [e632, va_up_ne _ _ (by decide)]; exact f638
            refine o_iald (v := v617) X h 71 0 (by decide) rfl f639 rfl (in_of (by omega) (by omega)) e618 dX9_lookAt_78 ?_
            refine lv_istore_n (lv' := [(2, .int v617), (0, .ref (ad 64)), (1, .int n)]) hx hb dX9_lookAt_79 rfl hl (by decide) rfl (fun ls hl => ?_)
            refine lv_aload_n hx hb dX9_lookAt_80 rfl (lv_at hl 1 rfl) ?_
            refine lv_iload_n hx hb dX9_lookAt_81 rfl (lv_at hl 0 rfl) ?_
            refine n_Si (na := 1) (As := [.int v617]) (rest := [.ref (ad 64)]) X hD hN h (c_M_isSmall l G cI cB cZ cO ad w631   v617  ) ⟨kv_668, kv_669, kv_470, kv_670⟩ ⟨by decide, by decide, by decide⟩ ⟨Nat.le_of_ble_eq_true rfl, Nat.le_of_ble_eq_true rfl⟩ ⟨Nat.zero_le _, Nat.zero_le _⟩ rfl hl.1 rfl (Nat.le_of_ble_eq_true rfl) dX9_lookAt_82 (fun r640 w641 H locs hp642 h => ?_)
            obtain ⟨rfl, hr643⟩ := hp642
            rcases hr643 with ⟨hq644, hq645, rfl⟩ | ⟨hq646, rfl⟩
            · refine lv_if_eq (tgt := 92) hx hb dX9_lookAt_85 (by decide) (fun hc => absurd hc (by decide)) (fun _ => ?_)
              refine lv_iconst (v := 1) hx hb dX9_lookAt_88 (by decide) ?_
              refine lv_goto (tgt := 114) hx hb dX9_lookAt_89 (by decide) ?_
              refine r_put kc9 X hD h 64 13 (by decide) rfl f633 (by decide) kv_665 rfl rfl rfl (Nat.le_of_ble_eq_true rfl) dX9_lookAt_114 (fun H locs w647 e648 h => ?_)
              have f649 : w647 64 = .inr (7, [.ref (ad 65), .ref (ad 66), .ref (ad 67), .ref (ad 68), .long x, .long y, .ref (ad 69), .int mb, .ref (ad 70), .ref (ad 71), .int bl, .int C7, .int 0, .int 1, .int 0, .ref (ad 72), .ref (ad 73)]) := (congrFun e648 _).trans (va_up_self _ _ _)
              have ok650 : OK cI cB cZ cO ad w647 := OK.up ok634 e648 (sM_mk (by omega) (by omega))
              have kx651 : F6 w w647 := F6.up kx635 e648
              refine lv_aload_n hx hb dX9_lookAt_117 rfl (lv_at hl 1 rfl) ?_
              refine lv_iconst (v := 1) hx hb dX9_lookAt_118 (by decide) ?_
              refine r_put kc9 X hD h 64 12 (by decide) rfl f649 (by decide) kv_664 rfl rfl rfl (Nat.le_of_ble_eq_true rfl) dX9_lookAt_119 (fun H locs w652 e653 h => ?_)
              have f654 : w652 64 = .inr (7, [.ref (ad 65), .ref (ad 66), .ref (ad 67), .ref (ad 68), .long x, .long y, .ref (ad 69), .int mb, .ref (ad 70), .ref (ad 71), .int bl, .int C7, .int 1, .int 1, .int 0, .ref (ad 72), .ref (ad 73)]) := (congrFun e653 _).trans (va_up_self _ _ _)
              have ok655 : OK cI cB cZ cO ad w652 := OK.up ok650 e653 (sM_mk (by omega) (by omega))
              have kx656 : F6 w w652 := F6.up kx651 e653
              refine lv_aload_n hx hb dX9_lookAt_122 rfl (lv_at hl 1 rfl) ?_
              refine r_get kc9 X h 64 13 (by decide) rfl f654 (by decide) kv_665 rfl dX9_lookAt_123 ?_
              refine lv_iconst (v := 3) hx hb dX9_lookAt_126 (by decide) ?_
              refine lv_icmp_ge (tgt := 134) hx hb dX9_lookAt_127 (by decide) (fun hc => absurd hc (by decide)) (fun _ => ?_)
              refine lv_iconst (v := 1) hx hb dX9_lookAt_130 (by decide) ?_
              refine lv_goto (tgt := 135) hx hb dX9_lookAt_131 (by decide) ?_
              refine lv_istore_n (lv' := [(3, .int 1), (2, .int v617), (0, .ref (ad 64)), (1, .int n)]) hx hb dX9_lookAt_135 rfl hl (by decide) rfl (fun ls hl => ?_)
              have hloop660 : ∀ (d661 : Nat) (L657 : Int32) (C659 : Int32) (wL658 : Nat → va_E) (H : Heap) (locs : List Loc) (ls : Array Slot), 0 ≤ L657.toInt → L657.toInt ≤ 1 → C7.toInt + C659.toInt ≤ bl.toInt → 1 ≤ C659.toInt → C659.toInt ≤ 150 → OK cI cB cZ cO ad wL658 → F6 w wL658 → wL658 64 = .inr (7, [.ref (ad 65), .ref (ad 66), .ref (ad 67), .ref (ad 68), .long x, .long y, .ref (ad 69), .int mb, .ref (ad 70), .ref (ad 71), .int bl, .int C7, .int C659, .int 1, .int 0, .ref (ad 72), .ref (ad 73)]) → bl.toInt - C7.toInt - C659.toInt + L657.toInt < (d661 : Int) → St G 74 ad (wA 74 ad s.heap.size) s.heap wL658 H locs → lv_has ls 5 [(3, .int L657), (2, .int v617), (0, .ref (ad 64)), (1, .int n)] → W p l e { frames := 2, cells := 0, slots := 0, locals := 45 } s m [.ref (ad 64), .int n].toArray below meth c H locs 0 0 (MQ below (va_Qv (fun w1 => OK cI cB cZ cO ad w1 ∧ F6 w w1 ∧ ∃ ta1 tl1 tk1 va1 : Int32, w1 64 = .inr (7, [.ref (ad 65), .ref (ad 66), .ref (ad 67), .ref (ad 68), .long x, .long y, .ref (ad 69), .int mb, .ref (ad 70), .ref (ad 71), .int bl, .int ta1, .int tl1, .int tk1, .int va1, .ref (ad 72), .ref (ad 73)]) ∧ n.toInt ≤ ta1.toInt ∧ 0 ≤ tl1.toInt ∧ ta1.toInt + tl1.toInt ≤ bl.toInt ∧ (tk1.toInt = 0 ∨ 1 ≤ tl1.toInt)) (Aft G 74 ad) (wA 74 ad s.heap.size)) [.ref (ad 64), .int n].toArray s 0 0 (wA 74 ad s.heap.size)) (F0 m 136 ls []) := by
                intro d661
                induction d661 with
                | zero => intro L657 C659 wL658 H locs ls hi664 hi665 hi666 hi667 hi668 ok669 kx670 cf671 hm663 h hl; exfalso; omega
                | succ d661 ih662 =>
                  intro L657 C659 wL658 H locs ls hi664 hi665 hi666 hi667 hi668 ok669 kx670 cf671 hm663 h hl
                  refine lv_iload_n hx hb dX9_lookAt_136 rfl (lv_at hl 0 rfl) ?_
                  refine lv_if_eq (tgt := 215) hx hb dX9_lookAt_137 (by decide) (fun hc673 => ?_) (fun hc673 => ?_)
                  · have hc673 : (L657).toInt = 0 := i_eq hc673 rfl rfl
                    refine lv_iconst (v := 0) hx hb dX9_lookAt_215 (by decide) ?_
                    refine lv_istore (lv' := [(4, .int 0), (3, .int L657), (2, .int v617), (0, .ref (ad 64)), (1, .int n)]) hx hb dX9_lookAt_216 hl (by decide) rfl (fun ls hl => ?_)
                    have hloop677 : ∀ (d678 : Nat) (L674 : Int32) (C676 : Int32) (wL675 : Nat → va_E) (H : Heap) (locs : List Loc) (ls : Array Slot), 0 ≤ L674.toInt → L674.toInt ≤ 2 → OK cI cB cZ cO ad wL675 → F6 w wL675 → wL675 64 = .inr (7, [.ref (ad 65), .ref (ad 66), .ref (ad 67), .ref (ad 68), .long x, .long y, .ref (ad 69), .int mb, .ref (ad 70), .ref (ad 71), .int bl, .int C7, .int C659, .int 1, .int C676, .ref (ad 72), .ref (ad 73)]) → 2 - L674.toInt < (d678 : Int) → St G 74 ad (wA 74 ad s.heap.size) s.heap wL675 H locs → lv_has ls 5 [(4, .int L674), (3, .int L657), (2, .int v617), (0, .ref (ad 64)), (1, .int n)] → W p l e { frames := 2, cells := 0, slots := 0, locals := 45 } s m [.ref (ad 64), .int n].toArray below meth c H locs 0 0 (MQ below (va_Qv (fun w1 => OK cI cB cZ cO ad w1 ∧ F6 w w1 ∧ ∃ ta1 tl1 tk1 va1 : Int32, w1 64 = .inr (7, [.ref (ad 65), .ref (ad 66), .ref (ad 67), .ref (ad 68), .long x, .long y, .ref (ad 69), .int mb, .ref (ad 70), .ref (ad 71), .int bl, .int ta1, .int tl1, .int tk1, .int va1, .ref (ad 72), .ref (ad 73)]) ∧ n.toInt ≤ ta1.toInt ∧ 0 ≤ tl1.toInt ∧ ta1.toInt + tl1.toInt ≤ bl.toInt ∧ (tk1.toInt = 0 ∨ 1 ≤ tl1.toInt)) (Aft G 74 ad) (wA 74 ad s.heap.size)) [.ref (ad 64), .int n].toArray s 0 0 (wA 74 ad s.heap.size)) (F0 m 218 ls []) := by
                      intro d678
                      induction d678 with
                      | zero => intro L674 C676 wL675 H locs ls hi681 hi682 ok683 kx684 cf685 hm680 h hl; exfalso; omega
                      | succ d678 ih679 =>
                        intro L674 C676 wL675 H locs ls hi681 hi682 ok683 kx684 cf685 hm680 h hl
                        refine lv_iload hx hb dX9_lookAt_218 (lv_at hl 0 rfl) ?_
                        refine lv_aload_n hx hb dX9_lookAt_220 rfl (lv_at hl 3 rfl) ?_
                        refine r_get kc9 X h 64 12 (by decide) rfl cf685 (by decide) kv_664 rfl dX9_lookAt_221 ?_
                        refine lv_icmp_ge (tgt := 274) hx hb dX9_lookAt_224 (by decide) (fun hc687 => ?_) (fun hc687 => ?_)
                        · have hc687 : (C659).toInt ≤ (L674).toInt := i_le hc687 rfl rfl
                          refine lv_aload_n hx hb dX9_lookAt_274 rfl (lv_at hl 3 rfl) ?_
                          refine lv_aload_n hx hb dX9_lookAt_275 rfl (lv_at hl 3 rfl) ?_
                          refine r_get kc9 X h 64 13 (by decide) rfl cf685 (by decide) kv_665 rfl dX9_lookAt_276 ?_
                          refine lv_iconst (v := 2) hx hb dX9_lookAt_279 (by decide) ?_
                          refine lv_icmp_ne (tgt := 295) hx hb dX9_lookAt_280 (by decide) (fun _ => ?_) (fun hc => absurd hc (by decide))
                          refine lv_aload_n hx hb dX9_lookAt_295 rfl (lv_at hl 3 rfl) ?_
                          refine r_get kc9 X h 64 13 (by decide) rfl cf685 (by decide) kv_665 rfl dX9_lookAt_296 ?_
                          refine r_put kc9 X hD h 64 13 (by decide) rfl cf685 (by decide) kv_665 rfl rfl rfl (Nat.le_of_ble_eq_true rfl) dX9_lookAt_299 (fun H locs w688 e689 h => ?_)
                          have f690 : w688 64 = .inr (7, [.ref (ad 65), .ref (ad 66), .ref (ad 67), .ref (ad 68), .long x, .long y, .ref (ad 69), .int mb, .ref (ad 70), .ref (ad 71), .int bl, .int C7, .int C659, .int 1, .int C676, .ref (ad 72), .ref (ad 73)]) := (congrFun e689 _).trans (va_up_self _ _ _)
                          have ok691 : OK cI cB cZ cO ad w688 := OK.up ok683 e689 (sM_mk (by omega) (by omega))
                          have kx692 : F6 w w688 := F6.up kx684 e689
                          exact e_v X h hr hlk dX9_lookAt_302 ⟨ok691, kx692, ⟨_, _, _, _, f690, by omega, by omega, by omega, by omega⟩⟩
                        · have hc687 : ¬ (C659).toInt ≤ (L674).toInt := i_nle hc687 rfl rfl
                          refine lv_iload hx hb dX9_lookAt_227 (lv_at hl 0 rfl) ?_
                          refine lv_iconst (v := 2) hx hb dX9_lookAt_229 (by decide) ?_
                          refine lv_icmp_ge (tgt := 274) hx hb dX9_lookAt_230 (by decide) (fun hc693 => ?_) (fun hc693 => ?_)
                          · have hc693 : 2 ≤ (L674).toInt := i_le hc693 rfl rfl
                            refine lv_aload_n hx hb dX9_lookAt_274 rfl (lv_at hl 3 rfl) ?_
                            refine lv_aload_n hx hb dX9_lookAt_275 rfl (lv_at hl 3 rfl) ?_
                            refine r_get kc9 X h 64 13 (by decide) rfl cf685 (by decide) kv_665 rfl dX9_lookAt_276 ?_
                            refine lv_iconst (v := 2) hx hb dX9_lookAt_279 (by decide) ?_
                            refine lv_icmp_ne (tgt := 295) hx hb dX9_lookAt_280 (by decide) (fun _ => ?_) (fun hc => absurd hc (by decide))
                            refine lv_aload_n hx hb dX9_lookAt_295 rfl (lv_at hl 3 rfl) ?_
                            refine r_get kc9 X h 64 13 (by decide) rfl cf685 (by decide) kv_665 rfl dX9_lookAt_296 ?_
                            refine r_put kc9 X hD h 64 13 (by decide) rfl cf685 (by decide) kv_665 rfl rfl rfl (Nat.le_of_ble_eq_true rfl) dX9_lookAt_299 (fun H locs w694 e695 h => ?_)
                            have f696 : w694 64 = .inr (7, [.ref (ad 65), .ref (ad 66), .ref (ad 67), .ref (ad 68), .long x, .long y, .ref (ad 69), .int mb, .ref (ad 70), .ref (ad 71), .int bl, .int C7, .int C659, .int 1, .int C676, .ref (ad 72), .ref (ad 73)]) := (congrFun e695 _).trans (va_up_self _ _ _)
                            have ok697 : OK cI cB cZ cO ad w694 := OK.up ok683 e695 (sM_mk (by omega) (by omega))
                            have kx698 : F6 w w694 := F6.up kx684 e695
                            exact e_v X h hr hlk dX9_lookAt_302 ⟨ok697, kx698, ⟨_, _, _, _, f696, by omega, by omega, by omega, by omega⟩⟩
                          · have hc693 : ¬ 2 ≤ (L674).toInt := i_nle hc693 rfl rfl
                            refine lv_aload_n hx hb dX9_lookAt_233 rfl (lv_at hl 3 rfl) ?_
                            refine r_get kc9 X h 64 13 (by decide) rfl cf685 (by decide) kv_665 rfl dX9_lookAt_234 ?_
                            refine lv_iconst (v := 2) hx hb dX9_lookAt_237 (by decide) ?_
                            refine lv_icmp_ne (tgt := 274) hx hb dX9_lookAt_238 (by decide) (fun _ => ?_) (fun hc => absurd hc (by decide))
                            refine lv_aload_n hx hb dX9_lookAt_274 rfl (lv_at hl 3 rfl) ?_
                            refine lv_aload_n hx hb dX9_lookAt_275 rfl (lv_at hl 3 rfl) ?_
                            refine r_get kc9 X h 64 13 (by decide) rfl cf685 (by decide) kv_665 rfl dX9_lookAt_276 ?_
                            refine lv_iconst (v := 2) hx hb dX9_lookAt_279 (by decide) ?_
                            refine lv_icmp_ne (tgt := 295) hx hb dX9_lookAt_280 (by decide) (fun _ => ?_) (fun hc => absurd hc (by decide))
                            refine lv_aload_n hx hb dX9_lookAt_295 rfl (lv_at hl 3 rfl) ?_
                            refine r_get kc9 X h 64 13 (by decide) rfl cf685 (by decide) kv_665 rfl dX9_lookAt_296 ?_
                            refine r_put kc9 X hD h 64 13 (by decide) rfl cf685 (by decide) kv_665 rfl rfl rfl (Nat.le_of_ble_eq_true rfl) dX9_lookAt_299 (fun H locs w699 e700 h => ?_)
                            have f701 : w699 64 = .inr (7, [.ref (ad 65), .ref (ad 66), .ref (ad 67), .ref (ad 68), .long x, .long y, .ref (ad 69), .int mb, .ref (ad 70), .ref (ad 71), .int bl, .int C7, .int C659, .int 1, .int C676, .ref (ad 72), .ref (ad 73)]) := (congrFun e700 _).trans (va_up_self _ _ _)
                            have ok702 : OK cI cB cZ cO ad w699 := OK.up ok683 e700 (sM_mk (by omega) (by omega))
                            have kx703 : F6 w w699 := F6.up kx684 e700
                            exact e_v X h hr hlk dX9_lookAt_302 ⟨ok702, kx703, ⟨_, _, _, _, f701, by omega, by omega, by omega, by omega⟩⟩
                    exact hloop677 3 (0 : Int32) (0 : Int32) wL658 _ _ _ (by have q0 : (0 : Int32).toInt = 0 := rfl; omega) (by have q0 : (0 : Int32).toInt = 0 := rfl; omega) ok669 kx670 cf671 (by have q0 : (0 : Int32).toInt = 0 := rfl; omega) h (lv_sub hl [0, 1, 2, 3, 4] rfl)
                  · have hc673 : ¬ (L657).toInt = 0 := i_ne hc673 rfl rfl
                    refine lv_aload_n hx hb dX9_lookAt_140 rfl (lv_at hl 2 rfl) ?_
                    refine r_get kc9 X h 64 11 (by decide) rfl cf671 (by decide) kv_663 rfl dX9_lookAt_141 ?_
                    refine lv_aload_n hx hb dX9_lookAt_144 rfl (lv_at hl 2 rfl) ?_
                    refine r_get kc9 X h 64 12 (by decide) rfl cf671 (by decide) kv_664 rfl dX9_lookAt_145 ?_
                    obtain ⟨z706, e704, t705⟩ := x_add (x := C7) (y := C659) (a := (C7).toInt) (b := (C659).toInt) rfl rfl (by omega) (by omega)
                    refine o_iadd (z := z706) hx hb dX9_lookAt_148 e704 ?_
                    refine lv_aload_n hx hb dX9_lookAt_149 rfl (lv_at hl 2 rfl) ?_
                    refine r_get kc9 X h 64 10 (by decide) rfl cf671 (by decide) kv_539 rfl dX9_lookAt_150 ?_
                    refine lv_icmp_ge (tgt := 215) hx hb dX9_lookAt_153 (by decide) (fun hc707 => ?_) (fun hc707 => ?_)
                    · have hc707 : (bl).toInt ≤ (z706).toInt := i_le hc707 rfl rfl
                      refine lv_iconst (v := 0) hx hb dX9_lookAt_215 (by decide) ?_
                      refine lv_istore (lv' := [(4, .int 0), (3, .int L657), (2, .int v617), (0, .ref (ad 64)), (1, .int n)]) hx hb dX9_lookAt_216 hl (by decide) rfl (fun ls hl => ?_)
                      have hloop711 : ∀ (d712 : Nat) (L708 : Int32) (C710 : Int32) (wL709 : Nat → va_E) (H : Heap) (locs : List Loc) (ls : Array Slot), 0 ≤ L708.toInt → L708.toInt ≤ 2 → OK cI cB cZ cO ad wL709 → F6 w wL709 → wL709 64 = .inr (7, [.ref (ad 65), .ref (ad 66), .ref (ad 67), .ref (ad 68), .long x, .long y, .ref (ad 69), .int mb, .ref (ad 70), .ref (ad 71), .int bl, .int C7, .int C659, .int 1, .int C710, .ref (ad 72), .ref (ad 73)]) → 2 - L708.toInt < (d712 : Int) → St G 74 ad (wA 74 ad s.heap.size) s.heap wL709 H locs → lv_has ls 5 [(4, .int L708), (3, .int L657), (2, .int v617), (0, .ref (ad 64)), (1, .int n)] → W p l e { frames := 2, cells := 0, slots := 0, locals := 45 } s m [.ref (ad 64), .int n].toArray below meth c H locs 0 0 (MQ below (va_Qv (fun w1 => OK cI cB cZ cO ad w1 ∧ F6 w w1 ∧ ∃ ta1 tl1 tk1 va1 : Int32, w1 64 = .inr (7, [.ref (ad 65), .ref (ad 66), .ref (ad 67), .ref (ad 68), .long x, .long y, .ref (ad 69), .int mb, .ref (ad 70), .ref (ad 71), .int bl, .int ta1, .int tl1, .int tk1, .int va1, .ref (ad 72), .ref (ad 73)]) ∧ n.toInt ≤ ta1.toInt ∧ 0 ≤ tl1.toInt ∧ ta1.toInt + tl1.toInt ≤ bl.toInt ∧ (tk1.toInt = 0 ∨ 1 ≤ tl1.toInt)) (Aft G 74 ad) (wA 74 ad s.heap.size)) [.ref (ad 64), .int n].toArray s 0 0 (wA 74 ad s.heap.size)) (F0 m 218 ls []) := by
                        intro d712
                        induction d712 with
                        | zero => intro L708 C710 wL709 H locs ls hi715 hi716 ok717 kx718 cf719 hm714 h hl; exfalso; omega
                        | succ d712 ih713 =>
                          intro L708 C710 wL709 H locs ls hi715 hi716 ok717 kx718 cf719 hm714 h hl
                          refine lv_iload hx hb dX9_lookAt_218 (lv_at hl 0 rfl) ?_
                          refine lv_aload_n hx hb dX9_lookAt_220 rfl (lv_at hl 3 rfl) ?_
                          refine r_get kc9 X h 64 12 (by decide) rfl cf719 (by decide) kv_664 rfl dX9_lookAt_221 ?_
                          refine lv_icmp_ge (tgt := 274) hx hb dX9_lookAt_224 (by decide) (fun hc721 => ?_) (fun hc721 => ?_)
                          · have hc721 : (C659).toInt ≤ (L708).toInt := i_le hc721 rfl rfl
                            refine lv_aload_n hx hb dX9_lookAt_274 rfl (lv_at hl 3 rfl) ?_
                            refine lv_aload_n hx hb dX9_lookAt_275 rfl (lv_at hl 3 rfl) ?_
                            refine r_get kc9 X h 64 13 (by decide) rfl cf719 (by decide) kv_665 rfl dX9_lookAt_276 ?_
                            refine lv_iconst (v := 2) hx hb dX9_lookAt_279 (by decide) ?_
                            refine lv_icmp_ne (tgt := 295) hx hb dX9_lookAt_280 (by decide) (fun _ => ?_) (fun hc => absurd hc (by decide))
                            refine lv_aload_n hx hb dX9_lookAt_295 rfl (lv_at hl 3 rfl) ?_
                            refine r_get kc9 X h 64 13 (by decide) rfl cf719 (by decide) kv_665 rfl dX9_lookAt_296 ?_
                            refine r_put kc9 X hD h 64 13 (by decide) rfl cf719 (by decide) kv_665 rfl rfl rfl (Nat.le_of_ble_eq_true rfl) dX9_lookAt_299 (fun H locs w722 e723 h => ?_)
                            have f724 : w722 64 = .inr (7, [.ref (ad 65), .ref (ad 66), .ref (ad 67), .ref (ad 68), .long x, .long y, .ref (ad 69), .int mb, .ref (ad 70), .ref (ad 71), .int bl, .int C7, .int C659, .int 1, .int C710, .ref (ad 72), .ref (ad 73)]) := (congrFun e723 _).trans (va_up_self _ _ _)
                            have ok725 : OK cI cB cZ cO ad w722 := OK.up ok717 e723 (sM_mk (by omega) (by omega))
                            have kx726 : F6 w w722 := F6.up kx718 e723
                            exact e_v X h hr hlk dX9_lookAt_302 ⟨ok725, kx726, ⟨_, _, _, _, f724, by omega, by omega, by omega, by omega⟩⟩
                          · have hc721 : ¬ (C659).toInt ≤ (L708).toInt := i_nle hc721 rfl rfl
                            refine lv_iload hx hb dX9_lookAt_227 (lv_at hl 0 rfl) ?_
                            refine lv_iconst (v := 2) hx hb dX9_lookAt_229 (by decide) ?_
                            refine lv_icmp_ge (tgt := 274) hx hb dX9_lookAt_230 (by decide) (fun hc727 => ?_) (fun hc727 => ?_)
                            · have hc727 : 2 ≤ (L708).toInt := i_le hc727 rfl rfl
                              refine lv_aload_n hx hb dX9_lookAt_274 rfl (lv_at hl 3 rfl) ?_
                              refine lv_aload_n hx hb dX9_lookAt_275 rfl (lv_at hl 3 rfl) ?_
                              refine r_get kc9 X h 64 13 (by decide) rfl cf719 (by decide) kv_665 rfl dX9_lookAt_276 ?_
                              refine lv_iconst (v := 2) hx hb dX9_lookAt_279 (by decide) ?_
                              refine lv_icmp_ne (tgt := 295) hx hb dX9_lookAt_280 (by decide) (fun _ => ?_) (fun hc => absurd hc (by decide))
                              refine lv_aload_n hx hb dX9_lookAt_295 rfl (lv_at hl 3 rfl) ?_
                              refine r_get kc9 X h 64 13 (by decide) rfl cf719 (by decide) kv_665 rfl dX9_lookAt_296 ?_
                              refine r_put kc9 X hD h 64 13 (by decide) rfl cf719 (by decide) kv_665 rfl rfl rfl (Nat.le_of_ble_eq_true rfl) dX9_lookAt_299 (fun H locs w728 e729 h => ?_)
                              have f730 : w728 64 = .inr (7, [.ref (ad 65), .ref (ad 66), .ref (ad 67), .ref (ad 68), .long x, .long y, .ref (ad 69), .int mb, .ref (ad 70), .ref (ad 71), .int bl, .int C7, .int C659, .int 1, .int C710, .ref (ad 72), .ref (ad 73)]) := (congrFun e729 _).trans (va_up_self _ _ _)
                              have ok731 : OK cI cB cZ cO ad w728 := OK.up ok717 e729 (sM_mk (by omega) (by omega))
                              have kx732 : F6 w w728 := F6.up kx718 e729
                              exact e_v X h hr hlk dX9_lookAt_302 ⟨ok731, kx732, ⟨_, _, _, _, f730, by omega, by omega, by omega, by omega⟩⟩
                            · have hc727 : ¬ 2 ≤ (L708).toInt := i_nle hc727 rfl rfl
                              refine lv_aload_n hx hb dX9_lookAt_233 rfl (lv_at hl 3 rfl) ?_
                              refine r_get kc9 X h 64 13 (by decide) rfl cf719 (by decide) kv_665 rfl dX9_lookAt_234 ?_
                              refine lv_iconst (v := 2) hx hb dX9_lookAt_237 (by decide) ?_
                              refine lv_icmp_ne (tgt := 274) hx hb dX9_lookAt_238 (by decide) (fun _ => ?_) (fun hc => absurd hc (by decide))
                              refine lv_aload_n hx hb dX9_lookAt_274 rfl (lv_at hl 3 rfl) ?_
                              refine lv_aload_n hx hb dX9_lookAt_275 rfl (lv_at hl 3 rfl) ?_
                              refine r_get kc9 X h 64 13 (by decide) rfl cf719 (by decide) kv_665 rfl dX9_lookAt_276 ?_
                              refine lv_iconst (v := 2) hx hb dX9_lookAt_279 (by decide) ?_
                              refine lv_icmp_ne (tgt := 295) hx hb dX9_lookAt_280 (by decide) (fun _ => ?_) (fun hc => absurd hc (by decide))
                              refine lv_aload_n hx hb dX9_lookAt_295 rfl (lv_at hl 3 rfl) ?_
                              refine r_get kc9 X h 64 13 (by decide) rfl cf719 (by decide) kv_665 rfl dX9_lookAt_296 ?_
                              refine r_put kc9 X hD h 64 13 (by decide) rfl cf719 (by decide) kv_665 rfl rfl rfl (Nat.le_of_ble_eq_true rfl) dX9_lookAt_299 (fun H locs w733 e734 h => ?_)
                              have f735 : w733 64 = .inr (7, [.ref (ad 65), .ref (ad 66), .ref (ad 67), .ref (ad 68), .long x, .long y, .ref (ad 69), .int mb, .ref (ad 70), .ref (ad 71), .int bl, .int C7, .int C659, .int 1, .int C710, .ref (ad 72), .ref (ad 73)]) := (congrFun e734 _).trans (va_up_self _ _ _)
                              have ok736 : OK cI cB cZ cO ad w733 := OK.up ok717 e734 (sM_mk (by omega) (by omega))
                              have kx737 : F6 w w733 := F6.up kx718 e734
                              exact e_v X h hr hlk dX9_lookAt_302 ⟨ok736, kx737, ⟨_, _, _, _, f735, by omega, by omega, by omega, by omega⟩⟩
                      exact hloop711 3 (0 : Int32) (0 : Int32) wL658 _ _ _ (by have q0 : (0 : Int32).toInt = 0 := rfl; omega) (by have q0 : (0 : Int32).toInt = 0 := rfl; omega) ok669 kx670 cf671 (by have q0 : (0 : Int32).toInt = 0 := rfl; omega) h (lv_sub hl [0, 1, 2, 3, 4] rfl)
                    · have hc707 : ¬ (bl).toInt ≤ (z706).toInt := i_nle hc707 rfl rfl
                      refine lv_aload_n hx hb dX9_lookAt_156 rfl (lv_at hl 2 rfl) ?_
                      refine r_get kc9 X h 64 9 (by decide) rfl cf671 (by decide) kv_667 rfl dX9_lookAt_157 ?_
                      refine lv_aload_n hx hb dX9_lookAt_160 rfl (lv_at hl 2 rfl) ?_
                      refine r_get kc9 X h 64 11 (by decide) rfl cf671 (by decide) kv_663 rfl dX9_lookAt_161 ?_
                      refine lv_aload_n hx hb dX9_lookAt_164 rfl (lv_at hl 2 rfl) ?_
                      refine r_get kc9 X h 64 12 (by decide) rfl cf671 (by decide) kv_664 rfl dX9_lookAt_165 ?_
                      obtain ⟨z740, e738, t739⟩ := x_add (x := C7) (y := C659) (a := (C7).toInt) (b := (C659).toInt) rfl rfl (by omega) (by omega)
                      refine o_iadd (z := z740) hx hb dX9_lookAt_168 e738 ?_
                      obtain ⟨g742, f741, p743⟩ := (show sA cI 150 (anyA) (wL658 71) from ok669 71 (by decide))
                      have f744 : wL658 71 = .inl (cI, 150, .inl g742) := f741
                      obtain ⟨v745, e746⟩ : ∃ z : Int32, g742 (z740).toNatClampNeg = z := ⟨_, rfl⟩
                      refine o_iald (v := v745) X h 71 0 (by decide) rfl f744 rfl (in_of (by omega) (by omega)) e746 dX9_lookAt_169 ?_
                      refine lv_istore (lv' := [(4, .int v745), (3, .int L657), (2, .int v617), (0, .ref (ad 64)), (1, .int n)]) hx hb dX9_lookAt_170 hl (by decide) rfl (fun ls hl => ?_)
                      refine lv_aload_n hx hb dX9_lookAt_172 rfl (lv_at hl 3 rfl) ?_
                      refine r_get kc9 X h 64 13 (by decide) rfl cf671 (by decide) kv_665 rfl dX9_lookAt_173 ?_
                      refine lv_iconst (v := 1) hx hb dX9_lookAt_176 (by decide) ?_
                      refine lv_icmp_ne (tgt := 188) hx hb dX9_lookAt_177 (by decide) (fun hc => absurd (by decide) hc) (fun _ => ?_)
                      refine lv_iload hx hb dX9_lookAt_180 (lv_at hl 0 rfl) ?_
                      refine n_Si (na := 1) (As := [.int v745]) (rest := []) X hD hN h (c_M_isSmall l G cI cB cZ cO ad wL658   v745  ) ⟨kv_668, kv_669, kv_470, kv_670⟩ ⟨by decide, by decide, by decide⟩ ⟨Nat.le_of_ble_eq_true rfl, Nat.le_of_ble_eq_true rfl⟩ ⟨Nat.zero_le _, Nat.zero_le _⟩ rfl hl.1 rfl (Nat.le_of_ble_eq_true rfl) dX9_lookAt_182 (fun r748 w749 H locs hp750 h => ?_)
                      obtain ⟨rfl, hr751⟩ := hp750
                      rcases hr751 with ⟨hq752, hq753, rfl⟩ | ⟨hq754, rfl⟩
                      · refine lv_goto (tgt := 193) hx hb dX9_lookAt_185 (by decide) ?_
                        refine lv_istore_n (lv' := [(3, .int 1), (4, .int v745), (2, .int v617), (0, .ref (ad 64)), (1, .int n)]) hx hb dX9_lookAt_193 rfl hl (by decide) rfl (fun ls hl => ?_)
                        refine lv_aload_n hx hb dX9_lookAt_194 rfl (lv_at hl 3 rfl) ?_
                        refine lv_dup hx hb dX9_lookAt_195 rfl ?_
                        refine r_get kc9 X h 64 12 (by decide) rfl cf671 (by decide) kv_664 rfl dX9_lookAt_196 ?_
                        refine lv_iload_n hx hb dX9_lookAt_199 rfl (lv_at hl 0 rfl) ?_
                        refine lv_if_eq (tgt := 207) hx hb dX9_lookAt_200 (by decide) (fun hc => absurd hc (by decide)) (fun _ => ?_)
                        refine lv_iconst (v := 1) hx hb dX9_lookAt_203 (by decide) ?_
                        refine lv_goto (tgt := 208) hx hb dX9_lookAt_204 (by decide) ?_
                        obtain ⟨z757, e755, t756⟩ := x_add (x := C659) (y := (1 : Int32)) (a := (C659).toInt) (b := 1) rfl rfl (by omega) (by omega)
                        refine o_iadd (z := z757) hx hb dX9_lookAt_208 e755 ?_
                        refine r_put kc9 X hD h 64 12 (by decide) rfl cf671 (by decide) kv_664 rfl rfl rfl (Nat.le_of_ble_eq_true rfl) dX9_lookAt_209 (fun H locs w758 e759 h => ?_)
                        have f760 : w758 64 = .inr (7, [.ref (ad 65), .ref (ad 66), .ref (ad 67), .ref (ad 68), .long x, .long y, .ref (ad 69), .int mb, .ref (ad 70), .ref (ad 71), .int bl, .int C7, .int z757, .int 1, .int 0, .ref (ad 72), .ref (ad 73)]) := (congrFun e759 _).trans (va_up_self _ _ _)
                        have ok761 : OK cI cB cZ cO ad w758 := OK.up ok669 e759 (sM_mk (by omega) (by omega))
                        have kx762 : F6 w w758 := F6.up kx670 e759
                        refine lv_goto (tgt := 136) hx hb dX9_lookAt_212 (by decide) ?_
                        exact ih662  (1 : Int32) z757 w758 _ _ _ (by have q0 : (1 : Int32).toInt = 1 := rfl; omega) (by have q0 : (1 : Int32).toInt = 1 := rfl; omega) (by have q0 : (1 : Int32).toInt = 1 := rfl; omega) (by have q0 : (1 : Int32).toInt = 1 := rfl; omega) (by have q0 : (1 : Int32).toInt = 1 := rfl; omega) ok761 kx762 f760 (by have q0 : (1 : Int32).toInt = 1 := rfl; omega) h (lv_sub hl [0, 2, 3, 4] rfl)
                      · refine lv_goto (tgt := 193) hx hb dX9_lookAt_185 (by decide) ?_
                        refine lv_istore_n (lv' := [(3, .int 0), (4, .int v745), (2, .int v617), (0, .ref (ad 64)), (1, .int n)]) hx hb dX9_lookAt_193 rfl hl (by decide) rfl (fun ls hl => ?_)
                        refine lv_aload_n hx hb dX9_lookAt_194 rfl (lv_at hl 3 rfl) ?_
                        refine lv_dup hx hb dX9_lookAt_195 rfl ?_
                        refine r_get kc9 X h 64 12 (by decide) rfl cf671 (by decide) kv_664 rfl dX9_lookAt_196 ?_
                        refine lv_iload_n hx hb dX9_lookAt_199 rfl (lv_at hl 0 rfl) ?_
                        refine lv_if_eq (tgt := 207) hx hb dX9_lookAt_200 (by decide) (fun _ => ?_) (fun hc => absurd (by decide) hc)
                        refine lv_iconst (v := 0) hx hb dX9_lookAt_207 (by decide) ?_
                        obtain ⟨z765, e763, t764⟩ := x_add (x := C659) (y := (0 : Int32)) (a := (C659).toInt) (b := 0) rfl rfl (by omega) (by omega)
                        refine o_iadd (z := z765) hx hb dX9_lookAt_208 e763 ?_
                        refine r_put kc9 X hD h 64 12 (by decide) rfl cf671 (by decide) kv_664 rfl rfl rfl (Nat.le_of_ble_eq_true rfl) dX9_lookAt_209 (fun H locs w766 e767 h => ?_)
                        have f768 : w766 64 = .inr (7, [.ref (ad 65), .ref (ad 66), .ref (ad 67), .ref (ad 68), .long x, .long y, .ref (ad 69), .int mb, .ref (ad 70), .ref (ad 71), .int bl, .int C7, .int z765, .int 1, .int 0, .ref (ad 72), .ref (ad 73)]) := (congrFun e767 _).trans (va_up_self _ _ _)
                        have ok769 : OK cI cB cZ cO ad w766 := OK.up ok669 e767 (sM_mk (by omega) (by omega))
                        have kx770 : F6 w w766 := F6.up kx670 e767
                        refine lv_goto (tgt := 136) hx hb dX9_lookAt_212 (by decide) ?_
                        exact ih662  (0 : Int32) z765 w766 _ _ _ (by have q0 : (0 : Int32).toInt = 0 := rfl; omega) (by have q0 : (0 : Int32).toInt = 0 := rfl; omega) (by have q0 : (0 : Int32).toInt = 0 := rfl; omega) (by have q0 : (0 : Int32).toInt = 0 := rfl; omega) (by have q0 : (0 : Int32).toInt = 0 := rfl; omega) ok769 kx770 f768 (by have q0 : (0 : Int32).toInt = 0 := rfl; omega) h (lv_sub hl [0, 2, 3, 4] rfl)
              exact hloop660 152 (1 : Int32) (1 : Int32) w652 _ _ _ (by have q0 : (1 : Int32).toInt = 1 := rfl; omega) (by have q0 : (1 : Int32).toInt = 1 := rfl; omega) (by have q0 : (1 : Int32).toInt = 1 := rfl; omega) (by have q0 : (1 : Int32).toInt = 1 := rfl; omega) (by have q0 : (1 : Int32).toInt = 1 := rfl; omega) ok655 kx656 f654 (by have q0 : (1 : Int32).toInt = 1 := rfl; omega) h (lv_sub hl [0, 1, 2, 3] rfl)
            · refine lv_if_eq (tgt := 92) hx hb dX9_lookAt_85 (by decide) (fun _ => ?_) (fun hc => absurd (by decide) hc)
              refine lv_iload_n hx hb dX9_lookAt_92 rfl (lv_at hl 0 rfl) ?_
              refine n_Si (na := 1) (As := [.int v617]) (rest := [.ref (ad 64)]) X hD hN h (c_M_isFigure l G cI cB cZ cO ad w631   v617  ) ⟨kv_671, kv_672, kv_470, kv_673⟩ ⟨by decide, by decide, by decide⟩ ⟨Nat.le_of_ble_eq_true rfl, Nat.le_of_ble_eq_true rfl⟩ ⟨Nat.zero_le _, Nat.zero_le _⟩ rfl hl.1 rfl (Nat.le_of_ble_eq_true rfl) dX9_lookAt_93 (fun r771 w772 H locs hp773 h => ?_)
              obtain ⟨rfl, hr774⟩ := hp773
              rcases hr774 with ⟨hq775, hq776, rfl⟩ | ⟨hq777, rfl⟩
              · refine lv_if_eq (tgt := 103) hx hb dX9_lookAt_96 (by decide) (fun hc => absurd hc (by decide)) (fun _ => ?_)
                refine lv_iconst (v := 2) hx hb dX9_lookAt_99 (by decide) ?_
                refine lv_goto (tgt := 114) hx hb dX9_lookAt_100 (by decide) ?_
                refine r_put kc9 X hD h 64 13 (by decide) rfl f633 (by decide) kv_665 rfl rfl rfl (Nat.le_of_ble_eq_true rfl) dX9_lookAt_114 (fun H locs w778 e779 h => ?_)
                have f780 : w778 64 = .inr (7, [.ref (ad 65), .ref (ad 66), .ref (ad 67), .ref (ad 68), .long x, .long y, .ref (ad 69), .int mb, .ref (ad 70), .ref (ad 71), .int bl, .int C7, .int 0, .int 2, .int 0, .ref (ad 72), .ref (ad 73)]) := (congrFun e779 _).trans (va_up_self _ _ _)
                have ok781 : OK cI cB cZ cO ad w778 := OK.up ok634 e779 (sM_mk (by omega) (by omega))
                have kx782 : F6 w w778 := F6.up kx635 e779
                refine lv_aload_n hx hb dX9_lookAt_117 rfl (lv_at hl 1 rfl) ?_
                refine lv_iconst (v := 1) hx hb dX9_lookAt_118 (by decide) ?_
                refine r_put kc9 X hD h 64 12 (by decide) rfl f780 (by decide) kv_664 rfl rfl rfl (Nat.le_of_ble_eq_true rfl) dX9_lookAt_119 (fun H locs w783 e784 h => ?_)
                have f785 : w783 64 = .inr (7, [.ref (ad 65), .ref (ad 66), .ref (ad 67), .ref (ad 68), .long x, .long y, .ref (ad 69), .int mb, .ref (ad 70), .ref (ad 71), .int bl, .int C7, .int 1, .int 2, .int 0, .ref (ad 72), .ref (ad 73)]) := (congrFun e784 _).trans (va_up_self _ _ _)
                have ok786 : OK cI cB cZ cO ad w783 := OK.up ok781 e784 (sM_mk (by omega) (by omega))
                have kx787 : F6 w w783 := F6.up kx782 e784
                refine lv_aload_n hx hb dX9_lookAt_122 rfl (lv_at hl 1 rfl) ?_
                refine r_get kc9 X h 64 13 (by decide) rfl f785 (by decide) kv_665 rfl dX9_lookAt_123 ?_
                refine lv_iconst (v := 3) hx hb dX9_lookAt_126 (by decide) ?_
                refine lv_icmp_ge (tgt := 134) hx hb dX9_lookAt_127 (by decide) (fun hc => absurd hc (by decide)) (fun _ => ?_)
                refine lv_iconst (v := 1) hx hb dX9_lookAt_130 (by decide) ?_
                refine lv_goto (tgt := 135) hx hb dX9_lookAt_131 (by decide) ?_
                refine lv_istore_n (lv' := [(3, .int 1), (2, .int v617), (0, .ref (ad 64)), (1, .int n)]) hx hb dX9_lookAt_135 rfl hl (by decide) rfl (fun ls hl => ?_)
                have hloop791 : ∀ (d792 : Nat) (L788 : Int32) (C790 : Int32) (wL789 : Nat → va_E) (H : Heap) (locs : List Loc) (ls : Array Slot), 0 ≤ L788.toInt → L788.toInt ≤ 1 → C7.toInt + C790.toInt ≤ bl.toInt → 1 ≤ C790.toInt → C790.toInt ≤ 150 → OK cI cB cZ cO ad wL789 → F6 w wL789 → wL789 64 = .inr (7, [.ref (ad 65), .ref (ad 66), .ref (ad 67), .ref (ad 68), .long x, .long y, .ref (ad 69), .int mb, .ref (ad 70), .ref (ad 71), .int bl, .int C7, .int C790, .int 2, .int 0, .ref (ad 72), .ref (ad 73)]) → bl.toInt - C7.toInt - C790.toInt + L788.toInt < (d792 : Int) → St G 74 ad (wA 74 ad s.heap.size) s.heap wL789 H locs → lv_has ls 5 [(3, .int L788), (2, .int v617), (0, .ref (ad 64)), (1, .int n)] → W p l e { frames := 2, cells := 0, slots := 0, locals := 45 } s m [.ref (ad 64), .int n].toArray below meth c H locs 0 0 (MQ below (va_Qv (fun w1 => OK cI cB cZ cO ad w1 ∧ F6 w w1 ∧ ∃ ta1 tl1 tk1 va1 : Int32, w1 64 = .inr (7, [.ref (ad 65), .ref (ad 66), .ref (ad 67), .ref (ad 68), .long x, .long y, .ref (ad 69), .int mb, .ref (ad 70), .ref (ad 71), .int bl, .int ta1, .int tl1, .int tk1, .int va1, .ref (ad 72), .ref (ad 73)]) ∧ n.toInt ≤ ta1.toInt ∧ 0 ≤ tl1.toInt ∧ ta1.toInt + tl1.toInt ≤ bl.toInt ∧ (tk1.toInt = 0 ∨ 1 ≤ tl1.toInt)) (Aft G 74 ad) (wA 74 ad s.heap.size)) [.ref (ad 64), .int n].toArray s 0 0 (wA 74 ad s.heap.size)) (F0 m 136 ls []) := by
                  intro d792
                  induction d792 with
                  | zero => intro L788 C790 wL789 H locs ls hi795 hi796 hi797 hi798 hi799 ok800 kx801 cf802 hm794 h hl; exfalso; omega
                  | succ d792 ih793 =>
                    intro L788 C790 wL789 H locs ls hi795 hi796 hi797 hi798 hi799 ok800 kx801 cf802 hm794 h hl
                    refine lv_iload_n hx hb dX9_lookAt_136 rfl (lv_at hl 0 rfl) ?_
                    refine lv_if_eq (tgt := 215) hx hb dX9_lookAt_137 (by decide) (fun hc804 => ?_) (fun hc804 => ?_)
                    · have hc804 : (L788).toInt = 0 := i_eq hc804 rfl rfl
                      refine lv_iconst (v := 0) hx hb dX9_lookAt_215 (by decide) ?_
                      refine lv_istore (lv' := [(4, .int 0), (3, .int L788), (2, .int v617), (0, .ref (ad 64)), (1, .int n)]) hx hb dX9_lookAt_216 hl (by decide) rfl (fun ls hl => ?_)
                      have hloop808 : ∀ (d809 : Nat) (L805 : Int32) (C807 : Int32) (wL806 : Nat → va_E) (H : Heap) (locs : List Loc) (ls : Array Slot), 0 ≤ L805.toInt → L805.toInt ≤ 2 → OK cI cB cZ cO ad wL806 → F6 w wL806 → wL806 64 = .inr (7, [.ref (ad 65), .ref (ad 66), .ref (ad 67), .ref (ad 68), .long x, .long y, .ref (ad 69), .int mb, .ref (ad 70), .ref (ad 71), .int bl, .int C7, .int C790, .int 2, .int C807, .ref (ad 72), .ref (ad 73)]) → 2 - L805.toInt < (d809 : Int) → St G 74 ad (wA 74 ad s.heap.size) s.heap wL806 H locs → lv_has ls 5 [(4, .int L805), (3, .int L788), (2, .int v617), (0, .ref (ad 64)), (1, .int n)] → W p l e { frames := 2, cells := 0, slots := 0, locals := 45 } s m [.ref (ad 64), .int n].toArray below meth c H locs 0 0 (MQ below (va_Qv (fun w1 => OK cI cB cZ cO ad w1 ∧ F6 w w1 ∧ ∃ ta1 tl1 tk1 va1 : Int32, w1 64 = .inr (7, [.ref (ad 65), .ref (ad 66), .ref (ad 67), .ref (ad 68), .long x, .long y, .ref (ad 69), .int mb, .ref (ad 70), .ref (ad 71), .int bl, .int ta1, .int tl1, .int tk1, .int va1, .ref (ad 72), .ref (ad 73)]) ∧ n.toInt ≤ ta1.toInt ∧ 0 ≤ tl1.toInt ∧ ta1.toInt + tl1.toInt ≤ bl.toInt ∧ (tk1.toInt = 0 ∨ 1 ≤ tl1.toInt)) (Aft G 74 ad) (wA 74 ad s.heap.size)) [.ref (ad 64), .int n].toArray s 0 0 (wA 74 ad s.heap.size)) (F0 m 218 ls []) := by
                        intro d809
                        induction d809 with
                        | zero => intro L805 C807 wL806 H locs ls hi812 hi813 ok814 kx815 cf816 hm811 h hl; exfalso; omega
                        | succ d809 ih810 =>
                          intro L805 C807 wL806 H locs ls hi812 hi813 ok814 kx815 cf816 hm811 h hl
                          refine lv_iload hx hb dX9_lookAt_218 (lv_at hl 0 rfl) ?_
                          refine lv_aload_n hx hb dX9_lookAt_220 rfl (lv_at hl 3 rfl) ?_
                          refine r_get kc9 X h 64 12 (by decide) rfl cf816 (by decide) kv_664 rfl dX9_lookAt_221 ?_
                          refine lv_icmp_ge (tgt := 274) hx hb dX9_lookAt_224 (by decide) (fun hc818 => ?_) (fun hc818 => ?_)
                          · have hc818 : (C790).toInt ≤ (L805).toInt := i_le hc818 rfl rfl
                            refine lv_aload_n hx hb dX9_lookAt_274 rfl (lv_at hl 3 rfl) ?_
                            refine lv_aload_n hx hb dX9_lookAt_275 rfl (lv_at hl 3 rfl) ?_
                            refine r_get kc9 X h 64 13 (by decide) rfl cf816 (by decide) kv_665 rfl dX9_lookAt_276 ?_
                            refine lv_iconst (v := 2) hx hb dX9_lookAt_279 (by decide) ?_
                            refine lv_icmp_ne (tgt := 295) hx hb dX9_lookAt_280 (by decide) (fun hc => absurd (by decide) hc) (fun _ => ?_)
                            refine lv_aload_n hx hb dX9_lookAt_283 rfl (lv_at hl 3 rfl) ?_
                            refine r_get kc9 X h 64 12 (by decide) rfl cf816 (by decide) kv_664 rfl dX9_lookAt_284 ?_
                            refine lv_iconst (v := 2) hx hb dX9_lookAt_287 (by decide) ?_
                            refine lv_icmp_le (tgt := 295) hx hb dX9_lookAt_288 (by decide) (fun hc819 => ?_) (fun hc819 => ?_)
                            · have hc819 : (C790).toInt ≤ 2 := i_le hc819 rfl rfl
                              refine lv_aload_n hx hb dX9_lookAt_295 rfl (lv_at hl 3 rfl) ?_
                              refine r_get kc9 X h 64 13 (by decide) rfl cf816 (by decide) kv_665 rfl dX9_lookAt_296 ?_
                              refine r_put kc9 X hD h 64 13 (by decide) rfl cf816 (by decide) kv_665 rfl rfl rfl (Nat.le_of_ble_eq_true rfl) dX9_lookAt_299 (fun H locs w820 e821 h => ?_)
                              have f822 : w820 64 = .inr (7, [.ref (ad 65), .ref (ad 66), .ref (ad 67), .ref (ad 68), .long x, .long y, .ref (ad 69), .int mb, .ref (ad 70), .ref (ad 71), .int bl, .int C7, .int C790, .int 2, .int C807, .ref (ad 72), .ref (ad 73)]) := (congrFun e821 _).trans (va_up_self _ _ _)
                              have ok823 : OK cI cB cZ cO ad w820 := OK.up ok814 e821 (sM_mk (by omega) (by omega))
                              have kx824 : F6 w w820 := F6.up kx815 e821
                              exact e_v X h hr hlk dX9_lookAt_302 ⟨ok823, kx824, ⟨_, _, _, _, f822, by omega, by omega, by omega, by omega⟩⟩
                            · have hc819 : ¬ (C790).toInt ≤ 2 := i_nle hc819 rfl rfl
                              exfalso; omega
                          · have hc818 : ¬ (C790).toInt ≤ (L805).toInt := i_nle hc818 rfl rfl
                            refine lv_iload hx hb dX9_lookAt_227 (lv_at hl 0 rfl) ?_
                            refine lv_iconst (v := 2) hx hb dX9_lookAt_229 (by decide) ?_
                            refine lv_icmp_ge (tgt := 274) hx hb dX9_lookAt_230 (by decide) (fun hc825 => ?_) (fun hc825 => ?_)
                            · have hc825 : 2 ≤ (L805).toInt := i_le hc825 rfl rfl
                              refine lv_aload_n hx hb dX9_lookAt_274 rfl (lv_at hl 3 rfl) ?_
                              refine lv_aload_n hx hb dX9_lookAt_275 rfl (lv_at hl 3 rfl) ?_
                              refine r_get kc9 X h 64 13 (by decide) rfl cf816 (by decide) kv_665 rfl dX9_lookAt_276 ?_
                              refine lv_iconst (v := 2) hx hb dX9_lookAt_279 (by decide) ?_
                              refine lv_icmp_ne (tgt := 295) hx hb dX9_lookAt_280 (by decide) (fun hc => absurd (by decide) hc) (fun _ => ?_)
                              refine lv_aload_n hx hb dX9_lookAt_283 rfl (lv_at hl 3 rfl) ?_
                              refine r_get kc9 X h 64 12 (by decide) rfl cf816 (by decide) kv_664 rfl dX9_lookAt_284 ?_
                              refine lv_iconst (v := 2) hx hb dX9_lookAt_287 (by decide) ?_
                              refine lv_icmp_le (tgt := 295) hx hb dX9_lookAt_288 (by decide) (fun hc826 => ?_) (fun hc826 => ?_)
                              · have hc826 : (C790).toInt ≤ 2 := i_le hc826 rfl rfl
                                refine lv_aload_n hx hb dX9_lookAt_295 rfl (lv_at hl 3 rfl) ?_
                                refine r_get kc9 X h 64 13 (by decide) rfl cf816 (by decide) kv_665 rfl dX9_lookAt_296 ?_
                                refine r_put kc9 X hD h 64 13 (by decide) rfl cf816 (by decide) kv_665 rfl rfl rfl (Nat.le_of_ble_eq_true rfl) dX9_lookAt_299 (fun H locs w827 e828 h => ?_)
                                have f829 : w827 64 = .inr (7, [.ref (ad 65), .ref (ad 66), .ref (ad 67), .ref (ad 68), .long x, .long y, .ref (ad 69), .int mb, .ref (ad 70), .ref (ad 71), .int bl, .int C7, .int C790, .int 2, .int C807, .ref (ad 72), .ref (ad 73)]) := (congrFun e828 _).trans (va_up_self _ _ _)
                                have ok830 : OK cI cB cZ cO ad w827 := OK.up ok814 e828 (sM_mk (by omega) (by omega))
                                have kx831 : F6 w w827 := F6.up kx815 e828
                                exact e_v X h hr hlk dX9_lookAt_302 ⟨ok830, kx831, ⟨_, _, _, _, f829, by omega, by omega, by omega, by omega⟩⟩
                              · have hc826 : ¬ (C790).toInt ≤ 2 := i_nle hc826 rfl rfl
                                refine lv_iconst (v := 4) hx hb dX9_lookAt_291 (by decide) ?_
                                refine lv_goto (tgt := 299) hx hb dX9_lookAt_292 (by decide) ?_
                                refine r_put kc9 X hD h 64 13 (by decide) rfl cf816 (by decide) kv_665 rfl rfl rfl (Nat.le_of_ble_eq_true rfl) dX9_lookAt_299 (fun H locs w832 e833 h => ?_)
                                have f834 : w832 64 = .inr (7, [.ref (ad 65), .ref (ad 66), .ref (ad 67), .ref (ad 68), .long x, .long y, .ref (ad 69), .int mb, .ref (ad 70), .ref (ad 71), .int bl, .int C7, .int C790, .int 4, .int C807, .ref (ad 72), .ref (ad 73)]) := (congrFun e833 _).trans (va_up_self _ _ _)
                                have ok835 : OK cI cB cZ cO ad w832 := OK.up ok814 e833 (sM_mk (by omega) (by omega))
                                have kx836 : F6 w w832 := F6.up kx815 e833
                                exact e_v X h hr hlk dX9_lookAt_302 ⟨ok835, kx836, ⟨_, _, _, _, f834, by omega, by omega, by omega, by omega⟩⟩
                            · have hc825 : ¬ 2 ≤ (L805).toInt := i_nle hc825 rfl rfl
                              refine lv_aload_n hx hb dX9_lookAt_233 rfl (lv_at hl 3 rfl) ?_
                              refine r_get kc9 X h 64 13 (by decide) rfl cf816 (by decide) kv_665 rfl dX9_lookAt_234 ?_
                              refine lv_iconst (v := 2) hx hb dX9_lookAt_237 (by decide) ?_
                              refine lv_icmp_ne (tgt := 274) hx hb dX9_lookAt_238 (by decide) (fun hc => absurd (by decide) hc) (fun _ => ?_)
                              refine lv_aload_n hx hb dX9_lookAt_241 rfl (lv_at hl 3 rfl) ?_
                              refine lv_bipush (v := 10) hx hb dX9_lookAt_242 (by decide) ?_
                              refine lv_aload_n hx hb dX9_lookAt_244 rfl (lv_at hl 3 rfl) ?_
                              refine r_get kc9 X h 64 14 (by decide) rfl cf816 (by decide) kv_666 rfl dX9_lookAt_245 ?_
                              obtain ⟨z839, e837⟩ : ∃ z : Int32, (10 : Int32) * C807 = z := ⟨_, rfl⟩
                              refine o_imul (z := z839) hx hb dX9_lookAt_248 e837 ?_
                              refine lv_aload_n hx hb dX9_lookAt_249 rfl (lv_at hl 3 rfl) ?_
                              refine r_get kc9 X h 64 9 (by decide) rfl cf816 (by decide) kv_667 rfl dX9_lookAt_250 ?_
                              refine lv_aload_n hx hb dX9_lookAt_253 rfl (lv_at hl 3 rfl) ?_
                              refine r_get kc9 X h 64 11 (by decide) rfl cf816 (by decide) kv_663 rfl dX9_lookAt_254 ?_
                              refine lv_iload hx hb dX9_lookAt_257 (lv_at hl 0 rfl) ?_
                              obtain ⟨z842, e840, t841⟩ := x_add (x := C7) (y := L805) (a := (C7).toInt) (b := (L805).toInt) rfl rfl (by omega) (by omega)
                              refine o_iadd (z := z842) hx hb dX9_lookAt_259 e840 ?_
                              obtain ⟨g844, f843, p845⟩ := (show sA cI 150 (anyA) (wL806 71) from ok814 71 (by decide))
                              have f846 : wL806 71 = .inl (cI, 150, .inl g844) := f843
                              obtain ⟨v847, e848⟩ : ∃ z : Int32, g844 (z842).toNatClampNeg = z := ⟨_, rfl⟩
                              refine o_iald (v := v847) X h 71 0 (by decide) rfl f846 rfl (in_of (by omega) (by omega)) e848 dX9_lookAt_260 ?_
                              obtain ⟨z852, e850⟩ : ∃ z : Int32, z839 + v847 = z := ⟨_, rfl⟩
                              refine o_iadd (z := z852) hx hb dX9_lookAt_261 e850 ?_
                              refine lv_bipush (v := 48) hx hb dX9_lookAt_262 (by decide) ?_
                              obtain ⟨z855, e853⟩ : ∃ z : Int32, z852 - (48 : Int32) = z := ⟨_, rfl⟩
                              refine o_isub (z := z855) hx hb dX9_lookAt_264 e853 ?_
                              refine r_put kc9 X hD h 64 14 (by decide) rfl cf816 (by decide) kv_666 rfl rfl rfl (Nat.le_of_ble_eq_true rfl) dX9_lookAt_265 (fun H locs w856 e857 h => ?_)
                              have f858 : w856 64 = .inr (7, [.ref (ad 65), .ref (ad 66), .ref (ad 67), .ref (ad 68), .long x, .long y, .ref (ad 69), .int mb, .ref (ad 70), .ref (ad 71), .int bl, .int C7, .int C790, .int 2, .int z855, .ref (ad 72), .ref (ad 73)]) := (congrFun e857 _).trans (va_up_self _ _ _)
                              have ok859 : OK cI cB cZ cO ad w856 := OK.up ok814 e857 (sM_mk (by omega) (by omega))
                              have kx860 : F6 w w856 := F6.up kx815 e857
                              obtain ⟨z861, e862, t863⟩ := x_add (x := L805) (y := 1) (a := L805.toInt) (b := 1) rfl rfl (by omega) (by omega)
                              refine lv_iinc (v := z861) (lv' := [(4, .int z861), (3, .int L788), (2, .int v617), (0, .ref (ad 64)), (1, .int n)]) hx hb dX9_lookAt_268 hl (k := 0) rfl e862 (by decide) rfl (fun ls hl => ?_)
                              refine lv_goto (tgt := 218) hx hb dX9_lookAt_271 (by decide) ?_
                              exact ih810  z861 z855 w856 _ _ _ (by omega) (by omega) ok859 kx860 f858 (by omega) h (lv_sub hl [0, 1, 2, 3, 4] rfl)
                      exact hloop808 3 (0 : Int32) (0 : Int32) wL789 _ _ _ (by have q0 : (0 : Int32).toInt = 0 := rfl; omega) (by have q0 : (0 : Int32).toInt = 0 := rfl; omega) ok800 kx801 cf802 (by have q0 : (0 : Int32).toInt = 0 := rfl; omega) h (lv_sub hl [0, 1, 2, 3, 4] rfl)
                    · have hc804 : ¬ (L788).toInt = 0 := i_ne hc804 rfl rfl
                      refine lv_aload_n hx hb dX9_lookAt_140 rfl (lv_at hl 2 rfl) ?_
                      refine r_get kc9 X h 64 11 (by decide) rfl cf802 (by decide) kv_663 rfl dX9_lookAt_141 ?_
                      refine lv_aload_n hx hb dX9_lookAt_144 rfl (lv_at hl 2 rfl) ?_
                      refine r_get kc9 X h 64 12 (by decide) rfl cf802 (by decide) kv_664 rfl dX9_lookAt_145 ?_
                      obtain ⟨z866, e864, t865⟩ := x_add (x := C7) (y := C790) (a := (C7).toInt) (b := (C790).toInt) rfl rfl (by omega) (by omega)
                      refine o_iadd (z := z866) hx hb dX9_lookAt_148 e864 ?_
                      refine lv_aload_n hx hb dX9_lookAt_149 rfl (lv_at hl 2 rfl) ?_
                      refine r_get kc9 X h 64 10 (by decide) rfl cf802 (by decide) kv_539 rfl dX9_lookAt_150 ?_
                      refine lv_icmp_ge (tgt := 215) hx hb dX9_lookAt_153 (by decide) (fun hc867 => ?_) (fun hc867 => ?_)
                      · have hc867 : (bl).toInt ≤ (z866).toInt := i_le hc867 rfl rfl
                        refine lv_iconst (v := 0) hx hb dX9_lookAt_215 (by decide) ?_
                        refine lv_istore (lv' := [(4, .int 0), (3, .int L788), (2, .int v617), (0, .ref (ad 64)), (1, .int n)]) hx hb dX9_lookAt_216 hl (by decide) rfl (fun ls hl => ?_)
                        have hloop871 : ∀ (d872 : Nat) (L868 : Int32) (C870 : Int32) (wL869 : Nat → va_E) (H : Heap) (locs : List Loc) (ls : Array Slot), 0 ≤ L868.toInt → L868.toInt ≤ 2 → OK cI cB cZ cO ad wL869 → F6 w wL869 → wL869 64 = .inr (7, [.ref (ad 65), .ref (ad 66), .ref (ad 67), .ref (ad 68), .long x, .long y, .ref (ad 69), .int mb, .ref (ad 70), .ref (ad 71), .int bl, .int C7, .int C790, .int 2, .int C870, .ref (ad 72), .ref (ad 73)]) → 2 - L868.toInt < (d872 : Int) → St G 74 ad (wA 74 ad s.heap.size) s.heap wL869 H locs → lv_has ls 5 [(4, .int L868), (3, .int L788), (2, .int v617), (0, .ref (ad 64)), (1, .int n)] → W p l e { frames := 2, cells := 0, slots := 0, locals := 45 } s m [.ref (ad 64), .int n].toArray below meth c H locs 0 0 (MQ below (va_Qv (fun w1 => OK cI cB cZ cO ad w1 ∧ F6 w w1 ∧ ∃ ta1 tl1 tk1 va1 : Int32, w1 64 = .inr (7, [.ref (ad 65), .ref (ad 66), .ref (ad 67), .ref (ad 68), .long x, .long y, .ref (ad 69), .int mb, .ref (ad 70), .ref (ad 71), .int bl, .int ta1, .int tl1, .int tk1, .int va1, .ref (ad 72), .ref (ad 73)]) ∧ n.toInt ≤ ta1.toInt ∧ 0 ≤ tl1.toInt ∧ ta1.toInt + tl1.toInt ≤ bl.toInt ∧ (tk1.toInt = 0 ∨ 1 ≤ tl1.toInt)) (Aft G 74 ad) (wA 74 ad s.heap.size)) [.ref (ad 64), .int n].toArray s 0 0 (wA 74 ad s.heap.size)) (F0 m 218 ls []) := by
                          intro d872
                          induction d872 with
                          | zero => intro L868 C870 wL869 H locs ls hi875 hi876 ok877 kx878 cf879 hm874 h hl; exfalso; omega
                          | succ d872 ih873 =>
                            intro L868 C870 wL869 H locs ls hi875 hi876 ok877 kx878 cf879 hm874 h hl
                            refine lv_iload hx hb dX9_lookAt_218 (lv_at hl 0 rfl) ?_
                            refine lv_aload_n hx hb dX9_lookAt_220 rfl (lv_at hl 3 rfl) ?_
                            refine r_get kc9 X h 64 12 (by decide) rfl cf879 (by decide) kv_664 rfl dX9_lookAt_221 ?_
                            refine lv_icmp_ge (tgt := 274) hx hb dX9_lookAt_224 (by decide) (fun hc881 => ?_) (fun hc881 => ?_)
                            · have hc881 : (C790).toInt ≤ (L868).toInt := i_le hc881 rfl rfl
                              refine lv_aload_n hx hb dX9_lookAt_274 rfl (lv_at hl 3 rfl) ?_
                              refine lv_aload_n hx hb dX9_lookAt_275 rfl (lv_at hl 3 rfl) ?_
                              refine r_get kc9 X h 64 13 (by decide) rfl cf879 (by decide) kv_665 rfl dX9_lookAt_276 ?_
                              refine lv_iconst (v := 2) hx hb dX9_lookAt_279 (by decide) ?_
                              refine lv_icmp_ne (tgt := 295) hx hb dX9_lookAt_280 (by decide) (fun hc => absurd (by decide) hc) (fun _ => ?_)
                              refine lv_aload_n hx hb dX9_lookAt_283 rfl (lv_at hl 3 rfl) ?_
                              refine r_get kc9 X h 64 12 (by decide) rfl cf879 (by decide) kv_664 rfl dX9_lookAt_284 ?_
                              refine lv_iconst (v := 2) hx hb dX9_lookAt_287 (by decide) ?_
                              refine lv_icmp_le (tgt := 295) hx hb dX9_lookAt_288 (by decide) (fun hc882 => ?_) (fun hc882 => ?_)
                              · have hc882 : (C790).toInt ≤ 2 := i_le hc882 rfl rfl
                                refine lv_aload_n hx hb dX9_lookAt_295 rfl (lv_at hl 3 rfl) ?_
                                refine r_get kc9 X h 64 13 (by decide) rfl cf879 (by decide) kv_665 rfl dX9_lookAt_296 ?_
                                refine r_put kc9 X hD h 64 13 (by decide) rfl cf879 (by decide) kv_665 rfl rfl rfl (Nat.le_of_ble_eq_true rfl) dX9_lookAt_299 (fun H locs w883 e884 h => ?_)
                                have f885 : w883 64 = .inr (7, [.ref (ad 65), .ref (ad 66), .ref (ad 67), .ref (ad 68), .long x, .long y, .ref (ad 69), .int mb, .ref (ad 70), .ref (ad 71), .int bl, .int C7, .int C790, .int 2, .int C870, .ref (ad 72), .ref (ad 73)]) := (congrFun e884 _).trans (va_up_self _ _ _)
                                have ok886 : OK cI cB cZ cO ad w883 := OK.up ok877 e884 (sM_mk (by omega) (by omega))
                                have kx887 : F6 w w883 := F6.up kx878 e884
                                exact e_v X h hr hlk dX9_lookAt_302 ⟨ok886, kx887, ⟨_, _, _, _, f885, by omega, by omega, by omega, by omega⟩⟩
                              · have hc882 : ¬ (C790).toInt ≤ 2 := i_nle hc882 rfl rfl
                                exfalso; omega
                            · have hc881 : ¬ (C790).toInt ≤ (L868).toInt := i_nle hc881 rfl rfl
                              refine lv_iload hx hb dX9_lookAt_227 (lv_at hl 0 rfl) ?_
                              refine lv_iconst (v := 2) hx hb dX9_lookAt_229 (by decide) ?_
                              refine lv_icmp_ge (tgt := 274) hx hb dX9_lookAt_230 (by decide) (fun hc888 => ?_) (fun hc888 => ?_)
                              · have hc888 : 2 ≤ (L868).toInt := i_le hc888 rfl rfl
                                refine lv_aload_n hx hb dX9_lookAt_274 rfl (lv_at hl 3 rfl) ?_
                                refine lv_aload_n hx hb dX9_lookAt_275 rfl (lv_at hl 3 rfl) ?_
                                refine r_get kc9 X h 64 13 (by decide) rfl cf879 (by decide) kv_665 rfl dX9_lookAt_276 ?_
                                refine lv_iconst (v := 2) hx hb dX9_lookAt_279 (by decide) ?_
                                refine lv_icmp_ne (tgt := 295) hx hb dX9_lookAt_280 (by decide) (fun hc => absurd (by decide) hc) (fun _ => ?_)
                                refine lv_aload_n hx hb dX9_lookAt_283 rfl (lv_at hl 3 rfl) ?_
                                refine r_get kc9 X h 64 12 (by decide) rfl cf879 (by decide) kv_664 rfl dX9_lookAt_284 ?_
                                refine lv_iconst (v := 2) hx hb dX9_lookAt_287 (by decide) ?_
                                refine lv_icmp_le (tgt := 295) hx hb dX9_lookAt_288 (by decide) (fun hc889 => ?_) (fun hc889 => ?_)
                                · have hc889 : (C790).toInt ≤ 2 := i_le hc889 rfl rfl
                                  refine lv_aload_n hx hb dX9_lookAt_295 rfl (lv_at hl 3 rfl) ?_
                                  refine r_get kc9 X h 64 13 (by decide) rfl cf879 (by decide) kv_665 rfl dX9_lookAt_296 ?_
                                  refine r_put kc9 X hD h 64 13 (by decide) rfl cf879 (by decide) kv_665 rfl rfl rfl (Nat.le_of_ble_eq_true rfl) dX9_lookAt_299 (fun H locs w890 e891 h => ?_)
                                  have f892 : w890 64 = .inr (7, [.ref (ad 65), .ref (ad 66), .ref (ad 67), .ref (ad 68), .long x, .long y, .ref (ad 69), .int mb, .ref (ad 70), .ref (ad 71), .int bl, .int C7, .int C790, .int 2, .int C870, .ref (ad 72), .ref (ad 73)]) := (congrFun e891 _).trans (va_up_self _ _ _)
                                  have ok893 : OK cI cB cZ cO ad w890 := OK.up ok877 e891 (sM_mk (by omega) (by omega))
                                  have kx894 : F6 w w890 := F6.up kx878 e891
                                  exact e_v X h hr hlk dX9_lookAt_302 ⟨ok893, kx894, ⟨_, _, _, _, f892, by omega, by omega, by omega, by omega⟩⟩
                                · have hc889 : ¬ (C790).toInt ≤ 2 := i_nle hc889 rfl rfl
                                  refine lv_iconst (v := 4) hx hb dX9_lookAt_291 (by decide) ?_
                                  refine lv_goto (tgt := 299) hx hb dX9_lookAt_292 (by decide) ?_
                                  refine r_put kc9 X hD h 64 13 (by decide) rfl cf879 (by decide) kv_665 rfl rfl rfl (Nat.le_of_ble_eq_true rfl) dX9_lookAt_299 (fun H locs w895 e896 h => ?_)
                                  have f897 : w895 64 = .inr (7, [.ref (ad 65), .ref (ad 66), .ref (ad 67), .ref (ad 68), .long x, .long y, .ref (ad 69), .int mb, .ref (ad 70), .ref (ad 71), .int bl, .int C7, .int C790, .int 4, .int C870, .ref (ad 72), .ref (ad 73)]) := (congrFun e896 _).trans (va_up_self _ _ _)
                                  have ok898 : OK cI cB cZ cO ad w895 := OK.up ok877 e896 (sM_mk (by omega) (by omega))
                                  have kx899 : F6 w w895 := F6.up kx878 e896
                                  exact e_v X h hr hlk dX9_lookAt_302 ⟨ok898, kx899, ⟨_, _, _, _, f897, by omega, by omega, by omega, by omega⟩⟩
                              · have hc888 : ¬ 2 ≤ (L868).toInt := i_nle hc888 rfl rfl
                                refine lv_aload_n hx hb dX9_lookAt_233 rfl (lv_at hl 3 rfl) ?_
                                refine r_get kc9 X h 64 13 (by decide) rfl cf879 (by decide) kv_665 rfl dX9_lookAt_234 ?_
                                refine lv_iconst (v := 2) hx hb dX9_lookAt_237 (by decide) ?_
                                refine lv_icmp_ne (tgt := 274) hx hb dX9_lookAt_238 (by decide) (fun hc => absurd (by decide) hc) (fun _ => ?_)
                                refine lv_aload_n hx hb dX9_lookAt_241 rfl (lv_at hl 3 rfl) ?_
                                refine lv_bipush (v := 10) hx hb dX9_lookAt_242 (by decide) ?_
                                refine lv_aload_n hx hb dX9_lookAt_244 rfl (lv_at hl 3 rfl) ?_
                                refine r_get kc9 X h 64 14 (by decide) rfl cf879 (by decide) kv_666 rfl dX9_lookAt_245 ?_
                                obtain ⟨z902, e900⟩ : ∃ z : Int32, (10 : Int32) * C870 = z := ⟨_, rfl⟩
                                refine o_imul (z := z902) hx hb dX9_lookAt_248 e900 ?_
                                refine lv_aload_n hx hb dX9_lookAt_249 rfl (lv_at hl 3 rfl) ?_
                                refine r_get kc9 X h 64 9 (by decide) rfl cf879 (by decide) kv_667 rfl dX9_lookAt_250 ?_
                                refine lv_aload_n hx hb dX9_lookAt_253 rfl (lv_at hl 3 rfl) ?_
                                refine r_get kc9 X h 64 11 (by decide) rfl cf879 (by decide) kv_663 rfl dX9_lookAt_254 ?_
                                refine lv_iload hx hb dX9_lookAt_257 (lv_at hl 0 rfl) ?_
                                obtain ⟨z905, e903, t904⟩ := x_add (x := C7) (y := L868) (a := (C7).toInt) (b := (L868).toInt) rfl rfl (by omega) (by omega)
                                refine o_iadd (z := z905) hx hb dX9_lookAt_259 e903 ?_
                                obtain ⟨g907, f906, p908⟩ := (show sA cI 150 (anyA) (wL869 71) from ok877 71 (by decide))
                                have f909 : wL869 71 = .inl (cI, 150, .inl g907) := f906
                                obtain ⟨v910, e911⟩ : ∃ z : Int32, g907 (z905).toNatClampNeg = z := ⟨_, rfl⟩
                                refine o_iald (v := v910) X h 71 0 (by decide) rfl f909 rfl (in_of (by omega) (by omega)) e911 dX9_lookAt_260 ?_
                                obtain ⟨z915, e913⟩ : ∃ z : Int32, z902 + v910 = z := ⟨_, rfl⟩
                                refine o_iadd (z := z915) hx hb dX9_lookAt_261 e913 ?_
                                refine lv_bipush (v := 48) hx hb dX9_lookAt_262 (by decide) ?_
                                obtain ⟨z918, e916⟩ : ∃ z : Int32, z915 - (48 : Int32) = z := ⟨_, rfl⟩
                                refine o_isub (z := z918) hx hb dX9_lookAt_264 e916 ?_
                                refine r_put kc9 X hD h 64 14 (by decide) rfl cf879 (by decide) kv_666 rfl rfl rfl (Nat.le_of_ble_eq_true rfl) dX9_lookAt_265 (fun H locs w919 e920 h => ?_)
                                have f921 : w919 64 = .inr (7, [.ref (ad 65), .ref (ad 66), .ref (ad 67), .ref (ad 68), .long x, .long y, .ref (ad 69), .int mb, .ref (ad 70), .ref (ad 71), .int bl, .int C7, .int C790, .int 2, .int z918, .ref (ad 72), .ref (ad 73)]) := (congrFun e920 _).trans (va_up_self _ _ _)
                                have ok922 : OK cI cB cZ cO ad w919 := OK.up ok877 e920 (sM_mk (by omega) (by omega))
                                have kx923 : F6 w w919 := F6.up kx878 e920
                                obtain ⟨z924, e925, t926⟩ := x_add (x := L868) (y := 1) (a := L868.toInt) (b := 1) rfl rfl (by omega) (by omega)
                                refine lv_iinc (v := z924) (lv' := [(4, .int z924), (3, .int L788), (2, .int v617), (0, .ref (ad 64)), (1, .int n)]) hx hb dX9_lookAt_268 hl (k := 0) rfl e925 (by decide) rfl (fun ls hl => ?_)
                                refine lv_goto (tgt := 218) hx hb dX9_lookAt_271 (by decide) ?_
                                exact ih873  z924 z918 w919 _ _ _ (by omega) (by omega) ok922 kx923 f921 (by omega) h (lv_sub hl [0, 1, 2, 3, 4] rfl)
                        exact hloop871 3 (0 : Int32) (0 : Int32) wL789 _ _ _ (by have q0 : (0 : Int32).toInt = 0 := rfl; omega) (by have q0 : (0 : Int32).toInt = 0 := rfl; omega) ok800 kx801 cf802 (by have q0 : (0 : Int32).toInt = 0 := rfl; omega) h (lv_sub hl [0, 1, 2, 3, 4] rfl)
                      · have hc867 : ¬ (bl).toInt ≤ (z866).toInt := i_nle hc867 rfl rfl
                        refine lv_aload_n hx hb dX9_lookAt_156 rfl (lv_at hl 2 rfl) ?_
                        refine r_get kc9 X h 64 9 (by decide) rfl cf802 (by decide) kv_667 rfl dX9_lookAt_157 ?_
                        refine lv_aload_n hx hb dX9_lookAt_160 rfl (lv_at hl 2 rfl) ?_
                        refine r_get kc9 X h 64 11 (by decide) rfl cf802 (by decide) kv_663 rfl dX9_lookAt_161 ?_
                        refine lv_aload_n hx hb dX9_lookAt_164 rfl (lv_at hl 2 rfl) ?_
                        refine r_get kc9 X h 64 12 (by decide) rfl cf802 (by decide) kv_664 rfl dX9_lookAt_165 ?_
                        obtain ⟨z929, e927, t928⟩ := x_add (x := C7) (y := C790) (a := (C7).toInt) (b := (C790).toInt) rfl rfl (by omega) (by omega)
                        refine o_iadd (z := z929) hx hb dX9_lookAt_168 e927 ?_
                        obtain ⟨g931, f930, p932⟩ := (show sA cI 150 (anyA) (wL789 71) from ok800 71 (by decide))
                        have f933 : wL789 71 = .inl (cI, 150, .inl g931) := f930
                        obtain ⟨v934, e935⟩ : ∃ z : Int32, g931 (z929).toNatClampNeg = z := ⟨_, rfl⟩
                        refine o_iald (v := v934) X h 71 0 (by decide) rfl f933 rfl (in_of (by omega) (by omega)) e935 dX9_lookAt_169 ?_
                        refine lv_istore (lv' := [(4, .int v934), (3, .int L788), (2, .int v617), (0, .ref (ad 64)), (1, .int n)]) hx hb dX9_lookAt_170 hl (by decide) rfl (fun ls hl => ?_)
                        refine lv_aload_n hx hb dX9_lookAt_172 rfl (lv_at hl 3 rfl) ?_
                        refine r_get kc9 X h 64 13 (by decide) rfl cf802 (by decide) kv_665 rfl dX9_lookAt_173 ?_
                        refine lv_iconst (v := 1) hx hb dX9_lookAt_176 (by decide) ?_
                        refine lv_icmp_ne (tgt := 188) hx hb dX9_lookAt_177 (by decide) (fun _ => ?_) (fun hc => absurd hc (by decide))
                        refine lv_iload hx hb dX9_lookAt_188 (lv_at hl 0 rfl) ?_
                        refine n_Si (na := 1) (As := [.int v934]) (rest := []) X hD hN h (c_M_isFigure l G cI cB cZ cO ad wL789   v934  ) ⟨kv_671, kv_672, kv_470, kv_673⟩ ⟨by decide, by decide, by decide⟩ ⟨Nat.le_of_ble_eq_true rfl, Nat.le_of_ble_eq_true rfl⟩ ⟨Nat.zero_le _, Nat.zero_le _⟩ rfl hl.1 rfl (Nat.le_of_ble_eq_true rfl) dX9_lookAt_190 (fun r937 w938 H locs hp939 h => ?_)
                        obtain ⟨rfl, hr940⟩ := hp939
                        rcases hr940 with ⟨hq941, hq942, rfl⟩ | ⟨hq943, rfl⟩
                        · refine lv_istore_n (lv' := [(3, .int 1), (4, .int v934), (2, .int v617), (0, .ref (ad 64)), (1, .int n)]) hx hb dX9_lookAt_193 rfl hl (by decide) rfl (fun ls hl => ?_)
                          refine lv_aload_n hx hb dX9_lookAt_194 rfl (lv_at hl 3 rfl) ?_
                          refine lv_dup hx hb dX9_lookAt_195 rfl ?_
                          refine r_get kc9 X h 64 12 (by decide) rfl cf802 (by decide) kv_664 rfl dX9_lookAt_196 ?_
                          refine lv_iload_n hx hb dX9_lookAt_199 rfl (lv_at hl 0 rfl) ?_
                          refine lv_if_eq (tgt := 207) hx hb dX9_lookAt_200 (by decide) (fun hc => absurd hc (by decide)) (fun _ => ?_)
                          refine lv_iconst (v := 1) hx hb dX9_lookAt_203 (by decide) ?_
                          refine lv_goto (tgt := 208) hx hb dX9_lookAt_204 (by decide) ?_
                          obtain ⟨z946, e944, t945⟩ := x_add (x := C790) (y := (1 : Int32)) (a := (C790).toInt) (b := 1) rfl rfl (by omega) (by omega)
                          refine o_iadd (z := z946) hx hb dX9_lookAt_208 e944 ?_
                          refine r_put kc9 X hD h 64 12 (by decide) rfl cf802 (by decide) kv_664 rfl rfl rfl (Nat.le_of_ble_eq_true rfl) dX9_lookAt_209 (fun H locs w947 e948 h => ?_)
                          have f949 : w947 64 = .inr (7, [.ref (ad 65), .ref (ad 66), .ref (ad 67), .ref (ad 68), .long x, .long y, .ref (ad 69), .int mb, .ref (ad 70), .ref (ad 71), .int bl, .int C7, .int z946, .int 2, .int 0, .ref (ad 72), .ref (ad 73)]) := (congrFun e948 _).trans (va_up_self _ _ _)
                          have ok950 : OK cI cB cZ cO ad w947 := OK.up ok800 e948 (sM_mk (by omega) (by omega))
                          have kx951 : F6 w w947 := F6.up kx801 e948
                          refine lv_goto (tgt := 136) hx hb dX9_lookAt_212 (by decide) ?_
                          exact ih793  (1 : Int32) z946 w947 _ _ _ (by have q0 : (1 : Int32).toInt = 1 := rfl; omega) (by have q0 : (1 : Int32).toInt = 1 := rfl; omega) (by have q0 : (1 : Int32).toInt = 1 := rfl; omega) (by have q0 : (1 : Int32).toInt = 1 := rfl; omega) (by have q0 : (1 : Int32).toInt = 1 := rfl; omega) ok950 kx951 f949 (by have q0 : (1 : Int32).toInt = 1 := rfl; omega) h (lv_sub hl [0, 2, 3, 4] rfl)
                        · refine lv_istore_n (lv' := [(3, .int 0), (4, .int v934), (2, .int v617), (0, .ref (ad 64)), (1, .int n)]) hx hb dX9_lookAt_193 rfl hl (by decide) rfl (fun ls hl => ?_)
                          refine lv_aload_n hx hb dX9_lookAt_194 rfl (lv_at hl 3 rfl) ?_
                          refine lv_dup hx hb dX9_lookAt_195 rfl ?_
                          refine r_get kc9 X h 64 12 (by decide) rfl cf802 (by decide) kv_664 rfl dX9_lookAt_196 ?_
                          refine lv_iload_n hx hb dX9_lookAt_199 rfl (lv_at hl 0 rfl) ?_
                          refine lv_if_eq (tgt := 207) hx hb dX9_lookAt_200 (by decide) (fun _ => ?_) (fun hc => absurd (by decide) hc)
                          refine lv_iconst (v := 0) hx hb dX9_lookAt_207 (by decide) ?_
                          obtain ⟨z954, e952, t953⟩ := x_add (x := C790) (y := (0 : Int32)) (a := (C790).toInt) (b := 0) rfl rfl (by omega) (by omega)
                          refine o_iadd (z := z954) hx hb dX9_lookAt_208 e952 ?_
                          refine r_put kc9 X hD h 64 12 (by decide) rfl cf802 (by decide) kv_664 rfl rfl rfl (Nat.le_of_ble_eq_true rfl) dX9_lookAt_209 (fun H locs w955 e956 h => ?_)
                          have f957 : w955 64 = .inr (7, [.ref (ad 65), .ref (ad 66), .ref (ad 67), .ref (ad 68), .long x, .long y, .ref (ad 69), .int mb, .ref (ad 70), .ref (ad 71), .int bl, .int C7, .int z954, .int 2, .int 0, .ref (ad 72), .ref (ad 73)]) := (congrFun e956 _).trans (va_up_self _ _ _)
                          have ok958 : OK cI cB cZ cO ad w955 := OK.up ok800 e956 (sM_mk (by omega) (by omega))
                          have kx959 : F6 w w955 := F6.up kx801 e956
                          refine lv_goto (tgt := 136) hx hb dX9_lookAt_212 (by decide) ?_
                          exact ih793  (0 : Int32) z954 w955 _ _ _ (by have q0 : (0 : Int32).toInt = 0 := rfl; omega) (by have q0 : (0 : Int32).toInt = 0 := rfl; omega) (by have q0 : (0 : Int32).toInt = 0 := rfl; omega) (by have q0 : (0 : Int32).toInt = 0 := rfl; omega) (by have q0 : (0 : Int32).toInt = 0 := rfl; omega) ok958 kx959 f957 (by have q0 : (0 : Int32).toInt = 0 := rfl; omega) h (lv_sub hl [0, 2, 3, 4] rfl)
                exact hloop791 152 (1 : Int32) (1 : Int32) w783 _ _ _ (by have q0 : (1 : Int32).toInt = 1 := rfl; omega) (by have q0 : (1 : Int32).toInt = 1 := rfl; omega) (by have q0 : (1 : Int32).toInt = 1 := rfl; omega) (by have q0 : (1 : Int32).toInt = 1 := rfl; omega) (by have q0 : (1 : Int32).toInt = 1 := rfl; omega) ok786 kx787 f785 (by have q0 : (1 : Int32).toInt = 1 := rfl; omega) h (lv_sub hl [0, 1, 2, 3] rfl)
              · refine lv_if_eq (tgt := 103) hx hb dX9_lookAt_96 (by decide) (fun _ => ?_) (fun hc => absurd (by decide) hc)
                refine lv_iload_n hx hb dX9_lookAt_103 rfl (lv_at hl 0 rfl) ?_
                refine lv_bipush (v := 59) hx hb dX9_lookAt_104 (by decide) ?_
                refine lv_icmp_ne (tgt := 113) hx hb dX9_lookAt_106 (by decide) (fun hc960 => ?_) (fun hc960 => ?_)
                · have hc960 : ¬ (v617).toInt = 59 := i_ne hc960 rfl rfl
                  refine lv_iconst (v := 4) hx hb dX9_lookAt_113 (by decide) ?_
                  refine r_put kc9 X hD h 64 13 (by decide) rfl f633 (by decide) kv_665 rfl rfl rfl (Nat.le_of_ble_eq_true rfl) dX9_lookAt_114 (fun H locs w961 e962 h => ?_)
                  have f963 : w961 64 = .inr (7, [.ref (ad 65), .ref (ad 66), .ref (ad 67), .ref (ad 68), .long x, .long y, .ref (ad 69), .int mb, .ref (ad 70), .ref (ad 71), .int bl, .int C7, .int 0, .int 4, .int 0, .ref (ad 72), .ref (ad 73)]) := (congrFun e962 _).trans (va_up_self _ _ _)
                  have ok964 : OK cI cB cZ cO ad w961 := OK.up ok634 e962 (sM_mk (by omega) (by omega))
                  have kx965 : F6 w w961 := F6.up kx635 e962
                  refine lv_aload_n hx hb dX9_lookAt_117 rfl (lv_at hl 1 rfl) ?_
                  refine lv_iconst (v := 1) hx hb dX9_lookAt_118 (by decide) ?_
                  refine r_put kc9 X hD h 64 12 (by decide) rfl f963 (by decide) kv_664 rfl rfl rfl (Nat.le_of_ble_eq_true rfl) dX9_lookAt_119 (fun H locs w966 e967 h => ?_)
                  have f968 : w966 64 = .inr (7, [.ref (ad 65), .ref (ad 66), .ref (ad 67), .ref (ad 68), .long x, .long y, .ref (ad 69), .int mb, .ref (ad 70), .ref (ad 71), .int bl, .int C7, .int 1, .int 4, .int 0, .ref (ad 72), .ref (ad 73)]) := (congrFun e967 _).trans (va_up_self _ _ _)
                  have ok969 : OK cI cB cZ cO ad w966 := OK.up ok964 e967 (sM_mk (by omega) (by omega))
                  have kx970 : F6 w w966 := F6.up kx965 e967
                  refine lv_aload_n hx hb dX9_lookAt_122 rfl (lv_at hl 1 rfl) ?_
                  refine r_get kc9 X h 64 13 (by decide) rfl f968 (by decide) kv_665 rfl dX9_lookAt_123 ?_
                  refine lv_iconst (v := 3) hx hb dX9_lookAt_126 (by decide) ?_
                  refine lv_icmp_ge (tgt := 134) hx hb dX9_lookAt_127 (by decide) (fun _ => ?_) (fun hc => absurd (by decide) hc)
                  refine lv_iconst (v := 0) hx hb dX9_lookAt_134 (by decide) ?_
                  refine lv_istore_n (lv' := [(3, .int 0), (2, .int v617), (0, .ref (ad 64)), (1, .int n)]) hx hb dX9_lookAt_135 rfl hl (by decide) rfl (fun ls hl => ?_)
                  have hloop974 : ∀ (d975 : Nat) (L971 : Int32) (C973 : Int32) (wL972 : Nat → va_E) (H : Heap) (locs : List Loc) (ls : Array Slot), 0 ≤ L971.toInt → L971.toInt ≤ 1 → C7.toInt + C973.toInt ≤ bl.toInt → 1 ≤ C973.toInt → C973.toInt ≤ 150 → OK cI cB cZ cO ad wL972 → F6 w wL972 → wL972 64 = .inr (7, [.ref (ad 65), .ref (ad 66), .ref (ad 67), .ref (ad 68), .long x, .long y, .ref (ad 69), .int mb, .ref (ad 70), .ref (ad 71), .int bl, .int C7, .int C973, .int 4, .int 0, .ref (ad 72), .ref (ad 73)]) → bl.toInt - C7.toInt - C973.toInt + L971.toInt < (d975 : Int) → St G 74 ad (wA 74 ad s.heap.size) s.heap wL972 H locs → lv_has ls 5 [(3, .int L971), (2, .int v617), (0, .ref (ad 64)), (1, .int n)] → W p l e { frames := 2, cells := 0, slots := 0, locals := 45 } s m [.ref (ad 64), .int n].toArray below meth c H locs 0 0 (MQ below (va_Qv (fun w1 => OK cI cB cZ cO ad w1 ∧ F6 w w1 ∧ ∃ ta1 tl1 tk1 va1 : Int32, w1 64 = .inr (7, [.ref (ad 65), .ref (ad 66), .ref (ad 67), .ref (ad 68), .long x, .long y, .ref (ad 69), .int mb, .ref (ad 70), .ref (ad 71), .int bl, .int ta1, .int tl1, .int tk1, .int va1, .ref (ad 72), .ref (ad 73)]) ∧ n.toInt ≤ ta1.toInt ∧ 0 ≤ tl1.toInt ∧ ta1.toInt + tl1.toInt ≤ bl.toInt ∧ (tk1.toInt = 0 ∨ 1 ≤ tl1.toInt)) (Aft G 74 ad) (wA 74 ad s.heap.size)) [.ref (ad 64), .int n].toArray s 0 0 (wA 74 ad s.heap.size)) (F0 m 136 ls []) := by
                    intro d975
                    induction d975 with
                    | zero => intro L971 C973 wL972 H locs ls hi978 hi979 hi980 hi981 hi982 ok983 kx984 cf985 hm977 h hl; exfalso; omega
                    | succ d975 ih976 =>
                      intro L971 C973 wL972 H locs ls hi978 hi979 hi980 hi981 hi982 ok983 kx984 cf985 hm977 h hl
                      refine lv_iload_n hx hb dX9_lookAt_136 rfl (lv_at hl 0 rfl) ?_
                      refine lv_if_eq (tgt := 215) hx hb dX9_lookAt_137 (by decide) (fun hc987 => ?_) (fun hc987 => ?_)
                      · have hc987 : (L971).toInt = 0 := i_eq hc987 rfl rfl
                        refine lv_iconst (v := 0) hx hb dX9_lookAt_215 (by decide) ?_
                        refine lv_istore (lv' := [(4, .int 0), (3, .int L971), (2, .int v617), (0, .ref (ad 64)), (1, .int n)]) hx hb dX9_lookAt_216 hl (by decide) rfl (fun ls hl => ?_)
                        have hloop991 : ∀ (d992 : Nat) (L988 : Int32) (C990 : Int32) (wL989 : Nat → va_E) (H : Heap) (locs : List Loc) (ls : Array Slot), 0 ≤ L988.toInt → L988.toInt ≤ 2 → OK cI cB cZ cO ad wL989 → F6 w wL989 → wL989 64 = .inr (7, [.ref (ad 65), .ref (ad 66), .ref (ad 67), .ref (ad 68), .long x, .long y, .ref (ad 69), .int mb, .ref (ad 70), .ref (ad 71), .int bl, .int C7, .int C973, .int 4, .int C990, .ref (ad 72), .ref (ad 73)]) → 2 - L988.toInt < (d992 : Int) → St G 74 ad (wA 74 ad s.heap.size) s.heap wL989 H locs → lv_has ls 5 [(4, .int L988), (3, .int L971), (2, .int v617), (0, .ref (ad 64)), (1, .int n)] → W p l e { frames := 2, cells := 0, slots := 0, locals := 45 } s m [.ref (ad 64), .int n].toArray below meth c H locs 0 0 (MQ below (va_Qv (fun w1 => OK cI cB cZ cO ad w1 ∧ F6 w w1 ∧ ∃ ta1 tl1 tk1 va1 : Int32, w1 64 = .inr (7, [.ref (ad 65), .ref (ad 66), .ref (ad 67), .ref (ad 68), .long x, .long y, .ref (ad 69), .int mb, .ref (ad 70), .ref (ad 71), .int bl, .int ta1, .int tl1, .int tk1, .int va1, .ref (ad 72), .ref (ad 73)]) ∧ n.toInt ≤ ta1.toInt ∧ 0 ≤ tl1.toInt ∧ ta1.toInt + tl1.toInt ≤ bl.toInt ∧ (tk1.toInt = 0 ∨ 1 ≤ tl1.toInt)) (Aft G 74 ad) (wA 74 ad s.heap.size)) [.ref (ad 64), .int n].toArray s 0 0 (wA 74 ad s.heap.size)) (F0 m 218 ls []) := by
                          intro d992
                          induction d992 with
                          | zero => intro L988 C990 wL989 H locs ls hi995 hi996 ok997 kx998 cf999 hm994 h hl; exfalso; omega
                          | succ d992 ih993 =>
                            intro L988 C990 wL989 H locs ls hi995 hi996 ok997 kx998 cf999 hm994 h hl
                            refine lv_iload hx hb dX9_lookAt_218 (lv_at hl 0 rfl) ?_
                            refine lv_aload_n hx hb dX9_lookAt_220 rfl (lv_at hl 3 rfl) ?_
                            refine r_get kc9 X h 64 12 (by decide) rfl cf999 (by decide) kv_664 rfl dX9_lookAt_221 ?_
                            refine lv_icmp_ge (tgt := 274) hx hb dX9_lookAt_224 (by decide) (fun hc1001 => ?_) (fun hc1001 => ?_)
                            · have hc1001 : (C973).toInt ≤ (L988).toInt := i_le hc1001 rfl rfl
                              refine lv_aload_n hx hb dX9_lookAt_274 rfl (lv_at hl 3 rfl) ?_
                              refine lv_aload_n hx hb dX9_lookAt_275 rfl (lv_at hl 3 rfl) ?_
                              refine r_get kc9 X h 64 13 (by decide) rfl cf999 (by decide) kv_665 rfl dX9_lookAt_276 ?_
                              refine lv_iconst (v := 2) hx hb dX9_lookAt_279 (by decide) ?_
                              refine lv_icmp_ne (tgt := 295) hx hb dX9_lookAt_280 (by decide) (fun _ => ?_) (fun hc => absurd hc (by decide))
                              refine lv_aload_n hx hb dX9_lookAt_295 rfl (lv_at hl 3 rfl) ?_
                              refine r_get kc9 X h 64 13 (by decide) rfl cf999 (by decide) kv_665 rfl dX9_lookAt_296 ?_
                              refine r_put kc9 X hD h 64 13 (by decide) rfl cf999 (by decide) kv_665 rfl rfl rfl (Nat.le_of_ble_eq_true rfl) dX9_lookAt_299 (fun H locs w1002 e1003 h => ?_)
                              have f1004 : w1002 64 = .inr (7, [.ref (ad 65), .ref (ad 66), .ref (ad 67), .ref (ad 68), .long x, .long y, .ref (ad 69), .int mb, .ref (ad 70), .ref (ad 71), .int bl, .int C7, .int C973, .int 4, .int C990, .ref (ad 72), .ref (ad 73)]) := (congrFun e1003 _).trans (va_up_self _ _ _)
                              have ok1005 : OK cI cB cZ cO ad w1002 := OK.up ok997 e1003 (sM_mk (by omega) (by omega))
                              have kx1006 : F6 w w1002 := F6.up kx998 e1003
                              exact e_v X h hr hlk dX9_lookAt_302 ⟨ok1005, kx1006, ⟨_, _, _, _, f1004, by omega, by omega, by omega, by omega⟩⟩
                            · have hc1001 : ¬ (C973).toInt ≤ (L988).toInt := i_nle hc1001 rfl rfl
                              refine lv_iload hx hb dX9_lookAt_227 (lv_at hl 0 rfl) ?_
                              refine lv_iconst (v := 2) hx hb dX9_lookAt_229 (by decide) ?_
                              refine lv_icmp_ge (tgt := 274) hx hb dX9_lookAt_230 (by decide) (fun hc1007 => ?_) (fun hc1007 => ?_)
                              · have hc1007 : 2 ≤ (L988).toInt := i_le hc1007 rfl rfl
                                refine lv_aload_n hx hb dX9_lookAt_274 rfl (lv_at hl 3 rfl) ?_
                                refine lv_aload_n hx hb dX9_lookAt_275 rfl (lv_at hl 3 rfl) ?_
                                refine r_get kc9 X h 64 13 (by decide) rfl cf999 (by decide) kv_665 rfl dX9_lookAt_276 ?_
                                refine lv_iconst (v := 2) hx hb dX9_lookAt_279 (by decide) ?_
                                refine lv_icmp_ne (tgt := 295) hx hb dX9_lookAt_280 (by decide) (fun _ => ?_) (fun hc => absurd hc (by decide))
                                refine lv_aload_n hx hb dX9_lookAt_295 rfl (lv_at hl 3 rfl) ?_
                                refine r_get kc9 X h 64 13 (by decide) rfl cf999 (by decide) kv_665 rfl dX9_lookAt_296 ?_
                                refine r_put kc9 X hD h 64 13 (by decide) rfl cf999 (by decide) kv_665 rfl rfl rfl (Nat.le_of_ble_eq_true rfl) dX9_lookAt_299 (fun H locs w1008 e1009 h => ?_)
                                have f1010 : w1008 64 = .inr (7, [.ref (ad 65), .ref (ad 66), .ref (ad 67), .ref (ad 68), .long x, .long y, .ref (ad 69), .int mb, .ref (ad 70), .ref (ad 71), .int bl, .int C7, .int C973, .int 4, .int C990, .ref (ad 72), .ref (ad 73)]) := (congrFun e1009 _).trans (va_up_self _ _ _)
                                have ok1011 : OK cI cB cZ cO ad w1008 := OK.up ok997 e1009 (sM_mk (by omega) (by omega))
                                have kx1012 : F6 w w1008 := F6.up kx998 e1009
                                exact e_v X h hr hlk dX9_lookAt_302 ⟨ok1011, kx1012, ⟨_, _, _, _, f1010, by omega, by omega, by omega, by omega⟩⟩
                              · have hc1007 : ¬ 2 ≤ (L988).toInt := i_nle hc1007 rfl rfl
                                refine lv_aload_n hx hb dX9_lookAt_233 rfl (lv_at hl 3 rfl) ?_
                                refine r_get kc9 X h 64 13 (by decide) rfl cf999 (by decide) kv_665 rfl dX9_lookAt_234 ?_
                                refine lv_iconst (v := 2) hx hb dX9_lookAt_237 (by decide) ?_
                                refine lv_icmp_ne (tgt := 274) hx hb dX9_lookAt_238 (by decide) (fun _ => ?_) (fun hc => absurd hc (by decide))
                                refine lv_aload_n hx hb dX9_lookAt_274 rfl (lv_at hl 3 rfl) ?_
                                refine lv_aload_n hx hb dX9_lookAt_275 rfl (lv_at hl 3 rfl) ?_
                                refine r_get kc9 X h 64 13 (by decide) rfl cf999 (by decide) kv_665 rfl dX9_lookAt_276 ?_
                                refine lv_iconst (v := 2) hx hb dX9_lookAt_279 (by decide) ?_
                                refine lv_icmp_ne (tgt := 295) hx hb dX9_lookAt_280 (by decide) (fun _ => ?_) (fun hc => absurd hc (by decide))
                                refine lv_aload_n hx hb dX9_lookAt_295 rfl (lv_at hl 3 rfl) ?_
                                refine r_get kc9 X h 64 13 (by decide) rfl cf999 (by decide) kv_665 rfl dX9_lookAt_296 ?_
                                refine r_put kc9 X hD h 64 13 (by decide) rfl cf999 (by decide) kv_665 rfl rfl rfl (Nat.le_of_ble_eq_true rfl) dX9_lookAt_299 (fun H locs w1013 e1014 h => ?_)
                                have f1015 : w1013 64 = .inr (7, [.ref (ad 65), .ref (ad 66), .ref (ad 67), .ref (ad 68), .long x, .long y, .ref (ad 69), .int mb, .ref (ad 70), .ref (ad 71), .int bl, .int C7, .int C973, .int 4, .int C990, .ref (ad 72), .ref (ad 73)]) := (congrFun e1014 _).trans (va_up_self _ _ _)
                                have ok1016 : OK cI cB cZ cO ad w1013 := OK.up ok997 e1014 (sM_mk (by omega) (by omega))
                                have kx1017 : F6 w w1013 := F6.up kx998 e1014
                                exact e_v X h hr hlk dX9_lookAt_302 ⟨ok1016, kx1017, ⟨_, _, _, _, f1015, by omega, by omega, by omega, by omega⟩⟩
                        exact hloop991 3 (0 : Int32) (0 : Int32) wL972 _ _ _ (by have q0 : (0 : Int32).toInt = 0 := rfl; omega) (by have q0 : (0 : Int32).toInt = 0 := rfl; omega) ok983 kx984 cf985 (by have q0 : (0 : Int32).toInt = 0 := rfl; omega) h (lv_sub hl [0, 1, 2, 3, 4] rfl)
                      · have hc987 : ¬ (L971).toInt = 0 := i_ne hc987 rfl rfl
                        refine lv_aload_n hx hb dX9_lookAt_140 rfl (lv_at hl 2 rfl) ?_
                        refine r_get kc9 X h 64 11 (by decide) rfl cf985 (by decide) kv_663 rfl dX9_lookAt_141 ?_
                        refine lv_aload_n hx hb dX9_lookAt_144 rfl (lv_at hl 2 rfl) ?_
                        refine r_get kc9 X h 64 12 (by decide) rfl cf985 (by decide) kv_664 rfl dX9_lookAt_145 ?_
                        obtain ⟨z1020, e1018, t1019⟩ := x_add (x := C7) (y := C973) (a := (C7).toInt) (b := (C973).toInt) rfl rfl (by omega) (by omega)
                        refine o_iadd (z := z1020) hx hb dX9_lookAt_148 e1018 ?_
                        refine lv_aload_n hx hb dX9_lookAt_149 rfl (lv_at hl 2 rfl) ?_
                        refine r_get kc9 X h 64 10 (by decide) rfl cf985 (by decide) kv_539 rfl dX9_lookAt_150 ?_
                        refine lv_icmp_ge (tgt := 215) hx hb dX9_lookAt_153 (by decide) (fun hc1021 => ?_) (fun hc1021 => ?_)
                        · have hc1021 : (bl).toInt ≤ (z1020).toInt := i_le hc1021 rfl rfl
                          refine lv_iconst (v := 0) hx hb dX9_lookAt_215 (by decide) ?_
                          refine lv_istore (lv' := [(4, .int 0), (3, .int L971), (2, .int v617), (0, .ref (ad 64)), (1, .int n)]) hx hb dX9_lookAt_216 hl (by decide) rfl (fun ls hl => ?_)
                          have hloop1025 : ∀ (d1026 : Nat) (L1022 : Int32) (C1024 : Int32) (wL1023 : Nat → va_E) (H : Heap) (locs : List Loc) (ls : Array Slot), 0 ≤ L1022.toInt → L1022.toInt ≤ 2 → OK cI cB cZ cO ad wL1023 → F6 w wL1023 → wL1023 64 = .inr (7, [.ref (ad 65), .ref (ad 66), .ref (ad 67), .ref (ad 68), .long x, .long y, .ref (ad 69), .int mb, .ref (ad 70), .ref (ad 71), .int bl, .int C7, .int C973, .int 4, .int C1024, .ref (ad 72), .ref (ad 73)]) → 2 - L1022.toInt < (d1026 : Int) → St G 74 ad (wA 74 ad s.heap.size) s.heap wL1023 H locs → lv_has ls 5 [(4, .int L1022), (3, .int L971), (2, .int v617), (0, .ref (ad 64)), (1, .int n)] → W p l e { frames := 2, cells := 0, slots := 0, locals := 45 } s m [.ref (ad 64), .int n].toArray below meth c H locs 0 0 (MQ below (va_Qv (fun w1 => OK cI cB cZ cO ad w1 ∧ F6 w w1 ∧ ∃ ta1 tl1 tk1 va1 : Int32, w1 64 = .inr (7, [.ref (ad 65), .ref (ad 66), .ref (ad 67), .ref (ad 68), .long x, .long y, .ref (ad 69), .int mb, .ref (ad 70), .ref (ad 71), .int bl, .int ta1, .int tl1, .int tk1, .int va1, .ref (ad 72), .ref (ad 73)]) ∧ n.toInt ≤ ta1.toInt ∧ 0 ≤ tl1.toInt ∧ ta1.toInt + tl1.toInt ≤ bl.toInt ∧ (tk1.toInt = 0 ∨ 1 ≤ tl1.toInt)) (Aft G 74 ad) (wA 74 ad s.heap.size)) [.ref (ad 64), .int n].toArray s 0 0 (wA 74 ad s.heap.size)) (F0 m 218 ls []) := by
                            intro d1026
                            induction d1026 with
                            | zero => intro L1022 C1024 wL1023 H locs ls hi1029 hi1030 ok1031 kx1032 cf1033 hm1028 h hl; exfalso; omega
                            | succ d1026 ih1027 =>
                              intro L1022 C1024 wL1023 H locs ls hi1029 hi1030 ok1031 kx1032 cf1033 hm1028 h hl
                              refine lv_iload hx hb dX9_lookAt_218 (lv_at hl 0 rfl) ?_
                              refine lv_aload_n hx hb dX9_lookAt_220 rfl (lv_at hl 3 rfl) ?_
                              refine r_get kc9 X h 64 12 (by decide) rfl cf1033 (by decide) kv_664 rfl dX9_lookAt_221 ?_
                              refine lv_icmp_ge (tgt := 274) hx hb dX9_lookAt_224 (by decide) (fun hc1035 => ?_) (fun hc1035 => ?_)
                              · have hc1035 : (C973).toInt ≤ (L1022).toInt := i_le hc1035 rfl rfl
                                refine lv_aload_n hx hb dX9_lookAt_274 rfl (lv_at hl 3 rfl) ?_
                                refine lv_aload_n hx hb dX9_lookAt_275 rfl (lv_at hl 3 rfl) ?_
                                refine r_get kc9 X h 64 13 (by decide) rfl cf1033 (by decide) kv_665 rfl dX9_lookAt_276 ?_
                                refine lv_iconst (v := 2) hx hb dX9_lookAt_279 (by decide) ?_
                                refine lv_icmp_ne (tgt := 295) hx hb dX9_lookAt_280 (by decide) (fun _ => ?_) (fun hc => absurd hc (by decide))
                                refine lv_aload_n hx hb dX9_lookAt_295 rfl (lv_at hl 3 rfl) ?_
                                refine r_get kc9 X h 64 13 (by decide) rfl cf1033 (by decide) kv_665 rfl dX9_lookAt_296 ?_
                                refine r_put kc9 X hD h 64 13 (by decide) rfl cf1033 (by decide) kv_665 rfl rfl rfl (Nat.le_of_ble_eq_true rfl) dX9_lookAt_299 (fun H locs w1036 e1037 h => ?_)
                                have f1038 : w1036 64 = .inr (7, [.ref (ad 65), .ref (ad 66), .ref (ad 67), .ref (ad 68), .long x, .long y, .ref (ad 69), .int mb, .ref (ad 70), .ref (ad 71), .int bl, .int C7, .int C973, .int 4, .int C1024, .ref (ad 72), .ref (ad 73)]) := (congrFun e1037 _).trans (va_up_self _ _ _)
                                have ok1039 : OK cI cB cZ cO ad w1036 := OK.up ok1031 e1037 (sM_mk (by omega) (by omega))
                                have kx1040 : F6 w w1036 := F6.up kx1032 e1037
                                exact e_v X h hr hlk dX9_lookAt_302 ⟨ok1039, kx1040, ⟨_, _, _, _, f1038, by omega, by omega, by omega, by omega⟩⟩
                              · have hc1035 : ¬ (C973).toInt ≤ (L1022).toInt := i_nle hc1035 rfl rfl
                                refine lv_iload hx hb dX9_lookAt_227 (lv_at hl 0 rfl) ?_
                                refine lv_iconst (v := 2) hx hb dX9_lookAt_229 (by decide) ?_
                                refine lv_icmp_ge (tgt := 274) hx hb dX9_lookAt_230 (by decide) (fun hc1041 => ?_) (fun hc1041 => ?_)
                                · have hc1041 : 2 ≤ (L1022).toInt := i_le hc1041 rfl rfl
                                  refine lv_aload_n hx hb dX9_lookAt_274 rfl (lv_at hl 3 rfl) ?_
                                  refine lv_aload_n hx hb dX9_lookAt_275 rfl (lv_at hl 3 rfl) ?_
                                  refine r_get kc9 X h 64 13 (by decide) rfl cf1033 (by decide) kv_665 rfl dX9_lookAt_276 ?_
                                  refine lv_iconst (v := 2) hx hb dX9_lookAt_279 (by decide) ?_
                                  refine lv_icmp_ne (tgt := 295) hx hb dX9_lookAt_280 (by decide) (fun _ => ?_) (fun hc => absurd hc (by decide))
                                  refine lv_aload_n hx hb dX9_lookAt_295 rfl (lv_at hl 3 rfl) ?_
                                  refine r_get kc9 X h 64 13 (by decide) rfl cf1033 (by decide) kv_665 rfl dX9_lookAt_296 ?_
                                  refine r_put kc9 X hD h 64 13 (by decide) rfl cf1033 (by decide) kv_665 rfl rfl rfl (Nat.le_of_ble_eq_true rfl) dX9_lookAt_299 (fun H locs w1042 e1043 h => ?_)
                                  have f1044 : w1042 64 = .inr (7, [.ref (ad 65), .ref (ad 66), .ref (ad 67), .ref (ad 68), .long x, .long y, .ref (ad 69), .int mb, .ref (ad 70), .ref (ad 71), .int bl, .int C7, .int C973, .int 4, .int C1024, .ref (ad 72), .ref (ad 73)]) := (congrFun e1043 _).trans (va_up_self _ _ _)
                                  have ok1045 : OK cI cB cZ cO ad w1042 := OK.up ok1031 e1043 (sM_mk (by omega) (by omega))
                                  have kx1046 : F6 w w1042 := F6.up kx1032 e1043
                                  exact e_v X h hr hlk dX9_lookAt_302 ⟨ok1045, kx1046, ⟨_, _, _, _, f1044, by omega, by omega, by omega, by omega⟩⟩
                                · have hc1041 : ¬ 2 ≤ (L1022).toInt := i_nle hc1041 rfl rfl
                                  refine lv_aload_n hx hb dX9_lookAt_233 rfl (lv_at hl 3 rfl) ?_
                                  refine r_get kc9 X h 64 13 (by decide) rfl cf1033 (by decide) kv_665 rfl dX9_lookAt_234 ?_
                                  refine lv_iconst (v := 2) hx hb dX9_lookAt_237 (by decide) ?_
                                  refine lv_icmp_ne (tgt := 274) hx hb dX9_lookAt_238 (by decide) (fun _ => ?_) (fun hc => absurd hc (by decide))
                                  refine lv_aload_n hx hb dX9_lookAt_274 rfl (lv_at hl 3 rfl) ?_
                                  refine lv_aload_n hx hb dX9_lookAt_275 rfl (lv_at hl 3 rfl) ?_
                                  refine r_get kc9 X h 64 13 (by decide) rfl cf1033 (by decide) kv_665 rfl dX9_lookAt_276 ?_
                                  refine lv_iconst (v := 2) hx hb dX9_lookAt_279 (by decide) ?_
                                  refine lv_icmp_ne (tgt := 295) hx hb dX9_lookAt_280 (by decide) (fun _ => ?_) (fun hc => absurd hc (by decide))
                                  refine lv_aload_n hx hb dX9_lookAt_295 rfl (lv_at hl 3 rfl) ?_
                                  refine r_get kc9 X h 64 13 (by decide) rfl cf1033 (by decide) kv_665 rfl dX9_lookAt_296 ?_
                                  refine r_put kc9 X hD h 64 13 (by decide) rfl cf1033 (by decide) kv_665 rfl rfl rfl (Nat.le_of_ble_eq_true rfl) dX9_lookAt_299 (fun H locs w1047 e1048 h => ?_)
                                  have f1049 : w1047 64 = .inr (7, [.ref (ad 65), .ref (ad 66), .ref (ad 67), .ref (ad 68), .long x, .long y, .ref (ad 69), .int mb, .ref (ad 70), .ref (ad 71), .int bl, .int C7, .int C973, .int 4, .int C1024, .ref (ad 72), .ref (ad 73)]) := (congrFun e1048 _).trans (va_up_self _ _ _)
                                  have ok1050 : OK cI cB cZ cO ad w1047 := OK.up ok1031 e1048 (sM_mk (by omega) (by omega))
                                  have kx1051 : F6 w w1047 := F6.up kx1032 e1048
                                  exact e_v X h hr hlk dX9_lookAt_302 ⟨ok1050, kx1051, ⟨_, _, _, _, f1049, by omega, by omega, by omega, by omega⟩⟩
                          exact hloop1025 3 (0 : Int32) (0 : Int32) wL972 _ _ _ (by have q0 : (0 : Int32).toInt = 0 := rfl; omega) (by have q0 : (0 : Int32).toInt = 0 := rfl; omega) ok983 kx984 cf985 (by have q0 : (0 : Int32).toInt = 0 := rfl; omega) h (lv_sub hl [0, 1, 2, 3, 4] rfl)
                        · have hc1021 : ¬ (bl).toInt ≤ (z1020).toInt := i_nle hc1021 rfl rfl
                          refine lv_aload_n hx hb dX9_lookAt_156 rfl (lv_at hl 2 rfl) ?_
                          refine r_get kc9 X h 64 9 (by decide) rfl cf985 (by decide) kv_667 rfl dX9_lookAt_157 ?_
                          refine lv_aload_n hx hb dX9_lookAt_160 rfl (lv_at hl 2 rfl) ?_
                          refine r_get kc9 X h 64 11 (by decide) rfl cf985 (by decide) kv_663 rfl dX9_lookAt_161 ?_
                          refine lv_aload_n hx hb dX9_lookAt_164 rfl (lv_at hl 2 rfl) ?_
                          refine r_get kc9 X h 64 12 (by decide) rfl cf985 (by decide) kv_664 rfl dX9_lookAt_165 ?_
                          obtain ⟨z1054, e1052, t1053⟩ := x_add (x := C7) (y := C973) (a := (C7).toInt) (b := (C973).toInt) rfl rfl (by omega) (by omega)
                          refine o_iadd (z := z1054) hx hb dX9_lookAt_168 e1052 ?_
                          obtain ⟨g1056, f1055, p1057⟩ := (show sA cI 150 (anyA) (wL972 71) from ok983 71 (by decide))
                          have f1058 : wL972 71 = .inl (cI, 150, .inl g1056) := f1055
                          obtain ⟨v1059, e1060⟩ : ∃ z : Int32, g1056 (z1054).toNatClampNeg = z := ⟨_, rfl⟩
                          refine o_iald (v := v1059) X h 71 0 (by decide) rfl f1058 rfl (in_of (by omega) (by omega)) e1060 dX9_lookAt_169 ?_
                          refine lv_istore (lv' := [(4, .int v1059), (3, .int L971), (2, .int v617), (0, .ref (ad 64)), (1, .int n)]) hx hb dX9_lookAt_170 hl (by decide) rfl (fun ls hl => ?_)
                          refine lv_aload_n hx hb dX9_lookAt_172 rfl (lv_at hl 3 rfl) ?_
                          refine r_get kc9 X h 64 13 (by decide) rfl cf985 (by decide) kv_665 rfl dX9_lookAt_173 ?_
                          refine lv_iconst (v := 1) hx hb dX9_lookAt_176 (by decide) ?_
                          refine lv_icmp_ne (tgt := 188) hx hb dX9_lookAt_177 (by decide) (fun _ => ?_) (fun hc => absurd hc (by decide))
                          refine lv_iload hx hb dX9_lookAt_188 (lv_at hl 0 rfl) ?_
                          refine n_Si (na := 1) (As := [.int v1059]) (rest := []) X hD hN h (c_M_isFigure l G cI cB cZ cO ad wL972   v1059  ) ⟨kv_671, kv_672, kv_470, kv_673⟩ ⟨by decide, by decide, by decide⟩ ⟨Nat.le_of_ble_eq_true rfl, Nat.le_of_ble_eq_true rfl⟩ ⟨Nat.zero_le _, Nat.zero_le _⟩ rfl hl.1 rfl (Nat.le_of_ble_eq_true rfl) dX9_lookAt_190 (fun r1062 w1063 H locs hp1064 h => ?_)
                          obtain ⟨rfl, hr1065⟩ := hp1064
                          rcases hr1065 with ⟨hq1066, hq1067, rfl⟩ | ⟨hq1068, rfl⟩
                          · refine lv_istore_n (lv' := [(3, .int 1), (4, .int v1059), (2, .int v617), (0, .ref (ad 64)), (1, .int n)]) hx hb dX9_lookAt_193 rfl hl (by decide) rfl (fun ls hl => ?_)
                            refine lv_aload_n hx hb dX9_lookAt_194 rfl (lv_at hl 3 rfl) ?_
                            refine lv_dup hx hb dX9_lookAt_195 rfl ?_
                            refine r_get kc9 X h 64 12 (by decide) rfl cf985 (by decide) kv_664 rfl dX9_lookAt_196 ?_
                            refine lv_iload_n hx hb dX9_lookAt_199 rfl (lv_at hl 0 rfl) ?_
                            refine lv_if_eq (tgt := 207) hx hb dX9_lookAt_200 (by decide) (fun hc => absurd hc (by decide)) (fun _ => ?_)
                            refine lv_iconst (v := 1) hx hb dX9_lookAt_203 (by decide) ?_
                            refine lv_goto (tgt := 208) hx hb dX9_lookAt_204 (by decide) ?_
                            obtain ⟨z1071, e1069, t1070⟩ := x_add (x := C973) (y := (1 : Int32)) (a := (C973).toInt) (b := 1) rfl rfl (by omega) (by omega)
                            refine o_iadd (z := z1071) hx hb dX9_lookAt_208 e1069 ?_
                            refine r_put kc9 X hD h 64 12 (by decide) rfl cf985 (by decide) kv_664 rfl rfl rfl (Nat.le_of_ble_eq_true rfl) dX9_lookAt_209 (fun H locs w1072 e1073 h => ?_)
                            have f1074 : w1072 64 = .inr (7, [.ref (ad 65), .ref (ad 66), .ref (ad 67), .ref (ad 68), .long x, .long y, .ref (ad 69), .int mb, .ref (ad 70), .ref (ad 71), .int bl, .int C7, .int z1071, .int 4, .int 0, .ref (ad 72), .ref (ad 73)]) := (congrFun e1073 _).trans (va_up_self _ _ _)
                            have ok1075 : OK cI cB cZ cO ad w1072 := OK.up ok983 e1073 (sM_mk (by omega) (by omega))
                            have kx1076 : F6 w w1072 := F6.up kx984 e1073
                            refine lv_goto (tgt := 136) hx hb dX9_lookAt_212 (by decide) ?_
                            exact ih976  (1 : Int32) z1071 w1072 _ _ _ (by have q0 : (1 : Int32).toInt = 1 := rfl; omega) (by have q0 : (1 : Int32).toInt = 1 := rfl; omega) (by have q0 : (1 : Int32).toInt = 1 := rfl; omega) (by have q0 : (1 : Int32).toInt = 1 := rfl; omega) (by have q0 : (1 : Int32).toInt = 1 := rfl; omega) ok1075 kx1076 f1074 (by have q0 : (1 : Int32).toInt = 1 := rfl; omega) h (lv_sub hl [0, 2, 3, 4] rfl)
                          · refine lv_istore_n (lv' := [(3, .int 0), (4, .int v1059), (2, .int v617), (0, .ref (ad 64)), (1, .int n)]) hx hb dX9_lookAt_193 rfl hl (by decide) rfl (fun ls hl => ?_)
                            refine lv_aload_n hx hb dX9_lookAt_194 rfl (lv_at hl 3 rfl) ?_
                            refine lv_dup hx hb dX9_lookAt_195 rfl ?_
                            refine r_get kc9 X h 64 12 (by decide) rfl cf985 (by decide) kv_664 rfl dX9_lookAt_196 ?_
                            refine lv_iload_n hx hb dX9_lookAt_199 rfl (lv_at hl 0 rfl) ?_
                            refine lv_if_eq (tgt := 207) hx hb dX9_lookAt_200 (by decide) (fun _ => ?_) (fun hc => absurd (by decide) hc)
                            refine lv_iconst (v := 0) hx hb dX9_lookAt_207 (by decide) ?_
                            obtain ⟨z1079, e1077, t1078⟩ := x_add (x := C973) (y := (0 : Int32)) (a := (C973).toInt) (b := 0) rfl rfl (by omega) (by omega)
                            refine o_iadd (z := z1079) hx hb dX9_lookAt_208 e1077 ?_
                            refine r_put kc9 X hD h 64 12 (by decide) rfl cf985 (by decide) kv_664 rfl rfl rfl (Nat.le_of_ble_eq_true rfl) dX9_lookAt_209 (fun H locs w1080 e1081 h => ?_)
                            have f1082 : w1080 64 = .inr (7, [.ref (ad 65), .ref (ad 66), .ref (ad 67), .ref (ad 68), .long x, .long y, .ref (ad 69), .int mb, .ref (ad 70), .ref (ad 71), .int bl, .int C7, .int z1079, .int 4, .int 0, .ref (ad 72), .ref (ad 73)]) := (congrFun e1081 _).trans (va_up_self _ _ _)
                            have ok1083 : OK cI cB cZ cO ad w1080 := OK.up ok983 e1081 (sM_mk (by omega) (by omega))
                            have kx1084 : F6 w w1080 := F6.up kx984 e1081
                            refine lv_goto (tgt := 136) hx hb dX9_lookAt_212 (by decide) ?_
                            exact ih976  (0 : Int32) z1079 w1080 _ _ _ (by have q0 : (0 : Int32).toInt = 0 := rfl; omega) (by have q0 : (0 : Int32).toInt = 0 := rfl; omega) (by have q0 : (0 : Int32).toInt = 0 := rfl; omega) (by have q0 : (0 : Int32).toInt = 0 := rfl; omega) (by have q0 : (0 : Int32).toInt = 0 := rfl; omega) ok1083 kx1084 f1082 (by have q0 : (0 : Int32).toInt = 0 := rfl; omega) h (lv_sub hl [0, 2, 3, 4] rfl)
                  exact hloop974 152 (0 : Int32) (1 : Int32) w966 _ _ _ (by have q0 : (0 : Int32).toInt = 0 := rfl; have q1 : (1 : Int32).toInt = 1 := rfl; omega) (by have q0 : (0 : Int32).toInt = 0 := rfl; have q1 : (1 : Int32).toInt = 1 := rfl; omega) (by have q0 : (0 : Int32).toInt = 0 := rfl; have q1 : (1 : Int32).toInt = 1 := rfl; omega) (by have q0 : (0 : Int32).toInt = 0 := rfl; have q1 : (1 : Int32).toInt = 1 := rfl; omega) (by have q0 : (0 : Int32).toInt = 0 := rfl; have q1 : (1 : Int32).toInt = 1 := rfl; omega) ok969 kx970 f968 (by have q0 : (0 : Int32).toInt = 0 := rfl; have q1 : (1 : Int32).toInt = 1 := rfl; omega) h (lv_sub hl [0, 1, 2, 3] rfl)
                · have hc960 : (v617).toInt = 59 := i_eq hc960 rfl rfl
                  refine lv_iconst (v := 3) hx hb dX9_lookAt_109 (by decide) ?_
                  refine lv_goto (tgt := 114) hx hb dX9_lookAt_110 (by decide) ?_
                  refine r_put kc9 X hD h 64 13 (by decide) rfl f633 (by decide) kv_665 rfl rfl rfl (Nat.le_of_ble_eq_true rfl) dX9_lookAt_114 (fun H locs w1085 e1086 h => ?_)
                  have f1087 : w1085 64 = .inr (7, [.ref (ad 65), .ref (ad 66), .ref (ad 67), .ref (ad 68), .long x, .long y, .ref (ad 69), .int mb, .ref (ad 70), .ref (ad 71), .int bl, .int C7, .int 0, .int 3, .int 0, .ref (ad 72), .ref (ad 73)]) := (congrFun e1086 _).trans (va_up_self _ _ _)
                  have ok1088 : OK cI cB cZ cO ad w1085 := OK.up ok634 e1086 (sM_mk (by omega) (by omega))
                  have kx1089 : F6 w w1085 := F6.up kx635 e1086
                  refine lv_aload_n hx hb dX9_lookAt_117 rfl (lv_at hl 1 rfl) ?_
                  refine lv_iconst (v := 1) hx hb dX9_lookAt_118 (by decide) ?_
                  refine r_put kc9 X hD h 64 12 (by decide) rfl f1087 (by decide) kv_664 rfl rfl rfl (Nat.le_of_ble_eq_true rfl) dX9_lookAt_119 (fun H locs w1090 e1091 h => ?_)
                  have f1092 : w1090 64 = .inr (7, [.ref (ad 65), .ref (ad 66), .ref (ad 67), .ref (ad 68), .long x, .long y, .ref (ad 69), .int mb, .ref (ad 70), .ref (ad 71), .int bl, .int C7, .int 1, .int 3, .int 0, .ref (ad 72), .ref (ad 73)]) := (congrFun e1091 _).trans (va_up_self _ _ _)
                  have ok1093 : OK cI cB cZ cO ad w1090 := OK.up ok1088 e1091 (sM_mk (by omega) (by omega))
                  have kx1094 : F6 w w1090 := F6.up kx1089 e1091
                  refine lv_aload_n hx hb dX9_lookAt_122 rfl (lv_at hl 1 rfl) ?_
                  refine r_get kc9 X h 64 13 (by decide) rfl f1092 (by decide) kv_665 rfl dX9_lookAt_123 ?_
                  refine lv_iconst (v := 3) hx hb dX9_lookAt_126 (by decide) ?_
                  refine lv_icmp_ge (tgt := 134) hx hb dX9_lookAt_127 (by decide) (fun _ => ?_) (fun hc => absurd (by decide) hc)
                  refine lv_iconst (v := 0) hx hb dX9_lookAt_134 (by decide) ?_
                  refine lv_istore_n (lv' := [(3, .int 0), (2, .int v617), (0, .ref (ad 64)), (1, .int n)]) hx hb dX9_lookAt_135 rfl hl (by decide) rfl (fun ls hl => ?_)
                  have hloop1098 : ∀ (d1099 : Nat) (L1095 : Int32) (C1097 : Int32) (wL1096 : Nat → va_E) (H : Heap) (locs : List Loc) (ls : Array Slot), 0 ≤ L1095.toInt → L1095.toInt ≤ 1 → C7.toInt + C1097.toInt ≤ bl.toInt → 1 ≤ C1097.toInt → C1097.toInt ≤ 150 → OK cI cB cZ cO ad wL1096 → F6 w wL1096 → wL1096 64 = .inr (7, [.ref (ad 65), .ref (ad 66), .ref (ad 67), .ref (ad 68), .long x, .long y, .ref (ad 69), .int mb, .ref (ad 70), .ref (ad 71), .int bl, .int C7, .int C1097, .int 3, .int 0, .ref (ad 72), .ref (ad 73)]) → bl.toInt - C7.toInt - C1097.toInt + L1095.toInt < (d1099 : Int) → St G 74 ad (wA 74 ad s.heap.size) s.heap wL1096 H locs → lv_has ls 5 [(3, .int L1095), (2, .int v617), (0, .ref (ad 64)), (1, .int n)] → W p l e { frames := 2, cells := 0, slots := 0, locals := 45 } s m [.ref (ad 64), .int n].toArray below meth c H locs 0 0 (MQ below (va_Qv (fun w1 => OK cI cB cZ cO ad w1 ∧ F6 w w1 ∧ ∃ ta1 tl1 tk1 va1 : Int32, w1 64 = .inr (7, [.ref (ad 65), .ref (ad 66), .ref (ad 67), .ref (ad 68), .long x, .long y, .ref (ad 69), .int mb, .ref (ad 70), .ref (ad 71), .int bl, .int ta1, .int tl1, .int tk1, .int va1, .ref (ad 72), .ref (ad 73)]) ∧ n.toInt ≤ ta1.toInt ∧ 0 ≤ tl1.toInt ∧ ta1.toInt + tl1.toInt ≤ bl.toInt ∧ (tk1.toInt = 0 ∨ 1 ≤ tl1.toInt)) (Aft G 74 ad) (wA 74 ad s.heap.size)) [.ref (ad 64), .int n].toArray s 0 0 (wA 74 ad s.heap.size)) (F0 m 136 ls []) := by
                    intro d1099
                    induction d1099 with
                    | zero => intro L1095 C1097 wL1096 H locs ls hi1102 hi1103 hi1104 hi1105 hi1106 ok1107 kx1108 cf1109 hm1101 h hl; exfalso; omega
                    | succ d1099 ih1100 =>
                      intro L1095 C1097 wL1096 H locs ls hi1102 hi1103 hi1104 hi1105 hi1106 ok1107 kx1108 cf1109 hm1101 h hl
                      refine lv_iload_n hx hb dX9_lookAt_136 rfl (lv_at hl 0 rfl) ?_
                      refine lv_if_eq (tgt := 215) hx hb dX9_lookAt_137 (by decide) (fun hc1111 => ?_) (fun hc1111 => ?_)
                      · have hc1111 : (L1095).toInt = 0 := i_eq hc1111 rfl rfl
                        refine lv_iconst (v := 0) hx hb dX9_lookAt_215 (by decide) ?_
                        refine lv_istore (lv' := [(4, .int 0), (3, .int L1095), (2, .int v617), (0, .ref (ad 64)), (1, .int n)]) hx hb dX9_lookAt_216 hl (by decide) rfl (fun ls hl => ?_)
                        have hloop1115 : ∀ (d1116 : Nat) (L1112 : Int32) (C1114 : Int32) (wL1113 : Nat → va_E) (H : Heap) (locs : List Loc) (ls : Array Slot), 0 ≤ L1112.toInt → L1112.toInt ≤ 2 → OK cI cB cZ cO ad wL1113 → F6 w wL1113 → wL1113 64 = .inr (7, [.ref (ad 65), .ref (ad 66), .ref (ad 67), .ref (ad 68), .long x, .long y, .ref (ad 69), .int mb, .ref (ad 70), .ref (ad 71), .int bl, .int C7, .int C1097, .int 3, .int C1114, .ref (ad 72), .ref (ad 73)]) → 2 - L1112.toInt < (d1116 : Int) → St G 74 ad (wA 74 ad s.heap.size) s.heap wL1113 H locs → lv_has ls 5 [(4, .int L1112), (3, .int L1095), (2, .int v617), (0, .ref (ad 64)), (1, .int n)] → W p l e { frames := 2, cells := 0, slots := 0, locals := 45 } s m [.ref (ad 64), .int n].toArray below meth c H locs 0 0 (MQ below (va_Qv (fun w1 => OK cI cB cZ cO ad w1 ∧ F6 w w1 ∧ ∃ ta1 tl1 tk1 va1 : Int32, w1 64 = .inr (7, [.ref (ad 65), .ref (ad 66), .ref (ad 67), .ref (ad 68), .long x, .long y, .ref (ad 69), .int mb, .ref (ad 70), .ref (ad 71), .int bl, .int ta1, .int tl1, .int tk1, .int va1, .ref (ad 72), .ref (ad 73)]) ∧ n.toInt ≤ ta1.toInt ∧ 0 ≤ tl1.toInt ∧ ta1.toInt + tl1.toInt ≤ bl.toInt ∧ (tk1.toInt = 0 ∨ 1 ≤ tl1.toInt)) (Aft G 74 ad) (wA 74 ad s.heap.size)) [.ref (ad 64), .int n].toArray s 0 0 (wA 74 ad s.heap.size)) (F0 m 218 ls []) := by
                          intro d1116
                          induction d1116 with
                          | zero => intro L1112 C1114 wL1113 H locs ls hi1119 hi1120 ok1121 kx1122 cf1123 hm1118 h hl; exfalso; omega
                          | succ d1116 ih1117 =>
                            intro L1112 C1114 wL1113 H locs ls hi1119 hi1120 ok1121 kx1122 cf1123 hm1118 h hl
                            refine lv_iload hx hb dX9_lookAt_218 (lv_at hl 0 rfl) ?_
                            refine lv_aload_n hx hb dX9_lookAt_220 rfl (lv_at hl 3 rfl) ?_
                            refine r_get kc9 X h 64 12 (by decide) rfl cf1123 (by decide) kv_664 rfl dX9_lookAt_221 ?_
                            refine lv_icmp_ge (tgt := 274) hx hb dX9_lookAt_224 (by decide) (fun hc1125 => ?_) (fun hc1125 => ?_)
                            · have hc1125 : (C1097).toInt ≤ (L1112).toInt := i_le hc1125 rfl rfl
                              refine lv_aload_n hx hb dX9_lookAt_274 rfl (lv_at hl 3 rfl) ?_
                              refine lv_aload_n hx hb dX9_lookAt_275 rfl (lv_at hl 3 rfl) ?_
                              refine r_get kc9 X h 64 13 (by decide) rfl cf1123 (by decide) kv_665 rfl dX9_lookAt_276 ?_
                              refine lv_iconst (v := 2) hx hb dX9_lookAt_279 (by decide) ?_
                              refine lv_icmp_ne (tgt := 295) hx hb dX9_lookAt_280 (by decide) (fun _ => ?_) (fun hc => absurd hc (by decide))
                              refine lv_aload_n hx hb dX9_lookAt_295 rfl (lv_at hl 3 rfl) ?_
                              refine r_get kc9 X h 64 13 (by decide) rfl cf1123 (by decide) kv_665 rfl dX9_lookAt_296 ?_
                              refine r_put kc9 X hD h 64 13 (by decide) rfl cf1123 (by decide) kv_665 rfl rfl rfl (Nat.le_of_ble_eq_true rfl) dX9_lookAt_299 (fun H locs w1126 e1127 h => ?_)
                              have f1128 : w1126 64 = .inr (7, [.ref (ad 65), .ref (ad 66), .ref (ad 67), .ref (ad 68), .long x, .long y, .ref (ad 69), .int mb, .ref (ad 70), .ref (ad 71), .int bl, .int C7, .int C1097, .int 3, .int C1114, .ref (ad 72), .ref (ad 73)]) := (congrFun e1127 _).trans (va_up_self _ _ _)
                              have ok1129 : OK cI cB cZ cO ad w1126 := OK.up ok1121 e1127 (sM_mk (by omega) (by omega))
                              have kx1130 : F6 w w1126 := F6.up kx1122 e1127
                              exact e_v X h hr hlk dX9_lookAt_302 ⟨ok1129, kx1130, ⟨_, _, _, _, f1128, by omega, by omega, by omega, by omega⟩⟩
                            · have hc1125 : ¬ (C1097).toInt ≤ (L1112).toInt := i_nle hc1125 rfl rfl
                              refine lv_iload hx hb dX9_lookAt_227 (lv_at hl 0 rfl) ?_
                              refine lv_iconst (v := 2) hx hb dX9_lookAt_229 (by decide) ?_
                              refine lv_icmp_ge (tgt := 274) hx hb dX9_lookAt_230 (by decide) (fun hc1131 => ?_) (fun hc1131 => ?_)
                              · have hc1131 : 2 ≤ (L1112).toInt := i_le hc1131 rfl rfl
                                refine lv_aload_n hx hb dX9_lookAt_274 rfl (lv_at hl 3 rfl) ?_
                                refine lv_aload_n hx hb dX9_lookAt_275 rfl (lv_at hl 3 rfl) ?_
                                refine r_get kc9 X h 64 13 (by decide) rfl cf1123 (by decide) kv_665 rfl dX9_lookAt_276 ?_
                                refine lv_iconst (v := 2) hx hb dX9_lookAt_279 (by decide) ?_
                                refine lv_icmp_ne (tgt := 295) hx hb dX9_lookAt_280 (by decide) (fun _ => ?_) (fun hc => absurd hc (by decide))
                                refine lv_aload_n hx hb dX9_lookAt_295 rfl (lv_at hl 3 rfl) ?_
                                refine r_get kc9 X h 64 13 (by decide) rfl cf1123 (by decide) kv_665 rfl dX9_lookAt_296 ?_
                                refine r_put kc9 X hD h 64 13 (by decide) rfl cf1123 (by decide) kv_665 rfl rfl rfl (Nat.le_of_ble_eq_true rfl) dX9_lookAt_299 (fun H locs w1132 e1133 h => ?_)
                                have f1134 : w1132 64 = .inr (7, [.ref (ad 65), .ref (ad 66), .ref (ad 67), .ref (ad 68), .long x, .long y, .ref (ad 69), .int mb, .ref (ad 70), .ref (ad 71), .int bl, .int C7, .int C1097, .int 3, .int C1114, .ref (ad 72), .ref (ad 73)]) := (congrFun e1133 _).trans (va_up_self _ _ _)
                                have ok1135 : OK cI cB cZ cO ad w1132 := OK.up ok1121 e1133 (sM_mk (by omega) (by omega))
                                have kx1136 : F6 w w1132 := F6.up kx1122 e1133
                                exact e_v X h hr hlk dX9_lookAt_302 ⟨ok1135, kx1136, ⟨_, _, _, _, f1134, by omega, by omega, by omega, by omega⟩⟩
                              · have hc1131 : ¬ 2 ≤ (L1112).toInt := i_nle hc1131 rfl rfl
                                refine lv_aload_n hx hb dX9_lookAt_233 rfl (lv_at hl 3 rfl) ?_
                                refine r_get kc9 X h 64 13 (by decide) rfl cf1123 (by decide) kv_665 rfl dX9_lookAt_234 ?_
                                refine lv_iconst (v := 2) hx hb dX9_lookAt_237 (by decide) ?_
                                refine lv_icmp_ne (tgt := 274) hx hb dX9_lookAt_238 (by decide) (fun _ => ?_) (fun hc => absurd hc (by decide))
                                refine lv_aload_n hx hb dX9_lookAt_274 rfl (lv_at hl 3 rfl) ?_
                                refine lv_aload_n hx hb dX9_lookAt_275 rfl (lv_at hl 3 rfl) ?_
                                refine r_get kc9 X h 64 13 (by decide) rfl cf1123 (by decide) kv_665 rfl dX9_lookAt_276 ?_
                                refine lv_iconst (v := 2) hx hb dX9_lookAt_279 (by decide) ?_
                                refine lv_icmp_ne (tgt := 295) hx hb dX9_lookAt_280 (by decide) (fun _ => ?_) (fun hc => absurd hc (by decide))
                                refine lv_aload_n hx hb dX9_lookAt_295 rfl (lv_at hl 3 rfl) ?_
                                refine r_get kc9 X h 64 13 (by decide) rfl cf1123 (by decide) kv_665 rfl dX9_lookAt_296 ?_
                                refine r_put kc9 X hD h 64 13 (by decide) rfl cf1123 (by decide) kv_665 rfl rfl rfl (Nat.le_of_ble_eq_true rfl) dX9_lookAt_299 (fun H locs w1137 e1138 h => ?_)
                                have f1139 : w1137 64 = .inr (7, [.ref (ad 65), .ref (ad 66), .ref (ad 67), .ref (ad 68), .long x, .long y, .ref (ad 69), .int mb, .ref (ad 70), .ref (ad 71), .int bl, .int C7, .int C1097, .int 3, .int C1114, .ref (ad 72), .ref (ad 73)]) := (congrFun e1138 _).trans (va_up_self _ _ _)
                                have ok1140 : OK cI cB cZ cO ad w1137 := OK.up ok1121 e1138 (sM_mk (by omega) (by omega))
                                have kx1141 : F6 w w1137 := F6.up kx1122 e1138
                                exact e_v X h hr hlk dX9_lookAt_302 ⟨ok1140, kx1141, ⟨_, _, _, _, f1139, by omega, by omega, by omega, by omega⟩⟩
                        exact hloop1115 3 (0 : Int32) (0 : Int32) wL1096 _ _ _ (by have q0 : (0 : Int32).toInt = 0 := rfl; omega) (by have q0 : (0 : Int32).toInt = 0 := rfl; omega) ok1107 kx1108 cf1109 (by have q0 : (0 : Int32).toInt = 0 := rfl; omega) h (lv_sub hl [0, 1, 2, 3, 4] rfl)
                      · have hc1111 : ¬ (L1095).toInt = 0 := i_ne hc1111 rfl rfl
                        refine lv_aload_n hx hb dX9_lookAt_140 rfl (lv_at hl 2 rfl) ?_
                        refine r_get kc9 X h 64 11 (by decide) rfl cf1109 (by decide) kv_663 rfl dX9_lookAt_141 ?_
                        refine lv_aload_n hx hb dX9_lookAt_144 rfl (lv_at hl 2 rfl) ?_
                        refine r_get kc9 X h 64 12 (by decide) rfl cf1109 (by decide) kv_664 rfl dX9_lookAt_145 ?_
                        obtain ⟨z1144, e1142, t1143⟩ := x_add (x := C7) (y := C1097) (a := (C7).toInt) (b := (C1097).toInt) rfl rfl (by omega) (by omega)
                        refine o_iadd (z := z1144) hx hb dX9_lookAt_148 e1142 ?_
                        refine lv_aload_n hx hb dX9_lookAt_149 rfl (lv_at hl 2 rfl) ?_
                        refine r_get kc9 X h 64 10 (by decide) rfl cf1109 (by decide) kv_539 rfl dX9_lookAt_150 ?_
                        refine lv_icmp_ge (tgt := 215) hx hb dX9_lookAt_153 (by decide) (fun hc1145 => ?_) (fun hc1145 => ?_)
                        · have hc1145 : (bl).toInt ≤ (z1144).toInt := i_le hc1145 rfl rfl
                          refine lv_iconst (v := 0) hx hb dX9_lookAt_215 (by decide) ?_
                          refine lv_istore (lv' := [(4, .int 0), (3, .int L1095), (2, .int v617), (0, .ref (ad 64)), (1, .int n)]) hx hb dX9_lookAt_216 hl (by decide) rfl (fun ls hl => ?_)
                          have hloop1149 : ∀ (d1150 : Nat) (L1146 : Int32) (C1148 : Int32) (wL1147 : Nat → va_E) (H : Heap) (locs : List Loc) (ls : Array Slot), 0 ≤ L1146.toInt → L1146.toInt ≤ 2 → OK cI cB cZ cO ad wL1147 → F6 w wL1147 → wL1147 64 = .inr (7, [.ref (ad 65), .ref (ad 66), .ref (ad 67), .ref (ad 68), .long x, .long y, .ref (ad 69), .int mb, .ref (ad 70), .ref (ad 71), .int bl, .int C7, .int C1097, .int 3, .int C1148, .ref (ad 72), .ref (ad 73)]) → 2 - L1146.toInt < (d1150 : Int) → St G 74 ad (wA 74 ad s.heap.size) s.heap wL1147 H locs → lv_has ls 5 [(4, .int L1146), (3, .int L1095), (2, .int v617), (0, .ref (ad 64)), (1, .int n)] → W p l e { frames := 2, cells := 0, slots := 0, locals := 45 } s m [.ref (ad 64), .int n].toArray below meth c H locs 0 0 (MQ below (va_Qv (fun w1 => OK cI cB cZ cO ad w1 ∧ F6 w w1 ∧ ∃ ta1 tl1 tk1 va1 : Int32, w1 64 = .inr (7, [.ref (ad 65), .ref (ad 66), .ref (ad 67), .ref (ad 68), .long x, .long y, .ref (ad 69), .int mb, .ref (ad 70), .ref (ad 71), .int bl, .int ta1, .int tl1, .int tk1, .int va1, .ref (ad 72), .ref (ad 73)]) ∧ n.toInt ≤ ta1.toInt ∧ 0 ≤ tl1.toInt ∧ ta1.toInt + tl1.toInt ≤ bl.toInt ∧ (tk1.toInt = 0 ∨ 1 ≤ tl1.toInt)) (Aft G 74 ad) (wA 74 ad s.heap.size)) [.ref (ad 64), .int n].toArray s 0 0 (wA 74 ad s.heap.size)) (F0 m 218 ls []) := by
                            intro d1150
                            induction d1150 with
                            | zero => intro L1146 C1148 wL1147 H locs ls hi1153 hi1154 ok1155 kx1156 cf1157 hm1152 h hl; exfalso; omega
                            | succ d1150 ih1151 =>
                              intro L1146 C1148 wL1147 H locs ls hi1153 hi1154 ok1155 kx1156 cf1157 hm1152 h hl
                              refine lv_iload hx hb dX9_lookAt_218 (lv_at hl 0 rfl) ?_
                              refine lv_aload_n hx hb dX9_lookAt_220 rfl (lv_at hl 3 rfl) ?_
                              refine r_get kc9 X h 64 12 (by decide) rfl cf1157 (by decide) kv_664 rfl dX9_lookAt_221 ?_
                              refine lv_icmp_ge (tgt := 274) hx hb dX9_lookAt_224 (by decide) (fun hc1159 => ?_) (fun hc1159 => ?_)
                              · have hc1159 : (C1097).toInt ≤ (L1146).toInt := i_le hc1159 rfl rfl
                                refine lv_aload_n hx hb dX9_lookAt_274 rfl (lv_at hl 3 rfl) ?_
                                refine lv_aload_n hx hb dX9_lookAt_275 rfl (lv_at hl 3 rfl) ?_
                                refine r_get kc9 X h 64 13 (by decide) rfl cf1157 (by decide) kv_665 rfl dX9_lookAt_276 ?_
                                refine lv_iconst (v := 2) hx hb dX9_lookAt_279 (by decide) ?_
                                refine lv_icmp_ne (tgt := 295) hx hb dX9_lookAt_280 (by decide) (fun _ => ?_) (fun hc => absurd hc (by decide))
                                refine lv_aload_n hx hb dX9_lookAt_295 rfl (lv_at hl 3 rfl) ?_
                                refine r_get kc9 X h 64 13 (by decide) rfl cf1157 (by decide) kv_665 rfl dX9_lookAt_296 ?_
                                refine r_put kc9 X hD h 64 13 (by decide) rfl cf1157 (by decide) kv_665 rfl rfl rfl (Nat.le_of_ble_eq_true rfl) dX9_lookAt_299 (fun H locs w1160 e1161 h => ?_)
                                have f1162 : w1160 64 = .inr (7, [.ref (ad 65), .ref (ad 66), .ref (ad 67), .ref (ad 68), .long x, .long y, .ref (ad 69), .int mb, .ref (ad 70), .ref (ad 71), .int bl, .int C7, .int C1097, .int 3, .int C1148, .ref (ad 72), .ref (ad 73)]) := (congrFun e1161 _).trans (va_up_self _ _ _)
                                have ok1163 : OK cI cB cZ cO ad w1160 := OK.up ok1155 e1161 (sM_mk (by omega) (by omega))
                                have kx1164 : F6 w w1160 := F6.up kx1156 e1161
                                exact e_v X h hr hlk dX9_lookAt_302 ⟨ok1163, kx1164, ⟨_, _, _, _, f1162, by omega, by omega, by omega, by omega⟩⟩
                              · have hc1159 : ¬ (C1097).toInt ≤ (L1146).toInt := i_nle hc1159 rfl rfl
                                refine lv_iload hx hb dX9_lookAt_227 (lv_at hl 0 rfl) ?_
                                refine lv_iconst (v := 2) hx hb dX9_lookAt_229 (by decide) ?_
                                refine lv_icmp_ge (tgt := 274) hx hb dX9_lookAt_230 (by decide) (fun hc1165 => ?_) (fun hc1165 => ?_)
                                · have hc1165 : 2 ≤ (L1146).toInt := i_le hc1165 rfl rfl
                                  refine lv_aload_n hx hb dX9_lookAt_274 rfl (lv_at hl 3 rfl) ?_
                                  refine lv_aload_n hx hb dX9_lookAt_275 rfl (lv_at hl 3 rfl) ?_
                                  refine r_get kc9 X h 64 13 (by decide) rfl cf1157 (by decide) kv_665 rfl dX9_lookAt_276 ?_
                                  refine lv_iconst (v := 2) hx hb dX9_lookAt_279 (by decide) ?_
                                  refine lv_icmp_ne (tgt := 295) hx hb dX9_lookAt_280 (by decide) (fun _ => ?_) (fun hc => absurd hc (by decide))
                                  refine lv_aload_n hx hb dX9_lookAt_295 rfl (lv_at hl 3 rfl) ?_
                                  refine r_get kc9 X h 64 13 (by decide) rfl cf1157 (by decide) kv_665 rfl dX9_lookAt_296 ?_
                                  refine r_put kc9 X hD h 64 13 (by decide) rfl cf1157 (by decide) kv_665 rfl rfl rfl (Nat.le_of_ble_eq_true rfl) dX9_lookAt_299 (fun H locs w1166 e1167 h => ?_)
                                  have f1168 : w1166 64 = .inr (7, [.ref (ad 65), .ref (ad 66), .ref (ad 67), .ref (ad 68), .long x, .long y, .ref (ad 69), .int mb, .ref (ad 70), .ref (ad 71), .int bl, .int C7, .int C1097, .int 3, .int C1148, .ref (ad 72), .ref (ad 73)]) := (congrFun e1167 _).trans (va_up_self _ _ _)
                                  have ok1169 : OK cI cB cZ cO ad w1166 := OK.up ok1155 e1167 (sM_mk (by omega) (by omega))
                                  have kx1170 : F6 w w1166 := F6.up kx1156 e1167
                                  exact e_v X h hr hlk dX9_lookAt_302 ⟨ok1169, kx1170, ⟨_, _, _, _, f1168, by omega, by omega, by omega, by omega⟩⟩
                                · have hc1165 : ¬ 2 ≤ (L1146).toInt := i_nle hc1165 rfl rfl
                                  refine lv_aload_n hx hb dX9_lookAt_233 rfl (lv_at hl 3 rfl) ?_
                                  refine r_get kc9 X h 64 13 (by decide) rfl cf1157 (by decide) kv_665 rfl dX9_lookAt_234 ?_
                                  refine lv_iconst (v := 2) hx hb dX9_lookAt_237 (by decide) ?_
                                  refine lv_icmp_ne (tgt := 274) hx hb dX9_lookAt_238 (by decide) (fun _ => ?_) (fun hc => absurd hc (by decide))
                                  refine lv_aload_n hx hb dX9_lookAt_274 rfl (lv_at hl 3 rfl) ?_
                                  refine lv_aload_n hx hb dX9_lookAt_275 rfl (lv_at hl 3 rfl) ?_
                                  refine r_get kc9 X h 64 13 (by decide) rfl cf1157 (by decide) kv_665 rfl dX9_lookAt_276 ?_
                                  refine lv_iconst (v := 2) hx hb dX9_lookAt_279 (by decide) ?_
                                  refine lv_icmp_ne (tgt := 295) hx hb dX9_lookAt_280 (by decide) (fun _ => ?_) (fun hc => absurd hc (by decide))
                                  refine lv_aload_n hx hb dX9_lookAt_295 rfl (lv_at hl 3 rfl) ?_
                                  refine r_get kc9 X h 64 13 (by decide) rfl cf1157 (by decide) kv_665 rfl dX9_lookAt_296 ?_
                                  refine r_put kc9 X hD h 64 13 (by decide) rfl cf1157 (by decide) kv_665 rfl rfl rfl (Nat.le_of_ble_eq_true rfl) dX9_lookAt_299 (fun H locs w1171 e1172 h => ?_)
                                  have f1173 : w1171 64 = .inr (7, [.ref (ad 65), .ref (ad 66), .ref (ad 67), .ref (ad 68), .long x, .long y, .ref (ad 69), .int mb, .ref (ad 70), .ref (ad 71), .int bl, .int C7, .int C1097, .int 3, .int C1148, .ref (ad 72), .ref (ad 73)]) := (congrFun e1172 _).trans (va_up_self _ _ _)
                                  have ok1174 : OK cI cB cZ cO ad w1171 := OK.up ok1155 e1172 (sM_mk (by omega) (by omega))
                                  have kx1175 : F6 w w1171 := F6.up kx1156 e1172
                                  exact e_v X h hr hlk dX9_lookAt_302 ⟨ok1174, kx1175, ⟨_, _, _, _, f1173, by omega, by omega, by omega, by omega⟩⟩
                          exact hloop1149 3 (0 : Int32) (0 : Int32) wL1096 _ _ _ (by have q0 : (0 : Int32).toInt = 0 := rfl; omega) (by have q0 : (0 : Int32).toInt = 0 := rfl; omega) ok1107 kx1108 cf1109 (by have q0 : (0 : Int32).toInt = 0 := rfl; omega) h (lv_sub hl [0, 1, 2, 3, 4] rfl)
                        · have hc1145 : ¬ (bl).toInt ≤ (z1144).toInt := i_nle hc1145 rfl rfl
                          refine lv_aload_n hx hb dX9_lookAt_156 rfl (lv_at hl 2 rfl) ?_
                          refine r_get kc9 X h 64 9 (by decide) rfl cf1109 (by decide) kv_667 rfl dX9_lookAt_157 ?_
                          refine lv_aload_n hx hb dX9_lookAt_160 rfl (lv_at hl 2 rfl) ?_
                          refine r_get kc9 X h 64 11 (by decide) rfl cf1109 (by decide) kv_663 rfl dX9_lookAt_161 ?_
                          refine lv_aload_n hx hb dX9_lookAt_164 rfl (lv_at hl 2 rfl) ?_
                          refine r_get kc9 X h 64 12 (by decide) rfl cf1109 (by decide) kv_664 rfl dX9_lookAt_165 ?_
                          obtain ⟨z1178, e1176, t1177⟩ := x_add (x := C7) (y := C1097) (a := (C7).toInt) (b := (C1097).toInt) rfl rfl (by omega) (by omega)
                          refine o_iadd (z := z1178) hx hb dX9_lookAt_168 e1176 ?_
                          obtain ⟨g1180, f1179, p1181⟩ := (show sA cI 150 (anyA) (wL1096 71) from ok1107 71 (by decide))
                          have f1182 : wL1096 71 = .inl (cI, 150, .inl g1180) := f1179
                          obtain ⟨v1183, e1184⟩ : ∃ z : Int32, g1180 (z1178).toNatClampNeg = z := ⟨_, rfl⟩
                          refine o_iald (v := v1183) X h 71 0 (by decide) rfl f1182 rfl (in_of (by omega) (by omega)) e1184 dX9_lookAt_169 ?_
                          refine lv_istore (lv' := [(4, .int v1183), (3, .int L1095), (2, .int v617), (0, .ref (ad 64)), (1, .int n)]) hx hb dX9_lookAt_170 hl (by decide) rfl (fun ls hl => ?_)
                          refine lv_aload_n hx hb dX9_lookAt_172 rfl (lv_at hl 3 rfl) ?_
                          refine r_get kc9 X h 64 13 (by decide) rfl cf1109 (by decide) kv_665 rfl dX9_lookAt_173 ?_
                          refine lv_iconst (v := 1) hx hb dX9_lookAt_176 (by decide) ?_
                          refine lv_icmp_ne (tgt := 188) hx hb dX9_lookAt_177 (by decide) (fun _ => ?_) (fun hc => absurd hc (by decide))
                          refine lv_iload hx hb dX9_lookAt_188 (lv_at hl 0 rfl) ?_
                          refine n_Si (na := 1) (As := [.int v1183]) (rest := []) X hD hN h (c_M_isFigure l G cI cB cZ cO ad wL1096   v1183  ) ⟨kv_671, kv_672, kv_470, kv_673⟩ ⟨by decide, by decide, by decide⟩ ⟨Nat.le_of_ble_eq_true rfl, Nat.le_of_ble_eq_true rfl⟩ ⟨Nat.zero_le _, Nat.zero_le _⟩ rfl hl.1 rfl (Nat.le_of_ble_eq_true rfl) dX9_lookAt_190 (fun r1186 w1187 H locs hp1188 h => ?_)
                          obtain ⟨rfl, hr1189⟩ := hp1188
                          rcases hr1189 with ⟨hq1190, hq1191, rfl⟩ | ⟨hq1192, rfl⟩
                          · refine lv_istore_n (lv' := [(3, .int 1), (4, .int v1183), (2, .int v617), (0, .ref (ad 64)), (1, .int n)]) hx hb dX9_lookAt_193 rfl hl (by decide) rfl (fun ls hl => ?_)
                            refine lv_aload_n hx hb dX9_lookAt_194 rfl (lv_at hl 3 rfl) ?_
                            refine lv_dup hx hb dX9_lookAt_195 rfl ?_
                            refine r_get kc9 X h 64 12 (by decide) rfl cf1109 (by decide) kv_664 rfl dX9_lookAt_196 ?_
                            refine lv_iload_n hx hb dX9_lookAt_199 rfl (lv_at hl 0 rfl) ?_
                            refine lv_if_eq (tgt := 207) hx hb dX9_lookAt_200 (by decide) (fun hc => absurd hc (by decide)) (fun _ => ?_)
                            refine lv_iconst (v := 1) hx hb dX9_lookAt_203 (by decide) ?_
                            refine lv_goto (tgt := 208) hx hb dX9_lookAt_204 (by decide) ?_
                            obtain ⟨z1195, e1193, t1194⟩ := x_add (x := C1097) (y := (1 : Int32)) (a := (C1097).toInt) (b := 1) rfl rfl (by omega) (by omega)
                            refine o_iadd (z := z1195) hx hb dX9_lookAt_208 e1193 ?_
                            refine r_put kc9 X hD h 64 12 (by decide) rfl cf1109 (by decide) kv_664 rfl rfl rfl (Nat.le_of_ble_eq_true rfl) dX9_lookAt_209 (fun H locs w1196 e1197 h => ?_)
                            have f1198 : w1196 64 = .inr (7, [.ref (ad 65), .ref (ad 66), .ref (ad 67), .ref (ad 68), .long x, .long y, .ref (ad 69), .int mb, .ref (ad 70), .ref (ad 71), .int bl, .int C7, .int z1195, .int 3, .int 0, .ref (ad 72), .ref (ad 73)]) := (congrFun e1197 _).trans (va_up_self _ _ _)
                            have ok1199 : OK cI cB cZ cO ad w1196 := OK.up ok1107 e1197 (sM_mk (by omega) (by omega))
                            have kx1200 : F6 w w1196 := F6.up kx1108 e1197
                            refine lv_goto (tgt := 136) hx hb dX9_lookAt_212 (by decide) ?_
                            exact ih1100  (1 : Int32) z1195 w1196 _ _ _ (by have q0 : (1 : Int32).toInt = 1 := rfl; omega) (by have q0 : (1 : Int32).toInt = 1 := rfl; omega) (by have q0 : (1 : Int32).toInt = 1 := rfl; omega) (by have q0 : (1 : Int32).toInt = 1 := rfl; omega) (by have q0 : (1 : Int32).toInt = 1 := rfl; omega) ok1199 kx1200 f1198 (by have q0 : (1 : Int32).toInt = 1 := rfl; omega) h (lv_sub hl [0, 2, 3, 4] rfl)
                          · refine lv_istore_n (lv' := [(3, .int 0), (4, .int v1183), (2, .int v617), (0, .ref (ad 64)), (1, .int n)]) hx hb dX9_lookAt_193 rfl hl (by decide) rfl (fun ls hl => ?_)
                            refine lv_aload_n hx hb dX9_lookAt_194 rfl (lv_at hl 3 rfl) ?_
                            refine lv_dup hx hb dX9_lookAt_195 rfl ?_
                            refine r_get kc9 X h 64 12 (by decide) rfl cf1109 (by decide) kv_664 rfl dX9_lookAt_196 ?_
                            refine lv_iload_n hx hb dX9_lookAt_199 rfl (lv_at hl 0 rfl) ?_
                            refine lv_if_eq (tgt := 207) hx hb dX9_lookAt_200 (by decide) (fun _ => ?_) (fun hc => absurd (by decide) hc)
                            refine lv_iconst (v := 0) hx hb dX9_lookAt_207 (by decide) ?_
                            obtain ⟨z1203, e1201, t1202⟩ := x_add (x := C1097) (y := (0 : Int32)) (a := (C1097).toInt) (b := 0) rfl rfl (by omega) (by omega)
                            refine o_iadd (z := z1203) hx hb dX9_lookAt_208 e1201 ?_
                            refine r_put kc9 X hD h 64 12 (by decide) rfl cf1109 (by decide) kv_664 rfl rfl rfl (Nat.le_of_ble_eq_true rfl) dX9_lookAt_209 (fun H locs w1204 e1205 h => ?_)
                            have f1206 : w1204 64 = .inr (7, [.ref (ad 65), .ref (ad 66), .ref (ad 67), .ref (ad 68), .long x, .long y, .ref (ad 69), .int mb, .ref (ad 70), .ref (ad 71), .int bl, .int C7, .int z1203, .int 3, .int 0, .ref (ad 72), .ref (ad 73)]) := (congrFun e1205 _).trans (va_up_self _ _ _)
                            have ok1207 : OK cI cB cZ cO ad w1204 := OK.up ok1107 e1205 (sM_mk (by omega) (by omega))
                            have kx1208 : F6 w w1204 := F6.up kx1108 e1205
                            refine lv_goto (tgt := 136) hx hb dX9_lookAt_212 (by decide) ?_
                            exact ih1100  (0 : Int32) z1203 w1204 _ _ _ (by have q0 : (0 : Int32).toInt = 0 := rfl; omega) (by have q0 : (0 : Int32).toInt = 0 := rfl; omega) (by have q0 : (0 : Int32).toInt = 0 := rfl; omega) (by have q0 : (0 : Int32).toInt = 0 := rfl; omega) (by have q0 : (0 : Int32).toInt = 0 := rfl; omega) ok1207 kx1208 f1206 (by have q0 : (0 : Int32).toInt = 0 := rfl; omega) h (lv_sub hl [0, 2, 3, 4] rfl)
                  exact hloop1098 152 (0 : Int32) (1 : Int32) w1090 _ _ _ (by have q0 : (0 : Int32).toInt = 0 := rfl; have q1 : (1 : Int32).toInt = 1 := rfl; omega) (by have q0 : (0 : Int32).toInt = 0 := rfl; have q1 : (1 : Int32).toInt = 1 := rfl; omega) (by have q0 : (0 : Int32).toInt = 0 := rfl; have q1 : (1 : Int32).toInt = 1 := rfl; omega) (by have q0 : (0 : Int32).toInt = 0 := rfl; have q1 : (1 : Int32).toInt = 1 := rfl; omega) (by have q0 : (0 : Int32).toInt = 0 := rfl; have q1 : (1 : Int32).toInt = 1 := rfl; omega) ok1093 kx1094 f1092 (by have q0 : (0 : Int32).toInt = 0 := rfl; have q1 : (1 : Int32).toInt = 1 := rfl; omega) h (lv_sub hl [0, 1, 2, 3] rfl)
          · have hc636 : (C7).toInt = (bl).toInt := i_eq hc636 rfl rfl
            exact e_v X h hr hlk dX9_lookAt_69 ⟨ok634, kx635, ⟨_, _, _, _, f633, by omega, by omega, by omega, by omega⟩⟩
        · have hc620 : (v617).toInt = 32 := i_eq hc620 rfl rfl
          refine lv_aload_n hx hb dX9_lookAt_30 rfl (lv_at hl 0 rfl) ?_
          refine lv_dup hx hb dX9_lookAt_31 rfl ?_
          refine r_get kc9 X h 64 11 (by decide) rfl cf18 (by decide) kv_663 rfl dX9_lookAt_32 ?_
          refine lv_iconst (v := 1) hx hb dX9_lookAt_35 (by decide) ?_
          obtain ⟨z1211, e1209, t1210⟩ := x_add (x := C7) (y := (1 : Int32)) (a := (C7).toInt) (b := 1) rfl rfl (by omega) (by omega)
          refine o_iadd (z := z1211) hx hb dX9_lookAt_36 e1209 ?_
          refine r_put kc9 X hD h 64 11 (by decide) rfl cf18 (by decide) kv_663 rfl rfl rfl (Nat.le_of_ble_eq_true rfl) dX9_lookAt_37 (fun H locs w1212 e1213 h => ?_)
          have f1214 : w1212 64 = .inr (7, [.ref (ad 65), .ref (ad 66), .ref (ad 67), .ref (ad 68), .long x, .long y, .ref (ad 69), .int mb, .ref (ad 70), .ref (ad 71), .int bl, .int z1211, .int tl, .int tk, .int va, .ref (ad 72), .ref (ad 73)]) := (congrFun e1213 _).trans (va_up_self _ _ _)
          have ok1215 : OK cI cB cZ cO ad w1212 := OK.up ok16 e1213 (sM_mk (by omega) (by omega))
          have kx1216 : F6 w w1212 := F6.up kx17 e1213
          refine lv_goto (tgt := 5) hx hb dX9_lookAt_40 (by decide) ?_
          exact ih10  z1211 w1212 _ _ _ (by omega) (by omega) (by omega) (by omega) ok1215 kx1216 f1214 (by omega) h (lv_sub hl [0, 1] rfl)
  exact hloop8 151 n w1 _ _ _ (by omega) (by omega) (by omega) (by omega) ok4 kx5 f3 (by omega) h (lv_sub hl [0, 1] rfl)

set_option maxHeartbeats 4000000 in
set_option maxRecDepth 100000 in
theorem c_M_goBehind (l : Launch) (G : va_G) (cI cB cZ cO : ClassId) (ad : Nat → Nat) (w : Nat → va_E) (x y : Int64) (mb bl ta tl tk va : Int32) (ok : OK cI cB cZ cO ad w)   (pf : w 64 = .inr (7, [.ref (ad 65), .ref (ad 66), .ref (ad 67), .ref (ad 68), .long x, .long y, .ref (ad 69), .int mb, .ref (ad 70), .ref (ad 71), .int bl, .int ta, .int tl, .int tk, .int va, .ref (ad 72), .ref (ad 73)])) (hbl0 : 0 ≤ bl.toInt) (hbl1 : bl.toInt ≤ 150) (hta : 0 ≤ ta.toInt) (htl : 0 ≤ tl.toInt) (htb : ta.toInt + tl.toInt ≤ bl.toInt) : NV l G (tyq cI cB cZ cO) yX9_goBehind cX9_goBehind 1 3 69 74 ad w [.ref (ad 64)] (fun w1 => OK cI cB cZ cO ad w1 ∧ F6 w w1 ∧ ∃ ta1 tl1 tk1 va1 : Int32, w1 64 = .inr (7, [.ref (ad 65), .ref (ad 66), .ref (ad 67), .ref (ad 68), .long x, .long y, .ref (ad 69), .int mb, .ref (ad 70), .ref (ad 71), .int bl, .int ta1, .int tl1, .int tk1, .int va1, .ref (ad 72), .ref (ad 73)]) ∧ ta.toInt + tl.toInt ≤ ta1.toInt ∧ 0 ≤ tl1.toInt ∧ ta1.toInt + tl1.toInt ≤ bl.toInt ∧ (tk1.toInt = 0 ∨ 1 ≤ tl1.toInt)) := by
  refine nk_v (own := "NoonShadeModel") rfl (by decide) (Nat.le_of_ble_eq_true rfl) ?_
  intro p e s m below meth c ls X hD hN hr hlk h hl
  have hx := X.1.1
  have hb := X.1.2.1
  have hown := X.1.2.2.2.1
  have hts := X.1.2.2.2.2
  have hl : lv_has ls 1 [(0, .ref (ad 64))] := hl
  have kq0 : (0 : Int32).toInt = 0 := rfl
  have kq1 : (1 : Int32).toInt = 1 := rfl
  have kq2 : (2 : Int32).toInt = 2 := rfl
  have kq3 : (3 : Int32).toInt = 3 := rfl
  have kq4 : (4 : Int32).toInt = 4 := rfl
  refine lv_aload_n hx hb dX9_goBehind_0 rfl (lv_at hl 0 rfl) ?_
  refine lv_aload_n hx hb dX9_goBehind_1 rfl (lv_at hl 0 rfl) ?_
  refine r_get kc9 X h 64 11 (by decide) rfl pf (by decide) kv_663 rfl dX9_goBehind_2 ?_
  refine lv_aload_n hx hb dX9_goBehind_5 rfl (lv_at hl 0 rfl) ?_
  refine r_get kc9 X h 64 12 (by decide) rfl pf (by decide) kv_664 rfl dX9_goBehind_6 ?_
  obtain ⟨z3, e1, t2⟩ := x_add (x := ta) (y := tl) (a := (ta).toInt) (b := (tl).toInt) rfl rfl (by omega) (by omega)
  refine o_iadd (z := z3) hx hb dX9_goBehind_9 e1 ?_
  refine n_Vv (na := 1) (As := [.int z3]) (rest := []) X hD hN h rfl (c_M_lookAt l G cI cB cZ cO ad w x y mb bl ta tl tk va ok z3 (by omega) (by omega) pf (by first | omega | decide | (simp only [k00]; omega)) (by first | omega | decide | (simp only [k00]; omega)) (by first | omega | decide | (simp only [k00]; omega))) ⟨kv_674, kv_675, kv_676, kv_470, kv_677⟩ rfl ⟨by decide, by decide, by decide⟩ ⟨Nat.le_of_ble_eq_true rfl, Nat.le_of_ble_eq_true rfl⟩ ⟨Nat.zero_le _, Nat.zero_le _⟩ (by decide) pf rfl rfl hl.1 rfl (Nat.le_of_ble_eq_true rfl) dX9_goBehind_10 (fun w5 H locs hp6 h => ?_)
  obtain ⟨ok7, kk8, hr9⟩ := hp6
  obtain ⟨y10, y11, y12, y13, h14, h15, h16, h17, h18⟩ := hr9
  have kx19 : F6 w w5 := F6.tr F6.rf kk8
  exact e_v X h hr hlk dX9_goBehind_13 ⟨ok7, kx19, ⟨_, _, _, _, h14, by omega, by omega, by omega, by omega⟩⟩

set_option maxHeartbeats 4000000 in
set_option maxRecDepth 100000 in
theorem c_M_spells (l : Launch) (G : va_G) (cI cB cZ cO : ClassId) (ad : Nat → Nat) (w : Nat → va_E) (x y : Int64) (mb bl ta tl tk va : Int32) (ok : OK cI cB cZ cO ad w) (n : Int32) (s0 : Int32) (s1 : Int32) (s2 : Int32) (s3 : Int32) (s4 : Int32) (s5 : Int32) (hl_n : 0 ≤ n.toInt) (hh_n : n.toInt ≤ 6) (pf : w 64 = .inr (7, [.ref (ad 65), .ref (ad 66), .ref (ad 67), .ref (ad 68), .long x, .long y, .ref (ad 69), .int mb, .ref (ad 70), .ref (ad 71), .int bl, .int ta, .int tl, .int tk, .int va, .ref (ad 72), .ref (ad 73)])) (hbl0 : 0 ≤ bl.toInt) (hbl1 : bl.toInt ≤ 150) (hta : 0 ≤ ta.toInt) (htl : 0 ≤ tl.toInt) (htb : ta.toInt + tl.toInt ≤ bl.toInt) : NI l G (tyq cI cB cZ cO) yX9_spells cX9_spells 10 (some .boolean) 0 0 74 ad w [.ref (ad 64), .int n, .int s0, .int s1, .int s2, .int s3, .int s4, .int s5] (fun r w1 => w = w1 ∧ ((tk.toInt = 1 ∧ tl.toInt = n.toInt ∧ r = 1) ∨ r = 0)) := by
  refine nk_i (own := "NoonShadeModel") rfl (by decide) (Nat.le_of_ble_eq_true rfl) ?_
  intro p e s m below meth c ls X hD hN hr hlk h hl
  have hx := X.1.1
  have hb := X.1.2.1
  have hown := X.1.2.2.2.1
  have hts := X.1.2.2.2.2
  have hl : lv_has ls 10 [(0, .ref (ad 64)), (1, .int n), (2, .int s0), (3, .int s1), (4, .int s2), (5, .int s3), (6, .int s4), (7, .int s5)] := hl
  have kq0 : (0 : Int32).toInt = 0 := rfl
  have kq1 : (1 : Int32).toInt = 1 := rfl
  have kq2 : (2 : Int32).toInt = 2 := rfl
  have kq3 : (3 : Int32).toInt = 3 := rfl
  have kq4 : (4 : Int32).toInt = 4 := rfl
  refine lv_aload_n hx hb dX9_spells_0 rfl (lv_at hl 0 rfl) ?_
  refine r_get kc9 X h 64 13 (by decide) rfl pf (by decide) kv_665 rfl dX9_spells_1 ?_
  refine lv_iconst (v := 1) hx hb dX9_spells_4 (by decide) ?_
  refine lv_icmp_ne (tgt := 20) hx hb dX9_spells_5 (by decide) (fun hc1 => ?_) (fun hc1 => ?_)
  · have hc1 : ¬ (tk).toInt = 1 := i_ne hc1 rfl rfl
    refine lv_iconst (v := 0) hx hb dX9_spells_20 (by decide) ?_
    refine lv_istore (lv' := [(8, .int 0), (0, .ref (ad 64)), (1, .int n), (2, .int s0), (3, .int s1), (4, .int s2), (5, .int s3), (6, .int s4), (7, .int s5)]) hx hb dX9_spells_21 hl (by decide) rfl (fun ls hl => ?_)
    refine lv_iconst (v := 0) hx hb dX9_spells_23 (by decide) ?_
    refine lv_istore (lv' := [(9, .int 0), (8, .int 0), (0, .ref (ad 64)), (1, .int n), (2, .int s0), (3, .int s1), (4, .int s2), (5, .int s3), (6, .int s4), (7, .int s5)]) hx hb dX9_spells_24 hl (by decide) rfl (fun ls hl => ?_)
    have hloop4 : ∀ (d5 : Nat) (L2 : Int32) (L3 : Int32) (H : Heap) (locs : List Loc) (ls : Array Slot), 0 ≤ L3.toInt → L3.toInt ≤ 1 → 0 ≤ L2.toInt → L2.toInt ≤ 6 → (L3.toInt = 0 ∨ (tl.toInt = n.toInt ∧ tk.toInt = 1)) → 6 - L2.toInt < (d5 : Int) → St G 74 ad (wA 74 ad s.heap.size) s.heap w H locs → lv_has ls 10 [(9, .int L2), (8, .int L3), (0, .ref (ad 64)), (1, .int n), (2, .int s0), (3, .int s1), (4, .int s2), (5, .int s3), (6, .int s4), (7, .int s5)] → W p l e { frames := 0, cells := 0, slots := 0, locals := 0 } s m [.ref (ad 64), .int n, .int s0, .int s1, .int s2, .int s3, .int s4, .int s5].toArray below meth c H locs 0 0 (MQ below (va_Qi (fun r w1 => w = w1 ∧ ((tk.toInt = 1 ∧ tl.toInt = n.toInt ∧ r = 1) ∨ r = 0)) (Aft G 74 ad) (wA 74 ad s.heap.size)) [.ref (ad 64), .int n, .int s0, .int s1, .int s2, .int s3, .int s4, .int s5].toArray s 0 0 (wA 74 ad s.heap.size)) (F0 m 26 ls []) := by
      intro d5
      induction d5 with
      | zero => intro L2 L3 H locs ls hi8 hi9 hi10 hi11 hi12 hm7 h hl; exfalso; omega
      | succ d5 ih6 =>
        intro L2 L3 H locs ls hi8 hi9 hi10 hi11 hi12 hm7 h hl
        refine lv_iload hx hb dX9_spells_26 (lv_at hl 0 rfl) ?_
        refine lv_iload_n hx hb dX9_spells_28 rfl (lv_at hl 3 rfl) ?_
        refine lv_icmp_ge (tgt := 119) hx hb dX9_spells_29 (by decide) (fun hc16 => ?_) (fun hc16 => ?_)
        · have hc16 : (n).toInt ≤ (L2).toInt := i_le hc16 rfl rfl
          refine lv_iload hx hb dX9_spells_119 (lv_at hl 1 rfl) ?_
          exact e_n X h hr hlk (nbool (by omega) (by omega)) dX9_spells_121 ⟨rfl, (spell1 (by omega) (by omega) (by omega) (by omega))⟩
        · have hc16 : ¬ (n).toInt ≤ (L2).toInt := i_nle hc16 rfl rfl
          refine lv_iload hx hb dX9_spells_32 (lv_at hl 1 rfl) ?_
          refine lv_if_eq (tgt := 119) hx hb dX9_spells_34 (by decide) (fun hc17 => ?_) (fun hc17 => ?_)
          · have hc17 : (L3).toInt = 0 := i_eq hc17 rfl rfl
            refine lv_iload hx hb dX9_spells_119 (lv_at hl 1 rfl) ?_
            exact e_n X h hr hlk (nbool (by omega) (by omega)) dX9_spells_121 ⟨rfl, (spell1 (by omega) (by omega) (by omega) (by omega))⟩
          · have hc17 : ¬ (L3).toInt = 0 := i_ne hc17 rfl rfl
            refine lv_aload_n hx hb dX9_spells_37 rfl (lv_at hl 2 rfl) ?_
            refine r_get kc9 X h 64 9 (by decide) rfl pf (by decide) kv_667 rfl dX9_spells_38 ?_
            refine lv_aload_n hx hb dX9_spells_41 rfl (lv_at hl 2 rfl) ?_
            refine r_get kc9 X h 64 11 (by decide) rfl pf (by decide) kv_663 rfl dX9_spells_42 ?_
            refine lv_iload hx hb dX9_spells_45 (lv_at hl 0 rfl) ?_
            obtain ⟨z20, e18, t19⟩ := x_add (x := ta) (y := L2) (a := (ta).toInt) (b := (L2).toInt) rfl rfl (by omega) (by omega)
            refine o_iadd (z := z20) hx hb dX9_spells_47 e18 ?_
            obtain ⟨g22, f21, p23⟩ := (show sA cI 150 (anyA) (w 71) from ok 71 (by decide))
            have f24 : w 71 = .inl (cI, 150, .inl g22) := f21
            obtain ⟨v25, e26⟩ : ∃ z : Int32, g22 (z20).toNatClampNeg = z := ⟨_, rfl⟩
            refine o_iald (v := v25) X h 71 0 (by decide) rfl f24 rfl (in_of (by omega) (by omega)) e26 dX9_spells_48 ?_
            refine lv_iload hx hb dX9_spells_49 (lv_at hl 0 rfl) ?_
            refine lv_if_ne (tgt := 58) hx hb dX9_spells_51 (by decide) (fun hc28 => ?_) (fun hc28 => ?_)
            · have hc28 : ¬ (L2).toInt = 0 := i_ne hc28 rfl rfl
              refine lv_iload hx hb dX9_spells_58 (lv_at hl 0 rfl) ?_
              refine lv_iconst (v := 1) hx hb dX9_spells_60 (by decide) ?_
              refine lv_icmp_ne (tgt := 68) hx hb dX9_spells_61 (by decide) (fun hc29 => ?_) (fun hc29 => ?_)
              · have hc29 : ¬ (L2).toInt = 1 := i_ne hc29 rfl rfl
                refine lv_iload hx hb dX9_spells_68 (lv_at hl 0 rfl) ?_
                refine lv_iconst (v := 2) hx hb dX9_spells_70 (by decide) ?_
                refine lv_icmp_ne (tgt := 79) hx hb dX9_spells_71 (by decide) (fun hc30 => ?_) (fun hc30 => ?_)
                · have hc30 : ¬ (L2).toInt = 2 := i_ne hc30 rfl rfl
                  refine lv_iload hx hb dX9_spells_79 (lv_at hl 0 rfl) ?_
                  refine lv_iconst (v := 3) hx hb dX9_spells_81 (by decide) ?_
                  refine lv_icmp_ne (tgt := 90) hx hb dX9_spells_82 (by decide) (fun hc31 => ?_) (fun hc31 => ?_)
                  · have hc31 : ¬ (L2).toInt = 3 := i_ne hc31 rfl rfl
                    refine lv_iload hx hb dX9_spells_90 (lv_at hl 0 rfl) ?_
                    refine lv_iconst (v := 4) hx hb dX9_spells_92 (by decide) ?_
                    refine lv_icmp_ne (tgt := 101) hx hb dX9_spells_93 (by decide) (fun hc32 => ?_) (fun hc32 => ?_)
                    · have hc32 : ¬ (L2).toInt = 4 := i_ne hc32 rfl rfl
                      refine lv_iload hx hb dX9_spells_101 (lv_at hl 9 rfl) ?_
                      refine lv_icmp_ne (tgt := 110) hx hb dX9_spells_103 (by decide) (fun hc33 => ?_) (fun hc33 => ?_)
                      · have hc33 : ¬ (v25).toInt = (s5).toInt := i_ne hc33 rfl rfl
                        refine lv_iconst (v := 0) hx hb dX9_spells_110 (by decide) ?_
                        refine lv_istore (lv' := [(8, .int 0), (9, .int L2), (0, .ref (ad 64)), (1, .int n), (2, .int s0), (3, .int s1), (4, .int s2), (5, .int s3), (6, .int s4), (7, .int s5)]) hx hb dX9_spells_111 hl (by decide) rfl (fun ls hl => ?_)
                        obtain ⟨z34, e35, t36⟩ := x_add (x := L2) (y := 1) (a := L2.toInt) (b := 1) rfl rfl (by omega) (by omega)
                        refine lv_iinc (v := z34) (lv' := [(9, .int z34), (8, .int 0), (0, .ref (ad 64)), (1, .int n), (2, .int s0), (3, .int s1), (4, .int s2), (5, .int s3), (6, .int s4), (7, .int s5)]) hx hb dX9_spells_113 hl (k := 1) rfl e35 (by decide) rfl (fun ls hl => ?_)
                        refine lv_goto (tgt := 26) hx hb dX9_spells_116 (by decide) ?_
                        exact ih6  z34 (0 : Int32)  _ _ _ (by have q0 : (0 : Int32).toInt = 0 := rfl; omega) (by have q0 : (0 : Int32).toInt = 0 := rfl; omega) (by have q0 : (0 : Int32).toInt = 0 := rfl; omega) (by have q0 : (0 : Int32).toInt = 0 := rfl; omega) (by have q0 : (0 : Int32).toInt = 0 := rfl; omega)  (by have q0 : (0 : Int32).toInt = 0 := rfl; omega) h (lv_sub hl [0, 1, 2, 3, 4, 5, 6, 7, 8, 9] rfl)
                      · have hc33 : (v25).toInt = (s5).toInt := i_eq hc33 rfl rfl
                        refine lv_iconst (v := 1) hx hb dX9_spells_106 (by decide) ?_
                        refine lv_goto (tgt := 111) hx hb dX9_spells_107 (by decide) ?_
                        refine lv_istore (lv' := [(8, .int 1), (9, .int L2), (0, .ref (ad 64)), (1, .int n), (2, .int s0), (3, .int s1), (4, .int s2), (5, .int s3), (6, .int s4), (7, .int s5)]) hx hb dX9_spells_111 hl (by decide) rfl (fun ls hl => ?_)
                        obtain ⟨z37, e38, t39⟩ := x_add (x := L2) (y := 1) (a := L2.toInt) (b := 1) rfl rfl (by omega) (by omega)
                        refine lv_iinc (v := z37) (lv' := [(9, .int z37), (8, .int 1), (0, .ref (ad 64)), (1, .int n), (2, .int s0), (3, .int s1), (4, .int s2), (5, .int s3), (6, .int s4), (7, .int s5)]) hx hb dX9_spells_113 hl (k := 1) rfl e38 (by decide) rfl (fun ls hl => ?_)
                        refine lv_goto (tgt := 26) hx hb dX9_spells_116 (by decide) ?_
                        exact ih6  z37 (1 : Int32)  _ _ _ (by have q0 : (1 : Int32).toInt = 1 := rfl; omega) (by have q0 : (1 : Int32).toInt = 1 := rfl; omega) (by have q0 : (1 : Int32).toInt = 1 := rfl; omega) (by have q0 : (1 : Int32).toInt = 1 := rfl; omega) (by have q0 : (1 : Int32).toInt = 1 := rfl; omega)  (by have q0 : (1 : Int32).toInt = 1 := rfl; omega) h (lv_sub hl [0, 1, 2, 3, 4, 5, 6, 7, 8, 9] rfl)
                    · have hc32 : (L2).toInt = 4 := i_eq hc32 rfl rfl
                      refine lv_iload hx hb dX9_spells_96 (lv_at hl 8 rfl) ?_
                      refine lv_goto (tgt := 103) hx hb dX9_spells_98 (by decide) ?_
                      refine lv_icmp_ne (tgt := 110) hx hb dX9_spells_103 (by decide) (fun hc40 => ?_) (fun hc40 => ?_)
                      · have hc40 : ¬ (v25).toInt = (s4).toInt := i_ne hc40 rfl rfl
                        refine lv_iconst (v := 0) hx hb dX9_spells_110 (by decide) ?_
                        refine lv_istore (lv' := [(8, .int 0), (9, .int L2), (0, .ref (ad 64)), (1, .int n), (2, .int s0), (3, .int s1), (4, .int s2), (5, .int s3), (6, .int s4), (7, .int s5)]) hx hb dX9_spells_111 hl (by decide) rfl (fun ls hl => ?_)
                        obtain ⟨z41, e42, t43⟩ := x_add (x := L2) (y := 1) (a := L2.toInt) (b := 1) rfl rfl (by omega) (by omega)
                        refine lv_iinc (v := z41) (lv' := [(9, .int z41), (8, .int 0), (0, .ref (ad 64)), (1, .int n), (2, .int s0), (3, .int s1), (4, .int s2), (5, .int s3), (6, .int s4), (7, .int s5)]) hx hb dX9_spells_113 hl (k := 1) rfl e42 (by decide) rfl (fun ls hl => ?_)
                        refine lv_goto (tgt := 26) hx hb dX9_spells_116 (by decide) ?_
                        exact ih6  z41 (0 : Int32)  _ _ _ (by have q0 : (0 : Int32).toInt = 0 := rfl; omega) (by have q0 : (0 : Int32).toInt = 0 := rfl; omega) (by have q0 : (0 : Int32).toInt = 0 := rfl; omega) (by have q0 : (0 : Int32).toInt = 0 := rfl; omega) (by have q0 : (0 : Int32).toInt = 0 := rfl; omega)  (by have q0 : (0 : Int32).toInt = 0 := rfl; omega) h (lv_sub hl [0, 1, 2, 3, 4, 5, 6, 7, 8, 9] rfl)
                      · have hc40 : (v25).toInt = (s4).toInt := i_eq hc40 rfl rfl
                        refine lv_iconst (v := 1) hx hb dX9_spells_106 (by decide) ?_
                        refine lv_goto (tgt := 111) hx hb dX9_spells_107 (by decide) ?_
                        refine lv_istore (lv' := [(8, .int 1), (9, .int L2), (0, .ref (ad 64)), (1, .int n), (2, .int s0), (3, .int s1), (4, .int s2), (5, .int s3), (6, .int s4), (7, .int s5)]) hx hb dX9_spells_111 hl (by decide) rfl (fun ls hl => ?_)
                        obtain ⟨z44, e45, t46⟩ := x_add (x := L2) (y := 1) (a := L2.toInt) (b := 1) rfl rfl (by omega) (by omega)
                        refine lv_iinc (v := z44) (lv' := [(9, .int z44), (8, .int 1), (0, .ref (ad 64)), (1, .int n), (2, .int s0), (3, .int s1), (4, .int s2), (5, .int s3), (6, .int s4), (7, .int s5)]) hx hb dX9_spells_113 hl (k := 1) rfl e45 (by decide) rfl (fun ls hl => ?_)
                        refine lv_goto (tgt := 26) hx hb dX9_spells_116 (by decide) ?_
                        exact ih6  z44 (1 : Int32)  _ _ _ (by have q0 : (1 : Int32).toInt = 1 := rfl; omega) (by have q0 : (1 : Int32).toInt = 1 := rfl; omega) (by have q0 : (1 : Int32).toInt = 1 := rfl; omega) (by have q0 : (1 : Int32).toInt = 1 := rfl; omega) (by have q0 : (1 : Int32).toInt = 1 := rfl; omega)  (by have q0 : (1 : Int32).toInt = 1 := rfl; omega) h (lv_sub hl [0, 1, 2, 3, 4, 5, 6, 7, 8, 9] rfl)
                  · have hc31 : (L2).toInt = 3 := i_eq hc31 rfl rfl
                    refine lv_iload hx hb dX9_spells_85 (lv_at hl 7 rfl) ?_
                    refine lv_goto (tgt := 103) hx hb dX9_spells_87 (by decide) ?_
                    refine lv_icmp_ne (tgt := 110) hx hb dX9_spells_103 (by decide) (fun hc47 => ?_) (fun hc47 => ?_)
                    · have hc47 : ¬ (v25).toInt = (s3).toInt := i_ne hc47 rfl rfl
                      refine lv_iconst (v := 0) hx hb dX9_spells_110 (by decide) ?_
                      refine lv_istore (lv' := [(8, .int 0), (9, .int L2), (0, .ref (ad 64)), (1, .int n), (2, .int s0), (3, .int s1), (4, .int s2), (5, .int s3), (6, .int s4), (7, .int s5)]) hx hb dX9_spells_111 hl (by decide) rfl (fun ls hl => ?_)
                      obtain ⟨z48, e49, t50⟩ := x_add (x := L2) (y := 1) (a := L2.toInt) (b := 1) rfl rfl (by omega) (by omega)
                      refine lv_iinc (v := z48) (lv' := [(9, .int z48), (8, .int 0), (0, .ref (ad 64)), (1, .int n), (2, .int s0), (3, .int s1), (4, .int s2), (5, .int s3), (6, .int s4), (7, .int s5)]) hx hb dX9_spells_113 hl (k := 1) rfl e49 (by decide) rfl (fun ls hl => ?_)
                      refine lv_goto (tgt := 26) hx hb dX9_spells_116 (by decide) ?_
                      exact ih6  z48 (0 : Int32)  _ _ _ (by have q0 : (0 : Int32).toInt = 0 := rfl; omega) (by have q0 : (0 : Int32).toInt = 0 := rfl; omega) (by have q0 : (0 : Int32).toInt = 0 := rfl; omega) (by have q0 : (0 : Int32).toInt = 0 := rfl; omega) (by have q0 : (0 : Int32).toInt = 0 := rfl; omega)  (by have q0 : (0 : Int32).toInt = 0 := rfl; omega) h (lv_sub hl [0, 1, 2, 3, 4, 5, 6, 7, 8, 9] rfl)
                    · have hc47 : (v25).toInt = (s3).toInt := i_eq hc47 rfl rfl
                      refine lv_iconst (v := 1) hx hb dX9_spells_106 (by decide) ?_
                      refine lv_goto (tgt := 111) hx hb dX9_spells_107 (by decide) ?_
                      refine lv_istore (lv' := [(8, .int 1), (9, .int L2), (0, .ref (ad 64)), (1, .int n), (2, .int s0), (3, .int s1), (4, .int s2), (5, .int s3), (6, .int s4), (7, .int s5)]) hx hb dX9_spells_111 hl (by decide) rfl (fun ls hl => ?_)
                      obtain ⟨z51, e52, t53⟩ := x_add (x := L2) (y := 1) (a := L2.toInt) (b := 1) rfl rfl (by omega) (by omega)
                      refine lv_iinc (v := z51) (lv' := [(9, .int z51), (8, .int 1), (0, .ref (ad 64)), (1, .int n), (2, .int s0), (3, .int s1), (4, .int s2), (5, .int s3), (6, .int s4), (7, .int s5)]) hx hb dX9_spells_113 hl (k := 1) rfl e52 (by decide) rfl (fun ls hl => ?_)
                      refine lv_goto (tgt := 26) hx hb dX9_spells_116 (by decide) ?_
                      exact ih6  z51 (1 : Int32)  _ _ _ (by have q0 : (1 : Int32).toInt = 1 := rfl; omega) (by have q0 : (1 : Int32).toInt = 1 := rfl; omega) (by have q0 : (1 : Int32).toInt = 1 := rfl; omega) (by have q0 : (1 : Int32).toInt = 1 := rfl; omega) (by have q0 : (1 : Int32).toInt = 1 := rfl; omega)  (by have q0 : (1 : Int32).toInt = 1 := rfl; omega) h (lv_sub hl [0, 1, 2, 3, 4, 5, 6, 7, 8, 9] rfl)
                · have hc30 : (L2).toInt = 2 := i_eq hc30 rfl rfl
                  refine lv_iload hx hb dX9_spells_74 (lv_at hl 6 rfl) ?_
                  refine lv_goto (tgt := 103) hx hb dX9_spells_76 (by decide) ?_
                  refine lv_icmp_ne (tgt := 110) hx hb dX9_spells_103 (by decide) (fun hc54 => ?_) (fun hc54 => ?_)
                  · have hc54 : ¬ (v25).toInt = (s2).toInt := i_ne hc54 rfl rfl
                    refine lv_iconst (v := 0) hx hb dX9_spells_110 (by decide) ?_
                    refine lv_istore (lv' := [(8, .int 0), (9, .int L2), (0, .ref (ad 64)), (1, .int n), (2, .int s0), (3, .int s1), (4, .int s2), (5, .int s3), (6, .int s4), (7, .int s5)]) hx hb dX9_spells_111 hl (by decide) rfl (fun ls hl => ?_)
                    obtain ⟨z55, e56, t57⟩ := x_add (x := L2) (y := 1) (a := L2.toInt) (b := 1) rfl rfl (by omega) (by omega)
                    refine lv_iinc (v := z55) (lv' := [(9, .int z55), (8, .int 0), (0, .ref (ad 64)), (1, .int n), (2, .int s0), (3, .int s1), (4, .int s2), (5, .int s3), (6, .int s4), (7, .int s5)]) hx hb dX9_spells_113 hl (k := 1) rfl e56 (by decide) rfl (fun ls hl => ?_)
                    refine lv_goto (tgt := 26) hx hb dX9_spells_116 (by decide) ?_
                    exact ih6  z55 (0 : Int32)  _ _ _ (by have q0 : (0 : Int32).toInt = 0 := rfl; omega) (by have q0 : (0 : Int32).toInt = 0 := rfl; omega) (by have q0 : (0 : Int32).toInt = 0 := rfl; omega) (by have q0 : (0 : Int32).toInt = 0 := rfl; omega) (by have q0 : (0 : Int32).toInt = 0 := rfl; omega)  (by have q0 : (0 : Int32).toInt = 0 := rfl; omega) h (lv_sub hl [0, 1, 2, 3, 4, 5, 6, 7, 8, 9] rfl)
                  · have hc54 : (v25).toInt = (s2).toInt := i_eq hc54 rfl rfl
                    refine lv_iconst (v := 1) hx hb dX9_spells_106 (by decide) ?_
                    refine lv_goto (tgt := 111) hx hb dX9_spells_107 (by decide) ?_
                    refine lv_istore (lv' := [(8, .int 1), (9, .int L2), (0, .ref (ad 64)), (1, .int n), (2, .int s0), (3, .int s1), (4, .int s2), (5, .int s3), (6, .int s4), (7, .int s5)]) hx hb dX9_spells_111 hl (by decide) rfl (fun ls hl => ?_)
                    obtain ⟨z58, e59, t60⟩ := x_add (x := L2) (y := 1) (a := L2.toInt) (b := 1) rfl rfl (by omega) (by omega)
                    refine lv_iinc (v := z58) (lv' := [(9, .int z58), (8, .int 1), (0, .ref (ad 64)), (1, .int n), (2, .int s0), (3, .int s1), (4, .int s2), (5, .int s3), (6, .int s4), (7, .int s5)]) hx hb dX9_spells_113 hl (k := 1) rfl e59 (by decide) rfl (fun ls hl => ?_)
                    refine lv_goto (tgt := 26) hx hb dX9_spells_116 (by decide) ?_
                    exact ih6  z58 (1 : Int32)  _ _ _ (by have q0 : (1 : Int32).toInt = 1 := rfl; omega) (by have q0 : (1 : Int32).toInt = 1 := rfl; omega) (by have q0 : (1 : Int32).toInt = 1 := rfl; omega) (by have q0 : (1 : Int32).toInt = 1 := rfl; omega) (by have q0 : (1 : Int32).toInt = 1 := rfl; omega)  (by have q0 : (1 : Int32).toInt = 1 := rfl; omega) h (lv_sub hl [0, 1, 2, 3, 4, 5, 6, 7, 8, 9] rfl)
              · have hc29 : (L2).toInt = 1 := i_eq hc29 rfl rfl
                refine lv_iload_n hx hb dX9_spells_64 rfl (lv_at hl 5 rfl) ?_
                refine lv_goto (tgt := 103) hx hb dX9_spells_65 (by decide) ?_
                refine lv_icmp_ne (tgt := 110) hx hb dX9_spells_103 (by decide) (fun hc61 => ?_) (fun hc61 => ?_)
                · have hc61 : ¬ (v25).toInt = (s1).toInt := i_ne hc61 rfl rfl
                  refine lv_iconst (v := 0) hx hb dX9_spells_110 (by decide) ?_
                  refine lv_istore (lv' := [(8, .int 0), (9, .int L2), (0, .ref (ad 64)), (1, .int n), (2, .int s0), (3, .int s1), (4, .int s2), (5, .int s3), (6, .int s4), (7, .int s5)]) hx hb dX9_spells_111 hl (by decide) rfl (fun ls hl => ?_)
                  obtain ⟨z62, e63, t64⟩ := x_add (x := L2) (y := 1) (a := L2.toInt) (b := 1) rfl rfl (by omega) (by omega)
                  refine lv_iinc (v := z62) (lv' := [(9, .int z62), (8, .int 0), (0, .ref (ad 64)), (1, .int n), (2, .int s0), (3, .int s1), (4, .int s2), (5, .int s3), (6, .int s4), (7, .int s5)]) hx hb dX9_spells_113 hl (k := 1) rfl e63 (by decide) rfl (fun ls hl => ?_)
                  refine lv_goto (tgt := 26) hx hb dX9_spells_116 (by decide) ?_
                  exact ih6  z62 (0 : Int32)  _ _ _ (by have q0 : (0 : Int32).toInt = 0 := rfl; omega) (by have q0 : (0 : Int32).toInt = 0 := rfl; omega) (by have q0 : (0 : Int32).toInt = 0 := rfl; omega) (by have q0 : (0 : Int32).toInt = 0 := rfl; omega) (by have q0 : (0 : Int32).toInt = 0 := rfl; omega)  (by have q0 : (0 : Int32).toInt = 0 := rfl; omega) h (lv_sub hl [0, 1, 2, 3, 4, 5, 6, 7, 8, 9] rfl)
                · have hc61 : (v25).toInt = (s1).toInt := i_eq hc61 rfl rfl
                  refine lv_iconst (v := 1) hx hb dX9_spells_106 (by decide) ?_
                  refine lv_goto (tgt := 111) hx hb dX9_spells_107 (by decide) ?_
                  refine lv_istore (lv' := [(8, .int 1), (9, .int L2), (0, .ref (ad 64)), (1, .int n), (2, .int s0), (3, .int s1), (4, .int s2), (5, .int s3), (6, .int s4), (7, .int s5)]) hx hb dX9_spells_111 hl (by decide) rfl (fun ls hl => ?_)
                  obtain ⟨z65, e66, t67⟩ := x_add (x := L2) (y := 1) (a := L2.toInt) (b := 1) rfl rfl (by omega) (by omega)
                  refine lv_iinc (v := z65) (lv' := [(9, .int z65), (8, .int 1), (0, .ref (ad 64)), (1, .int n), (2, .int s0), (3, .int s1), (4, .int s2), (5, .int s3), (6, .int s4), (7, .int s5)]) hx hb dX9_spells_113 hl (k := 1) rfl e66 (by decide) rfl (fun ls hl => ?_)
                  refine lv_goto (tgt := 26) hx hb dX9_spells_116 (by decide) ?_
                  exact ih6  z65 (1 : Int32)  _ _ _ (by have q0 : (1 : Int32).toInt = 1 := rfl; omega) (by have q0 : (1 : Int32).toInt = 1 := rfl; omega) (by have q0 : (1 : Int32).toInt = 1 := rfl; omega) (by have q0 : (1 : Int32).toInt = 1 := rfl; omega) (by have q0 : (1 : Int32).toInt = 1 := rfl; omega)  (by have q0 : (1 : Int32).toInt = 1 := rfl; omega) h (lv_sub hl [0, 1, 2, 3, 4, 5, 6, 7, 8, 9] rfl)
            · have hc28 : (L2).toInt = 0 := i_eq hc28 rfl rfl
              refine lv_iload_n hx hb dX9_spells_54 rfl (lv_at hl 4 rfl) ?_
              refine lv_goto (tgt := 103) hx hb dX9_spells_55 (by decide) ?_
              refine lv_icmp_ne (tgt := 110) hx hb dX9_spells_103 (by decide) (fun hc68 => ?_) (fun hc68 => ?_)
              · have hc68 : ¬ (v25).toInt = (s0).toInt := i_ne hc68 rfl rfl
                refine lv_iconst (v := 0) hx hb dX9_spells_110 (by decide) ?_
                refine lv_istore (lv' := [(8, .int 0), (9, .int L2), (0, .ref (ad 64)), (1, .int n), (2, .int s0), (3, .int s1), (4, .int s2), (5, .int s3), (6, .int s4), (7, .int s5)]) hx hb dX9_spells_111 hl (by decide) rfl (fun ls hl => ?_)
                obtain ⟨z69, e70, t71⟩ := x_add (x := L2) (y := 1) (a := L2.toInt) (b := 1) rfl rfl (by omega) (by omega)
                refine lv_iinc (v := z69) (lv' := [(9, .int z69), (8, .int 0), (0, .ref (ad 64)), (1, .int n), (2, .int s0), (3, .int s1), (4, .int s2), (5, .int s3), (6, .int s4), (7, .int s5)]) hx hb dX9_spells_113 hl (k := 1) rfl e70 (by decide) rfl (fun ls hl => ?_)
                refine lv_goto (tgt := 26) hx hb dX9_spells_116 (by decide) ?_
                exact ih6  z69 (0 : Int32)  _ _ _ (by have q0 : (0 : Int32).toInt = 0 := rfl; omega) (by have q0 : (0 : Int32).toInt = 0 := rfl; omega) (by have q0 : (0 : Int32).toInt = 0 := rfl; omega) (by have q0 : (0 : Int32).toInt = 0 := rfl; omega) (by have q0 : (0 : Int32).toInt = 0 := rfl; omega)  (by have q0 : (0 : Int32).toInt = 0 := rfl; omega) h (lv_sub hl [0, 1, 2, 3, 4, 5, 6, 7, 8, 9] rfl)
              · have hc68 : (v25).toInt = (s0).toInt := i_eq hc68 rfl rfl
                refine lv_iconst (v := 1) hx hb dX9_spells_106 (by decide) ?_
                refine lv_goto (tgt := 111) hx hb dX9_spells_107 (by decide) ?_
                refine lv_istore (lv' := [(8, .int 1), (9, .int L2), (0, .ref (ad 64)), (1, .int n), (2, .int s0), (3, .int s1), (4, .int s2), (5, .int s3), (6, .int s4), (7, .int s5)]) hx hb dX9_spells_111 hl (by decide) rfl (fun ls hl => ?_)
                obtain ⟨z72, e73, t74⟩ := x_add (x := L2) (y := 1) (a := L2.toInt) (b := 1) rfl rfl (by omega) (by omega)
                refine lv_iinc (v := z72) (lv' := [(9, .int z72), (8, .int 1), (0, .ref (ad 64)), (1, .int n), (2, .int s0), (3, .int s1), (4, .int s2), (5, .int s3), (6, .int s4), (7, .int s5)]) hx hb dX9_spells_113 hl (k := 1) rfl e73 (by decide) rfl (fun ls hl => ?_)
                refine lv_goto (tgt := 26) hx hb dX9_spells_116 (by decide) ?_
                exact ih6  z72 (1 : Int32)  _ _ _ (by have q0 : (1 : Int32).toInt = 1 := rfl; omega) (by have q0 : (1 : Int32).toInt = 1 := rfl; omega) (by have q0 : (1 : Int32).toInt = 1 := rfl; omega) (by have q0 : (1 : Int32).toInt = 1 := rfl; omega) (by have q0 : (1 : Int32).toInt = 1 := rfl; omega)  (by have q0 : (1 : Int32).toInt = 1 := rfl; omega) h (lv_sub hl [0, 1, 2, 3, 4, 5, 6, 7, 8, 9] rfl)
    exact hloop4 7 (0 : Int32) (0 : Int32)  _ _ _ (by have q0 : (0 : Int32).toInt = 0 := rfl; omega) (by have q0 : (0 : Int32).toInt = 0 := rfl; omega) (by have q0 : (0 : Int32).toInt = 0 := rfl; omega) (by have q0 : (0 : Int32).toInt = 0 := rfl; omega) (by have q0 : (0 : Int32).toInt = 0 := rfl; omega)  (by have q0 : (0 : Int32).toInt = 0 := rfl; omega) h (lv_sub hl [0, 1, 2, 3, 4, 5, 6, 7, 8, 9] rfl)
  · have hc1 : (tk).toInt = 1 := i_eq hc1 rfl rfl
    refine lv_aload_n hx hb dX9_spells_8 rfl (lv_at hl 0 rfl) ?_
    refine r_get kc9 X h 64 12 (by decide) rfl pf (by decide) kv_664 rfl dX9_spells_9 ?_
    refine lv_iload_n hx hb dX9_spells_12 rfl (lv_at hl 1 rfl) ?_
    refine lv_icmp_ne (tgt := 20) hx hb dX9_spells_13 (by decide) (fun hc75 => ?_) (fun hc75 => ?_)
    · have hc75 : ¬ (tl).toInt = (n).toInt := i_ne hc75 rfl rfl
      refine lv_iconst (v := 0) hx hb dX9_spells_20 (by decide) ?_
      refine lv_istore (lv' := [(8, .int 0), (0, .ref (ad 64)), (1, .int n), (2, .int s0), (3, .int s1), (4, .int s2), (5, .int s3), (6, .int s4), (7, .int s5)]) hx hb dX9_spells_21 hl (by decide) rfl (fun ls hl => ?_)
      refine lv_iconst (v := 0) hx hb dX9_spells_23 (by decide) ?_
      refine lv_istore (lv' := [(9, .int 0), (8, .int 0), (0, .ref (ad 64)), (1, .int n), (2, .int s0), (3, .int s1), (4, .int s2), (5, .int s3), (6, .int s4), (7, .int s5)]) hx hb dX9_spells_24 hl (by decide) rfl (fun ls hl => ?_)
      have hloop78 : ∀ (d79 : Nat) (L76 : Int32) (L77 : Int32) (H : Heap) (locs : List Loc) (ls : Array Slot), 0 ≤ L77.toInt → L77.toInt ≤ 1 → 0 ≤ L76.toInt → L76.toInt ≤ 6 → (L77.toInt = 0 ∨ (tl.toInt = n.toInt ∧ tk.toInt = 1)) → 6 - L76.toInt < (d79 : Int) → St G 74 ad (wA 74 ad s.heap.size) s.heap w H locs → lv_has ls 10 [(9, .int L76), (8, .int L77), (0, .ref (ad 64)), (1, .int n), (2, .int s0), (3, .int s1), (4, .int s2), (5, .int s3), (6, .int s4), (7, .int s5)] → W p l e { frames := 0, cells := 0, slots := 0, locals := 0 } s m [.ref (ad 64), .int n, .int s0, .int s1, .int s2, .int s3, .int s4, .int s5].toArray below meth c H locs 0 0 (MQ below (va_Qi (fun r w1 => w = w1 ∧ ((tk.toInt = 1 ∧ tl.toInt = n.toInt ∧ r = 1) ∨ r = 0)) (Aft G 74 ad) (wA 74 ad s.heap.size)) [.ref (ad 64), .int n, .int s0, .int s1, .int s2, .int s3, .int s4, .int s5].toArray s 0 0 (wA 74 ad s.heap.size)) (F0 m 26 ls []) := by
        intro d79
        induction d79 with
        | zero => intro L76 L77 H locs ls hi82 hi83 hi84 hi85 hi86 hm81 h hl; exfalso; omega
        | succ d79 ih80 =>
          intro L76 L77 H locs ls hi82 hi83 hi84 hi85 hi86 hm81 h hl
          refine lv_iload hx hb dX9_spells_26 (lv_at hl 0 rfl) ?_
          refine lv_iload_n hx hb dX9_spells_28 rfl (lv_at hl 3 rfl) ?_
          refine lv_icmp_ge (tgt := 119) hx hb dX9_spells_29 (by decide) (fun hc90 => ?_) (fun hc90 => ?_)
          · have hc90 : (n).toInt ≤ (L76).toInt := i_le hc90 rfl rfl
            refine lv_iload hx hb dX9_spells_119 (lv_at hl 1 rfl) ?_
            exact e_n X h hr hlk (nbool (by omega) (by omega)) dX9_spells_121 ⟨rfl, (spell1 (by omega) (by omega) (by omega) (by omega))⟩
          · have hc90 : ¬ (n).toInt ≤ (L76).toInt := i_nle hc90 rfl rfl
            refine lv_iload hx hb dX9_spells_32 (lv_at hl 1 rfl) ?_
            refine lv_if_eq (tgt := 119) hx hb dX9_spells_34 (by decide) (fun hc91 => ?_) (fun hc91 => ?_)
            · have hc91 : (L77).toInt = 0 := i_eq hc91 rfl rfl
              refine lv_iload hx hb dX9_spells_119 (lv_at hl 1 rfl) ?_
              exact e_n X h hr hlk (nbool (by omega) (by omega)) dX9_spells_121 ⟨rfl, (spell1 (by omega) (by omega) (by omega) (by omega))⟩
            · have hc91 : ¬ (L77).toInt = 0 := i_ne hc91 rfl rfl
              refine lv_aload_n hx hb dX9_spells_37 rfl (lv_at hl 2 rfl) ?_
              refine r_get kc9 X h 64 9 (by decide) rfl pf (by decide) kv_667 rfl dX9_spells_38 ?_
              refine lv_aload_n hx hb dX9_spells_41 rfl (lv_at hl 2 rfl) ?_
              refine r_get kc9 X h 64 11 (by decide) rfl pf (by decide) kv_663 rfl dX9_spells_42 ?_
              refine lv_iload hx hb dX9_spells_45 (lv_at hl 0 rfl) ?_
              obtain ⟨z94, e92, t93⟩ := x_add (x := ta) (y := L76) (a := (ta).toInt) (b := (L76).toInt) rfl rfl (by omega) (by omega)
              refine o_iadd (z := z94) hx hb dX9_spells_47 e92 ?_
              obtain ⟨g96, f95, p97⟩ := (show sA cI 150 (anyA) (w 71) from ok 71 (by decide))
              have f98 : w 71 = .inl (cI, 150, .inl g96) := f95
              obtain ⟨v99, e100⟩ : ∃ z : Int32, g96 (z94).toNatClampNeg = z := ⟨_, rfl⟩
              refine o_iald (v := v99) X h 71 0 (by decide) rfl f98 rfl (in_of (by omega) (by omega)) e100 dX9_spells_48 ?_
              refine lv_iload hx hb dX9_spells_49 (lv_at hl 0 rfl) ?_
              refine lv_if_ne (tgt := 58) hx hb dX9_spells_51 (by decide) (fun hc102 => ?_) (fun hc102 => ?_)
              · have hc102 : ¬ (L76).toInt = 0 := i_ne hc102 rfl rfl
                refine lv_iload hx hb dX9_spells_58 (lv_at hl 0 rfl) ?_
                refine lv_iconst (v := 1) hx hb dX9_spells_60 (by decide) ?_
                refine lv_icmp_ne (tgt := 68) hx hb dX9_spells_61 (by decide) (fun hc103 => ?_) (fun hc103 => ?_)
                · have hc103 : ¬ (L76).toInt = 1 := i_ne hc103 rfl rfl
                  refine lv_iload hx hb dX9_spells_68 (lv_at hl 0 rfl) ?_
                  refine lv_iconst (v := 2) hx hb dX9_spells_70 (by decide) ?_
                  refine lv_icmp_ne (tgt := 79) hx hb dX9_spells_71 (by decide) (fun hc104 => ?_) (fun hc104 => ?_)
                  · have hc104 : ¬ (L76).toInt = 2 := i_ne hc104 rfl rfl
                    refine lv_iload hx hb dX9_spells_79 (lv_at hl 0 rfl) ?_
                    refine lv_iconst (v := 3) hx hb dX9_spells_81 (by decide) ?_
                    refine lv_icmp_ne (tgt := 90) hx hb dX9_spells_82 (by decide) (fun hc105 => ?_) (fun hc105 => ?_)
                    · have hc105 : ¬ (L76).toInt = 3 := i_ne hc105 rfl rfl
                      refine lv_iload hx hb dX9_spells_90 (lv_at hl 0 rfl) ?_
                      refine lv_iconst (v := 4) hx hb dX9_spells_92 (by decide) ?_
                      refine lv_icmp_ne (tgt := 101) hx hb dX9_spells_93 (by decide) (fun hc106 => ?_) (fun hc106 => ?_)
                      · have hc106 : ¬ (L76).toInt = 4 := i_ne hc106 rfl rfl
                        refine lv_iload hx hb dX9_spells_101 (lv_at hl 9 rfl) ?_
                        refine lv_icmp_ne (tgt := 110) hx hb dX9_spells_103 (by decide) (fun hc107 => ?_) (fun hc107 => ?_)
                        · have hc107 : ¬ (v99).toInt = (s5).toInt := i_ne hc107 rfl rfl
                          refine lv_iconst (v := 0) hx hb dX9_spells_110 (by decide) ?_
                          refine lv_istore (lv' := [(8, .int 0), (9, .int L76), (0, .ref (ad 64)), (1, .int n), (2, .int s0), (3, .int s1), (4, .int s2), (5, .int s3), (6, .int s4), (7, .int s5)]) hx hb dX9_spells_111 hl (by decide) rfl (fun ls hl => ?_)
                          obtain ⟨z108, e109, t110⟩ := x_add (x := L76) (y := 1) (a := L76.toInt) (b := 1) rfl rfl (by omega) (by omega)
                          refine lv_iinc (v := z108) (lv' := [(9, .int z108), (8, .int 0), (0, .ref (ad 64)), (1, .int n), (2, .int s0), (3, .int s1), (4, .int s2), (5, .int s3), (6, .int s4), (7, .int s5)]) hx hb dX9_spells_113 hl (k := 1) rfl e109 (by decide) rfl (fun ls hl => ?_)
                          refine lv_goto (tgt := 26) hx hb dX9_spells_116 (by decide) ?_
                          exact ih80  z108 (0 : Int32)  _ _ _ (by have q0 : (0 : Int32).toInt = 0 := rfl; omega) (by have q0 : (0 : Int32).toInt = 0 := rfl; omega) (by have q0 : (0 : Int32).toInt = 0 := rfl; omega) (by have q0 : (0 : Int32).toInt = 0 := rfl; omega) (by have q0 : (0 : Int32).toInt = 0 := rfl; omega)  (by have q0 : (0 : Int32).toInt = 0 := rfl; omega) h (lv_sub hl [0, 1, 2, 3, 4, 5, 6, 7, 8, 9] rfl)
                        · have hc107 : (v99).toInt = (s5).toInt := i_eq hc107 rfl rfl
                          refine lv_iconst (v := 1) hx hb dX9_spells_106 (by decide) ?_
                          refine lv_goto (tgt := 111) hx hb dX9_spells_107 (by decide) ?_
                          refine lv_istore (lv' := [(8, .int 1), (9, .int L76), (0, .ref (ad 64)), (1, .int n), (2, .int s0), (3, .int s1), (4, .int s2), (5, .int s3), (6, .int s4), (7, .int s5)]) hx hb dX9_spells_111 hl (by decide) rfl (fun ls hl => ?_)
                          obtain ⟨z111, e112, t113⟩ := x_add (x := L76) (y := 1) (a := L76.toInt) (b := 1) rfl rfl (by omega) (by omega)
                          refine lv_iinc (v := z111) (lv' := [(9, .int z111), (8, .int 1), (0, .ref (ad 64)), (1, .int n), (2, .int s0), (3, .int s1), (4, .int s2), (5, .int s3), (6, .int s4), (7, .int s5)]) hx hb dX9_spells_113 hl (k := 1) rfl e112 (by decide) rfl (fun ls hl => ?_)
                          refine lv_goto (tgt := 26) hx hb dX9_spells_116 (by decide) ?_
                          exact ih80  z111 (1 : Int32)  _ _ _ (by have q0 : (1 : Int32).toInt = 1 := rfl; omega) (by have q0 : (1 : Int32).toInt = 1 := rfl; omega) (by have q0 : (1 : Int32).toInt = 1 := rfl; omega) (by have q0 : (1 : Int32).toInt = 1 := rfl; omega) (by have q0 : (1 : Int32).toInt = 1 := rfl; omega)  (by have q0 : (1 : Int32).toInt = 1 := rfl; omega) h (lv_sub hl [0, 1, 2, 3, 4, 5, 6, 7, 8, 9] rfl)
                      · have hc106 : (L76).toInt = 4 := i_eq hc106 rfl rfl
                        refine lv_iload hx hb dX9_spells_96 (lv_at hl 8 rfl) ?_
                        refine lv_goto (tgt := 103) hx hb dX9_spells_98 (by decide) ?_
                        refine lv_icmp_ne (tgt := 110) hx hb dX9_spells_103 (by decide) (fun hc114 => ?_) (fun hc114 => ?_)
                        · have hc114 : ¬ (v99).toInt = (s4).toInt := i_ne hc114 rfl rfl
                          refine lv_iconst (v := 0) hx hb dX9_spells_110 (by decide) ?_
                          refine lv_istore (lv' := [(8, .int 0), (9, .int L76), (0, .ref (ad 64)), (1, .int n), (2, .int s0), (3, .int s1), (4, .int s2), (5, .int s3), (6, .int s4), (7, .int s5)]) hx hb dX9_spells_111 hl (by decide) rfl (fun ls hl => ?_)
                          obtain ⟨z115, e116, t117⟩ := x_add (x := L76) (y := 1) (a := L76.toInt) (b := 1) rfl rfl (by omega) (by omega)
                          refine lv_iinc (v := z115) (lv' := [(9, .int z115), (8, .int 0), (0, .ref (ad 64)), (1, .int n), (2, .int s0), (3, .int s1), (4, .int s2), (5, .int s3), (6, .int s4), (7, .int s5)]) hx hb dX9_spells_113 hl (k := 1) rfl e116 (by decide) rfl (fun ls hl => ?_)
                          refine lv_goto (tgt := 26) hx hb dX9_spells_116 (by decide) ?_
                          exact ih80  z115 (0 : Int32)  _ _ _ (by have q0 : (0 : Int32).toInt = 0 := rfl; omega) (by have q0 : (0 : Int32).toInt = 0 := rfl; omega) (by have q0 : (0 : Int32).toInt = 0 := rfl; omega) (by have q0 : (0 : Int32).toInt = 0 := rfl; omega) (by have q0 : (0 : Int32).toInt = 0 := rfl; omega)  (by have q0 : (0 : Int32).toInt = 0 := rfl; omega) h (lv_sub hl [0, 1, 2, 3, 4, 5, 6, 7, 8, 9] rfl)
                        · have hc114 : (v99).toInt = (s4).toInt := i_eq hc114 rfl rfl
                          refine lv_iconst (v := 1) hx hb dX9_spells_106 (by decide) ?_
                          refine lv_goto (tgt := 111) hx hb dX9_spells_107 (by decide) ?_
                          refine lv_istore (lv' := [(8, .int 1), (9, .int L76), (0, .ref (ad 64)), (1, .int n), (2, .int s0), (3, .int s1), (4, .int s2), (5, .int s3), (6, .int s4), (7, .int s5)]) hx hb dX9_spells_111 hl (by decide) rfl (fun ls hl => ?_)
                          obtain ⟨z118, e119, t120⟩ := x_add (x := L76) (y := 1) (a := L76.toInt) (b := 1) rfl rfl (by omega) (by omega)
                          refine lv_iinc (v := z118) (lv' := [(9, .int z118), (8, .int 1), (0, .ref (ad 64)), (1, .int n), (2, .int s0), (3, .int s1), (4, .int s2), (5, .int s3), (6, .int s4), (7, .int s5)]) hx hb dX9_spells_113 hl (k := 1) rfl e119 (by decide) rfl (fun ls hl => ?_)
                          refine lv_goto (tgt := 26) hx hb dX9_spells_116 (by decide) ?_
                          exact ih80  z118 (1 : Int32)  _ _ _ (by have q0 : (1 : Int32).toInt = 1 := rfl; omega) (by have q0 : (1 : Int32).toInt = 1 := rfl; omega) (by have q0 : (1 : Int32).toInt = 1 := rfl; omega) (by have q0 : (1 : Int32).toInt = 1 := rfl; omega) (by have q0 : (1 : Int32).toInt = 1 := rfl; omega)  (by have q0 : (1 : Int32).toInt = 1 := rfl; omega) h (lv_sub hl [0, 1, 2, 3, 4, 5, 6, 7, 8, 9] rfl)
                    · have hc105 : (L76).toInt = 3 := i_eq hc105 rfl rfl
                      refine lv_iload hx hb dX9_spells_85 (lv_at hl 7 rfl) ?_
                      refine lv_goto (tgt := 103) hx hb dX9_spells_87 (by decide) ?_
                      refine lv_icmp_ne (tgt := 110) hx hb dX9_spells_103 (by decide) (fun hc121 => ?_) (fun hc121 => ?_)
                      · have hc121 : ¬ (v99).toInt = (s3).toInt := i_ne hc121 rfl rfl
                        refine lv_iconst (v := 0) hx hb dX9_spells_110 (by decide) ?_
                        refine lv_istore (lv' := [(8, .int 0), (9, .int L76), (0, .ref (ad 64)), (1, .int n), (2, .int s0), (3, .int s1), (4, .int s2), (5, .int s3), (6, .int s4), (7, .int s5)]) hx hb dX9_spells_111 hl (by decide) rfl (fun ls hl => ?_)
                        obtain ⟨z122, e123, t124⟩ := x_add (x := L76) (y := 1) (a := L76.toInt) (b := 1) rfl rfl (by omega) (by omega)
                        refine lv_iinc (v := z122) (lv' := [(9, .int z122), (8, .int 0), (0, .ref (ad 64)), (1, .int n), (2, .int s0), (3, .int s1), (4, .int s2), (5, .int s3), (6, .int s4), (7, .int s5)]) hx hb dX9_spells_113 hl (k := 1) rfl e123 (by decide) rfl (fun ls hl => ?_)
                        refine lv_goto (tgt := 26) hx hb dX9_spells_116 (by decide) ?_
                        exact ih80  z122 (0 : Int32)  _ _ _ (by have q0 : (0 : Int32).toInt = 0 := rfl; omega) (by have q0 : (0 : Int32).toInt = 0 := rfl; omega) (by have q0 : (0 : Int32).toInt = 0 := rfl; omega) (by have q0 : (0 : Int32).toInt = 0 := rfl; omega) (by have q0 : (0 : Int32).toInt = 0 := rfl; omega)  (by have q0 : (0 : Int32).toInt = 0 := rfl; omega) h (lv_sub hl [0, 1, 2, 3, 4, 5, 6, 7, 8, 9] rfl)
                      · have hc121 : (v99).toInt = (s3).toInt := i_eq hc121 rfl rfl
                        refine lv_iconst (v := 1) hx hb dX9_spells_106 (by decide) ?_
                        refine lv_goto (tgt := 111) hx hb dX9_spells_107 (by decide) ?_
                        refine lv_istore (lv' := [(8, .int 1), (9, .int L76), (0, .ref (ad 64)), (1, .int n), (2, .int s0), (3, .int s1), (4, .int s2), (5, .int s3), (6, .int s4), (7, .int s5)]) hx hb dX9_spells_111 hl (by decide) rfl (fun ls hl => ?_)
                        obtain ⟨z125, e126, t127⟩ := x_add (x := L76) (y := 1) (a := L76.toInt) (b := 1) rfl rfl (by omega) (by omega)
                        refine lv_iinc (v := z125) (lv' := [(9, .int z125), (8, .int 1), (0, .ref (ad 64)), (1, .int n), (2, .int s0), (3, .int s1), (4, .int s2), (5, .int s3), (6, .int s4), (7, .int s5)]) hx hb dX9_spells_113 hl (k := 1) rfl e126 (by decide) rfl (fun ls hl => ?_)
                        refine lv_goto (tgt := 26) hx hb dX9_spells_116 (by decide) ?_
                        exact ih80  z125 (1 : Int32)  _ _ _ (by have q0 : (1 : Int32).toInt = 1 := rfl; omega) (by have q0 : (1 : Int32).toInt = 1 := rfl; omega) (by have q0 : (1 : Int32).toInt = 1 := rfl; omega) (by have q0 : (1 : Int32).toInt = 1 := rfl; omega) (by have q0 : (1 : Int32).toInt = 1 := rfl; omega)  (by have q0 : (1 : Int32).toInt = 1 := rfl; omega) h (lv_sub hl [0, 1, 2, 3, 4, 5, 6, 7, 8, 9] rfl)
                  · have hc104 : (L76).toInt = 2 := i_eq hc104 rfl rfl
                    refine lv_iload hx hb dX9_spells_74 (lv_at hl 6 rfl) ?_
                    refine lv_goto (tgt := 103) hx hb dX9_spells_76 (by decide) ?_
                    refine lv_icmp_ne (tgt := 110) hx hb dX9_spells_103 (by decide) (fun hc128 => ?_) (fun hc128 => ?_)
                    · have hc128 : ¬ (v99).toInt = (s2).toInt := i_ne hc128 rfl rfl
                      refine lv_iconst (v := 0) hx hb dX9_spells_110 (by decide) ?_
                      refine lv_istore (lv' := [(8, .int 0), (9, .int L76), (0, .ref (ad 64)), (1, .int n), (2, .int s0), (3, .int s1), (4, .int s2), (5, .int s3), (6, .int s4), (7, .int s5)]) hx hb dX9_spells_111 hl (by decide) rfl (fun ls hl => ?_)
                      obtain ⟨z129, e130, t131⟩ := x_add (x := L76) (y := 1) (a := L76.toInt) (b := 1) rfl rfl (by omega) (by omega)
                      refine lv_iinc (v := z129) (lv' := [(9, .int z129), (8, .int 0), (0, .ref (ad 64)), (1, .int n), (2, .int s0), (3, .int s1), (4, .int s2), (5, .int s3), (6, .int s4), (7, .int s5)]) hx hb dX9_spells_113 hl (k := 1) rfl e130 (by decide) rfl (fun ls hl => ?_)
                      refine lv_goto (tgt := 26) hx hb dX9_spells_116 (by decide) ?_
                      exact ih80  z129 (0 : Int32)  _ _ _ (by have q0 : (0 : Int32).toInt = 0 := rfl; omega) (by have q0 : (0 : Int32).toInt = 0 := rfl; omega) (by have q0 : (0 : Int32).toInt = 0 := rfl; omega) (by have q0 : (0 : Int32).toInt = 0 := rfl; omega) (by have q0 : (0 : Int32).toInt = 0 := rfl; omega)  (by have q0 : (0 : Int32).toInt = 0 := rfl; omega) h (lv_sub hl [0, 1, 2, 3, 4, 5, 6, 7, 8, 9] rfl)
                    · have hc128 : (v99).toInt = (s2).toInt := i_eq hc128 rfl rfl
                      refine lv_iconst (v := 1) hx hb dX9_spells_106 (by decide) ?_
                      refine lv_goto (tgt := 111) hx hb dX9_spells_107 (by decide) ?_
                      refine lv_istore (lv' := [(8, .int 1), (9, .int L76), (0, .ref (ad 64)), (1, .int n), (2, .int s0), (3, .int s1), (4, .int s2), (5, .int s3), (6, .int s4), (7, .int s5)]) hx hb dX9_spells_111 hl (by decide) rfl (fun ls hl => ?_)
                      obtain ⟨z132, e133, t134⟩ := x_add (x := L76) (y := 1) (a := L76.toInt) (b := 1) rfl rfl (by omega) (by omega)
                      refine lv_iinc (v := z132) (lv' := [(9, .int z132), (8, .int 1), (0, .ref (ad 64)), (1, .int n), (2, .int s0), (3, .int s1), (4, .int s2), (5, .int s3), (6, .int s4), (7, .int s5)]) hx hb dX9_spells_113 hl (k := 1) rfl e133 (by decide) rfl (fun ls hl => ?_)
                      refine lv_goto (tgt := 26) hx hb dX9_spells_116 (by decide) ?_
                      exact ih80  z132 (1 : Int32)  _ _ _ (by have q0 : (1 : Int32).toInt = 1 := rfl; omega) (by have q0 : (1 : Int32).toInt = 1 := rfl; omega) (by have q0 : (1 : Int32).toInt = 1 := rfl; omega) (by have q0 : (1 : Int32).toInt = 1 := rfl; omega) (by have q0 : (1 : Int32).toInt = 1 := rfl; omega)  (by have q0 : (1 : Int32).toInt = 1 := rfl; omega) h (lv_sub hl [0, 1, 2, 3, 4, 5, 6, 7, 8, 9] rfl)
                · have hc103 : (L76).toInt = 1 := i_eq hc103 rfl rfl
                  refine lv_iload_n hx hb dX9_spells_64 rfl (lv_at hl 5 rfl) ?_
                  refine lv_goto (tgt := 103) hx hb dX9_spells_65 (by decide) ?_
                  refine lv_icmp_ne (tgt := 110) hx hb dX9_spells_103 (by decide) (fun hc135 => ?_) (fun hc135 => ?_)
                  · have hc135 : ¬ (v99).toInt = (s1).toInt := i_ne hc135 rfl rfl
                    refine lv_iconst (v := 0) hx hb dX9_spells_110 (by decide) ?_
                    refine lv_istore (lv' := [(8, .int 0), (9, .int L76), (0, .ref (ad 64)), (1, .int n), (2, .int s0), (3, .int s1), (4, .int s2), (5, .int s3), (6, .int s4), (7, .int s5)]) hx hb dX9_spells_111 hl (by decide) rfl (fun ls hl => ?_)
                    obtain ⟨z136, e137, t138⟩ := x_add (x := L76) (y := 1) (a := L76.toInt) (b := 1) rfl rfl (by omega) (by omega)
                    refine lv_iinc (v := z136) (lv' := [(9, .int z136), (8, .int 0), (0, .ref (ad 64)), (1, .int n), (2, .int s0), (3, .int s1), (4, .int s2), (5, .int s3), (6, .int s4), (7, .int s5)]) hx hb dX9_spells_113 hl (k := 1) rfl e137 (by decide) rfl (fun ls hl => ?_)
                    refine lv_goto (tgt := 26) hx hb dX9_spells_116 (by decide) ?_
                    exact ih80  z136 (0 : Int32)  _ _ _ (by have q0 : (0 : Int32).toInt = 0 := rfl; omega) (by have q0 : (0 : Int32).toInt = 0 := rfl; omega) (by have q0 : (0 : Int32).toInt = 0 := rfl; omega) (by have q0 : (0 : Int32).toInt = 0 := rfl; omega) (by have q0 : (0 : Int32).toInt = 0 := rfl; omega)  (by have q0 : (0 : Int32).toInt = 0 := rfl; omega) h (lv_sub hl [0, 1, 2, 3, 4, 5, 6, 7, 8, 9] rfl)
                  · have hc135 : (v99).toInt = (s1).toInt := i_eq hc135 rfl rfl
                    refine lv_iconst (v := 1) hx hb dX9_spells_106 (by decide) ?_
                    refine lv_goto (tgt := 111) hx hb dX9_spells_107 (by decide) ?_
                    refine lv_istore (lv' := [(8, .int 1), (9, .int L76), (0, .ref (ad 64)), (1, .int n), (2, .int s0), (3, .int s1), (4, .int s2), (5, .int s3), (6, .int s4), (7, .int s5)]) hx hb dX9_spells_111 hl (by decide) rfl (fun ls hl => ?_)
                    obtain ⟨z139, e140, t141⟩ := x_add (x := L76) (y := 1) (a := L76.toInt) (b := 1) rfl rfl (by omega) (by omega)
                    refine lv_iinc (v := z139) (lv' := [(9, .int z139), (8, .int 1), (0, .ref (ad 64)), (1, .int n), (2, .int s0), (3, .int s1), (4, .int s2), (5, .int s3), (6, .int s4), (7, .int s5)]) hx hb dX9_spells_113 hl (k := 1) rfl e140 (by decide) rfl (fun ls hl => ?_)
                    refine lv_goto (tgt := 26) hx hb dX9_spells_116 (by decide) ?_
                    exact ih80  z139 (1 : Int32)  _ _ _ (by have q0 : (1 : Int32).toInt = 1 := rfl; omega) (by have q0 : (1 : Int32).toInt = 1 := rfl; omega) (by have q0 : (1 : Int32).toInt = 1 := rfl; omega) (by have q0 : (1 : Int32).toInt = 1 := rfl; omega) (by have q0 : (1 : Int32).toInt = 1 := rfl; omega)  (by have q0 : (1 : Int32).toInt = 1 := rfl; omega) h (lv_sub hl [0, 1, 2, 3, 4, 5, 6, 7, 8, 9] rfl)
              · have hc102 : (L76).toInt = 0 := i_eq hc102 rfl rfl
                refine lv_iload_n hx hb dX9_spells_54 rfl (lv_at hl 4 rfl) ?_
                refine lv_goto (tgt := 103) hx hb dX9_spells_55 (by decide) ?_
                refine lv_icmp_ne (tgt := 110) hx hb dX9_spells_103 (by decide) (fun hc142 => ?_) (fun hc142 => ?_)
                · have hc142 : ¬ (v99).toInt = (s0).toInt := i_ne hc142 rfl rfl
                  refine lv_iconst (v := 0) hx hb dX9_spells_110 (by decide) ?_
                  refine lv_istore (lv' := [(8, .int 0), (9, .int L76), (0, .ref (ad 64)), (1, .int n), (2, .int s0), (3, .int s1), (4, .int s2), (5, .int s3), (6, .int s4), (7, .int s5)]) hx hb dX9_spells_111 hl (by decide) rfl (fun ls hl => ?_)
                  obtain ⟨z143, e144, t145⟩ := x_add (x := L76) (y := 1) (a := L76.toInt) (b := 1) rfl rfl (by omega) (by omega)
                  refine lv_iinc (v := z143) (lv' := [(9, .int z143), (8, .int 0), (0, .ref (ad 64)), (1, .int n), (2, .int s0), (3, .int s1), (4, .int s2), (5, .int s3), (6, .int s4), (7, .int s5)]) hx hb dX9_spells_113 hl (k := 1) rfl e144 (by decide) rfl (fun ls hl => ?_)
                  refine lv_goto (tgt := 26) hx hb dX9_spells_116 (by decide) ?_
                  exact ih80  z143 (0 : Int32)  _ _ _ (by have q0 : (0 : Int32).toInt = 0 := rfl; omega) (by have q0 : (0 : Int32).toInt = 0 := rfl; omega) (by have q0 : (0 : Int32).toInt = 0 := rfl; omega) (by have q0 : (0 : Int32).toInt = 0 := rfl; omega) (by have q0 : (0 : Int32).toInt = 0 := rfl; omega)  (by have q0 : (0 : Int32).toInt = 0 := rfl; omega) h (lv_sub hl [0, 1, 2, 3, 4, 5, 6, 7, 8, 9] rfl)
                · have hc142 : (v99).toInt = (s0).toInt := i_eq hc142 rfl rfl
                  refine lv_iconst (v := 1) hx hb dX9_spells_106 (by decide) ?_
                  refine lv_goto (tgt := 111) hx hb dX9_spells_107 (by decide) ?_
                  refine lv_istore (lv' := [(8, .int 1), (9, .int L76), (0, .ref (ad 64)), (1, .int n), (2, .int s0), (3, .int s1), (4, .int s2), (5, .int s3), (6, .int s4), (7, .int s5)]) hx hb dX9_spells_111 hl (by decide) rfl (fun ls hl => ?_)
                  obtain ⟨z146, e147, t148⟩ := x_add (x := L76) (y := 1) (a := L76.toInt) (b := 1) rfl rfl (by omega) (by omega)
                  refine lv_iinc (v := z146) (lv' := [(9, .int z146), (8, .int 1), (0, .ref (ad 64)), (1, .int n), (2, .int s0), (3, .int s1), (4, .int s2), (5, .int s3), (6, .int s4), (7, .int s5)]) hx hb dX9_spells_113 hl (k := 1) rfl e147 (by decide) rfl (fun ls hl => ?_)
                  refine lv_goto (tgt := 26) hx hb dX9_spells_116 (by decide) ?_
                  exact ih80  z146 (1 : Int32)  _ _ _ (by have q0 : (1 : Int32).toInt = 1 := rfl; omega) (by have q0 : (1 : Int32).toInt = 1 := rfl; omega) (by have q0 : (1 : Int32).toInt = 1 := rfl; omega) (by have q0 : (1 : Int32).toInt = 1 := rfl; omega) (by have q0 : (1 : Int32).toInt = 1 := rfl; omega)  (by have q0 : (1 : Int32).toInt = 1 := rfl; omega) h (lv_sub hl [0, 1, 2, 3, 4, 5, 6, 7, 8, 9] rfl)
      exact hloop78 7 (0 : Int32) (0 : Int32)  _ _ _ (by have q0 : (0 : Int32).toInt = 0 := rfl; omega) (by have q0 : (0 : Int32).toInt = 0 := rfl; omega) (by have q0 : (0 : Int32).toInt = 0 := rfl; omega) (by have q0 : (0 : Int32).toInt = 0 := rfl; omega) (by have q0 : (0 : Int32).toInt = 0 := rfl; omega)  (by have q0 : (0 : Int32).toInt = 0 := rfl; omega) h (lv_sub hl [0, 1, 2, 3, 4, 5, 6, 7, 8, 9] rfl)
    · have hc75 : (tl).toInt = (n).toInt := i_eq hc75 rfl rfl
      refine lv_iconst (v := 1) hx hb dX9_spells_16 (by decide) ?_
      refine lv_goto (tgt := 21) hx hb dX9_spells_17 (by decide) ?_
      refine lv_istore (lv' := [(8, .int 1), (0, .ref (ad 64)), (1, .int n), (2, .int s0), (3, .int s1), (4, .int s2), (5, .int s3), (6, .int s4), (7, .int s5)]) hx hb dX9_spells_21 hl (by decide) rfl (fun ls hl => ?_)
      refine lv_iconst (v := 0) hx hb dX9_spells_23 (by decide) ?_
      refine lv_istore (lv' := [(9, .int 0), (8, .int 1), (0, .ref (ad 64)), (1, .int n), (2, .int s0), (3, .int s1), (4, .int s2), (5, .int s3), (6, .int s4), (7, .int s5)]) hx hb dX9_spells_24 hl (by decide) rfl (fun ls hl => ?_)
      have hloop151 : ∀ (d152 : Nat) (L149 : Int32) (L150 : Int32) (H : Heap) (locs : List Loc) (ls : Array Slot), 0 ≤ L150.toInt → L150.toInt ≤ 1 → 0 ≤ L149.toInt → L149.toInt ≤ 6 → (L150.toInt = 0 ∨ (tl.toInt = n.toInt ∧ tk.toInt = 1)) → 6 - L149.toInt < (d152 : Int) → St G 74 ad (wA 74 ad s.heap.size) s.heap w H locs → lv_has ls 10 [(9, .int L149), (8, .int L150), (0, .ref (ad 64)), (1, .int n), (2, .int s0), (3, .int s1), (4, .int s2), (5, .int s3), (6, .int s4), (7, .int s5)] → W p l e { frames := 0, cells := 0, slots := 0, locals := 0 } s m [.ref (ad 64), .int n, .int s0, .int s1, .int s2, .int s3, .int s4, .int s5].toArray below meth c H locs 0 0 (MQ below (va_Qi (fun r w1 => w = w1 ∧ ((tk.toInt = 1 ∧ tl.toInt = n.toInt ∧ r = 1) ∨ r = 0)) (Aft G 74 ad) (wA 74 ad s.heap.size)) [.ref (ad 64), .int n, .int s0, .int s1, .int s2, .int s3, .int s4, .int s5].toArray s 0 0 (wA 74 ad s.heap.size)) (F0 m 26 ls []) := by
        intro d152
        induction d152 with
        | zero => intro L149 L150 H locs ls hi155 hi156 hi157 hi158 hi159 hm154 h hl; exfalso; omega
        | succ d152 ih153 =>
          intro L149 L150 H locs ls hi155 hi156 hi157 hi158 hi159 hm154 h hl
          refine lv_iload hx hb dX9_spells_26 (lv_at hl 0 rfl) ?_
          refine lv_iload_n hx hb dX9_spells_28 rfl (lv_at hl 3 rfl) ?_
          refine lv_icmp_ge (tgt := 119) hx hb dX9_spells_29 (by decide) (fun hc163 => ?_) (fun hc163 => ?_)
          · have hc163 : (n).toInt ≤ (L149).toInt := i_le hc163 rfl rfl
            refine lv_iload hx hb dX9_spells_119 (lv_at hl 1 rfl) ?_
            exact e_n X h hr hlk (nbool (by omega) (by omega)) dX9_spells_121 ⟨rfl, (spell1 (by omega) (by omega) (by omega) (by omega))⟩
          · have hc163 : ¬ (n).toInt ≤ (L149).toInt := i_nle hc163 rfl rfl
            refine lv_iload hx hb dX9_spells_32 (lv_at hl 1 rfl) ?_
            refine lv_if_eq (tgt := 119) hx hb dX9_spells_34 (by decide) (fun hc164 => ?_) (fun hc164 => ?_)
            · have hc164 : (L150).toInt = 0 := i_eq hc164 rfl rfl
              refine lv_iload hx hb dX9_spells_119 (lv_at hl 1 rfl) ?_
              exact e_n X h hr hlk (nbool (by omega) (by omega)) dX9_spells_121 ⟨rfl, (spell1 (by omega) (by omega) (by omega) (by omega))⟩
            · have hc164 : ¬ (L150).toInt = 0 := i_ne hc164 rfl rfl
              refine lv_aload_n hx hb dX9_spells_37 rfl (lv_at hl 2 rfl) ?_
              refine r_get kc9 X h 64 9 (by decide) rfl pf (by decide) kv_667 rfl dX9_spells_38 ?_
              refine lv_aload_n hx hb dX9_spells_41 rfl (lv_at hl 2 rfl) ?_
              refine r_get kc9 X h 64 11 (by decide) rfl pf (by decide) kv_663 rfl dX9_spells_42 ?_
              refine lv_iload hx hb dX9_spells_45 (lv_at hl 0 rfl) ?_
              obtain ⟨z167, e165, t166⟩ := x_add (x := ta) (y := L149) (a := (ta).toInt) (b := (L149).toInt) rfl rfl (by omega) (by omega)
              refine o_iadd (z := z167) hx hb dX9_spells_47 e165 ?_
              obtain ⟨g169, f168, p170⟩ := (show sA cI 150 (anyA) (w 71) from ok 71 (by decide))
              have f171 : w 71 = .inl (cI, 150, .inl g169) := f168
              obtain ⟨v172, e173⟩ : ∃ z : Int32, g169 (z167).toNatClampNeg = z := ⟨_, rfl⟩
              refine o_iald (v := v172) X h 71 0 (by decide) rfl f171 rfl (in_of (by omega) (by omega)) e173 dX9_spells_48 ?_
              refine lv_iload hx hb dX9_spells_49 (lv_at hl 0 rfl) ?_
              refine lv_if_ne (tgt := 58) hx hb dX9_spells_51 (by decide) (fun hc175 => ?_) (fun hc175 => ?_)
              · have hc175 : ¬ (L149).toInt = 0 := i_ne hc175 rfl rfl
                refine lv_iload hx hb dX9_spells_58 (lv_at hl 0 rfl) ?_
                refine lv_iconst (v := 1) hx hb dX9_spells_60 (by decide) ?_
                refine lv_icmp_ne (tgt := 68) hx hb dX9_spells_61 (by decide) (fun hc176 => ?_) (fun hc176 => ?_)
                · have hc176 : ¬ (L149).toInt = 1 := i_ne hc176 rfl rfl
                  refine lv_iload hx hb dX9_spells_68 (lv_at hl 0 rfl) ?_
                  refine lv_iconst (v := 2) hx hb dX9_spells_70 (by decide) ?_
                  refine lv_icmp_ne (tgt := 79) hx hb dX9_spells_71 (by decide) (fun hc177 => ?_) (fun hc177 => ?_)
                  · have hc177 : ¬ (L149).toInt = 2 := i_ne hc177 rfl rfl
                    refine lv_iload hx hb dX9_spells_79 (lv_at hl 0 rfl) ?_
                    refine lv_iconst (v := 3) hx hb dX9_spells_81 (by decide) ?_
                    refine lv_icmp_ne (tgt := 90) hx hb dX9_spells_82 (by decide) (fun hc178 => ?_) (fun hc178 => ?_)
                    · have hc178 : ¬ (L149).toInt = 3 := i_ne hc178 rfl rfl
                      refine lv_iload hx hb dX9_spells_90 (lv_at hl 0 rfl) ?_
                      refine lv_iconst (v := 4) hx hb dX9_spells_92 (by decide) ?_
                      refine lv_icmp_ne (tgt := 101) hx hb dX9_spells_93 (by decide) (fun hc179 => ?_) (fun hc179 => ?_)
                      · have hc179 : ¬ (L149).toInt = 4 := i_ne hc179 rfl rfl
                        refine lv_iload hx hb dX9_spells_101 (lv_at hl 9 rfl) ?_
                        refine lv_icmp_ne (tgt := 110) hx hb dX9_spells_103 (by decide) (fun hc180 => ?_) (fun hc180 => ?_)
                        · have hc180 : ¬ (v172).toInt = (s5).toInt := i_ne hc180 rfl rfl
                          refine lv_iconst (v := 0) hx hb dX9_spells_110 (by decide) ?_
                          refine lv_istore (lv' := [(8, .int 0), (9, .int L149), (0, .ref (ad 64)), (1, .int n), (2, .int s0), (3, .int s1), (4, .int s2), (5, .int s3), (6, .int s4), (7, .int s5)]) hx hb dX9_spells_111 hl (by decide) rfl (fun ls hl => ?_)
                          obtain ⟨z181, e182, t183⟩ := x_add (x := L149) (y := 1) (a := L149.toInt) (b := 1) rfl rfl (by omega) (by omega)
                          refine lv_iinc (v := z181) (lv' := [(9, .int z181), (8, .int 0), (0, .ref (ad 64)), (1, .int n), (2, .int s0), (3, .int s1), (4, .int s2), (5, .int s3), (6, .int s4), (7, .int s5)]) hx hb dX9_spells_113 hl (k := 1) rfl e182 (by decide) rfl (fun ls hl => ?_)
                          refine lv_goto (tgt := 26) hx hb dX9_spells_116 (by decide) ?_
                          exact ih153  z181 (0 : Int32)  _ _ _ (by have q0 : (0 : Int32).toInt = 0 := rfl; omega) (by have q0 : (0 : Int32).toInt = 0 := rfl; omega) (by have q0 : (0 : Int32).toInt = 0 := rfl; omega) (by have q0 : (0 : Int32).toInt = 0 := rfl; omega) (by have q0 : (0 : Int32).toInt = 0 := rfl; omega)  (by have q0 : (0 : Int32).toInt = 0 := rfl; omega) h (lv_sub hl [0, 1, 2, 3, 4, 5, 6, 7, 8, 9] rfl)
                        · have hc180 : (v172).toInt = (s5).toInt := i_eq hc180 rfl rfl
                          refine lv_iconst (v := 1) hx hb dX9_spells_106 (by decide) ?_
                          refine lv_goto (tgt := 111) hx hb dX9_spells_107 (by decide) ?_
                          refine lv_istore (lv' := [(8, .int 1), (9, .int L149), (0, .ref (ad 64)), (1, .int n), (2, .int s0), (3, .int s1), (4, .int s2), (5, .int s3), (6, .int s4), (7, .int s5)]) hx hb dX9_spells_111 hl (by decide) rfl (fun ls hl => ?_)
                          obtain ⟨z184, e185, t186⟩ := x_add (x := L149) (y := 1) (a := L149.toInt) (b := 1) rfl rfl (by omega) (by omega)
                          refine lv_iinc (v := z184) (lv' := [(9, .int z184), (8, .int 1), (0, .ref (ad 64)), (1, .int n), (2, .int s0), (3, .int s1), (4, .int s2), (5, .int s3), (6, .int s4), (7, .int s5)]) hx hb dX9_spells_113 hl (k := 1) rfl e185 (by decide) rfl (fun ls hl => ?_)
                          refine lv_goto (tgt := 26) hx hb dX9_spells_116 (by decide) ?_
                          exact ih153  z184 (1 : Int32)  _ _ _ (by have q0 : (1 : Int32).toInt = 1 := rfl; omega) (by have q0 : (1 : Int32).toInt = 1 := rfl; omega) (by have q0 : (1 : Int32).toInt = 1 := rfl; omega) (by have q0 : (1 : Int32).toInt = 1 := rfl; omega) (by have q0 : (1 : Int32).toInt = 1 := rfl; omega)  (by have q0 : (1 : Int32).toInt = 1 := rfl; omega) h (lv_sub hl [0, 1, 2, 3, 4, 5, 6, 7, 8, 9] rfl)
                      · have hc179 : (L149).toInt = 4 := i_eq hc179 rfl rfl
                        refine lv_iload hx hb dX9_spells_96 (lv_at hl 8 rfl) ?_
                        refine lv_goto (tgt := 103) hx hb dX9_spells_98 (by decide) ?_
                        refine lv_icmp_ne (tgt := 110) hx hb dX9_spells_103 (by decide) (fun hc187 => ?_) (fun hc187 => ?_)
                        · have hc187 : ¬ (v172).toInt = (s4).toInt := i_ne hc187 rfl rfl
                          refine lv_iconst (v := 0) hx hb dX9_spells_110 (by decide) ?_
                          refine lv_istore (lv' := [(8, .int 0), (9, .int L149), (0, .ref (ad 64)), (1, .int n), (2, .int s0), (3, .int s1), (4, .int s2), (5, .int s3), (6, .int s4), (7, .int s5)]) hx hb dX9_spells_111 hl (by decide) rfl (fun ls hl => ?_)
                          obtain ⟨z188, e189, t190⟩ := x_add (x := L149) (y := 1) (a := L149.toInt) (b := 1) rfl rfl (by omega) (by omega)
                          refine lv_iinc (v := z188) (lv' := [(9, .int z188), (8, .int 0), (0, .ref (ad 64)), (1, .int n), (2, .int s0), (3, .int s1), (4, .int s2), (5, .int s3), (6, .int s4), (7, .int s5)]) hx hb dX9_spells_113 hl (k := 1) rfl e189 (by decide) rfl (fun ls hl => ?_)
                          refine lv_goto (tgt := 26) hx hb dX9_spells_116 (by decide) ?_
                          exact ih153  z188 (0 : Int32)  _ _ _ (by have q0 : (0 : Int32).toInt = 0 := rfl; omega) (by have q0 : (0 : Int32).toInt = 0 := rfl; omega) (by have q0 : (0 : Int32).toInt = 0 := rfl; omega) (by have q0 : (0 : Int32).toInt = 0 := rfl; omega) (by have q0 : (0 : Int32).toInt = 0 := rfl; omega)  (by have q0 : (0 : Int32).toInt = 0 := rfl; omega) h (lv_sub hl [0, 1, 2, 3, 4, 5, 6, 7, 8, 9] rfl)
                        · have hc187 : (v172).toInt = (s4).toInt := i_eq hc187 rfl rfl
                          refine lv_iconst (v := 1) hx hb dX9_spells_106 (by decide) ?_
                          refine lv_goto (tgt := 111) hx hb dX9_spells_107 (by decide) ?_
                          refine lv_istore (lv' := [(8, .int 1), (9, .int L149), (0, .ref (ad 64)), (1, .int n), (2, .int s0), (3, .int s1), (4, .int s2), (5, .int s3), (6, .int s4), (7, .int s5)]) hx hb dX9_spells_111 hl (by decide) rfl (fun ls hl => ?_)
                          obtain ⟨z191, e192, t193⟩ := x_add (x := L149) (y := 1) (a := L149.toInt) (b := 1) rfl rfl (by omega) (by omega)
                          refine lv_iinc (v := z191) (lv' := [(9, .int z191), (8, .int 1), (0, .ref (ad 64)), (1, .int n), (2, .int s0), (3, .int s1), (4, .int s2), (5, .int s3), (6, .int s4), (7, .int s5)]) hx hb dX9_spells_113 hl (k := 1) rfl e192 (by decide) rfl (fun ls hl => ?_)
                          refine lv_goto (tgt := 26) hx hb dX9_spells_116 (by decide) ?_
                          exact ih153  z191 (1 : Int32)  _ _ _ (by have q0 : (1 : Int32).toInt = 1 := rfl; omega) (by have q0 : (1 : Int32).toInt = 1 := rfl; omega) (by have q0 : (1 : Int32).toInt = 1 := rfl; omega) (by have q0 : (1 : Int32).toInt = 1 := rfl; omega) (by have q0 : (1 : Int32).toInt = 1 := rfl; omega)  (by have q0 : (1 : Int32).toInt = 1 := rfl; omega) h (lv_sub hl [0, 1, 2, 3, 4, 5, 6, 7, 8, 9] rfl)
                    · have hc178 : (L149).toInt = 3 := i_eq hc178 rfl rfl
                      refine lv_iload hx hb dX9_spells_85 (lv_at hl 7 rfl) ?_
                      refine lv_goto (tgt := 103) hx hb dX9_spells_87 (by decide) ?_
                      refine lv_icmp_ne (tgt := 110) hx hb dX9_spells_103 (by decide) (fun hc194 => ?_) (fun hc194 => ?_)
                      · have hc194 : ¬ (v172).toInt = (s3).toInt := i_ne hc194 rfl rfl
                        refine lv_iconst (v := 0) hx hb dX9_spells_110 (by decide) ?_
                        refine lv_istore (lv' := [(8, .int 0), (9, .int L149), (0, .ref (ad 64)), (1, .int n), (2, .int s0), (3, .int s1), (4, .int s2), (5, .int s3), (6, .int s4), (7, .int s5)]) hx hb dX9_spells_111 hl (by decide) rfl (fun ls hl => ?_)
                        obtain ⟨z195, e196, t197⟩ := x_add (x := L149) (y := 1) (a := L149.toInt) (b := 1) rfl rfl (by omega) (by omega)
                        refine lv_iinc (v := z195) (lv' := [(9, .int z195), (8, .int 0), (0, .ref (ad 64)), (1, .int n), (2, .int s0), (3, .int s1), (4, .int s2), (5, .int s3), (6, .int s4), (7, .int s5)]) hx hb dX9_spells_113 hl (k := 1) rfl e196 (by decide) rfl (fun ls hl => ?_)
                        refine lv_goto (tgt := 26) hx hb dX9_spells_116 (by decide) ?_
                        exact ih153  z195 (0 : Int32)  _ _ _ (by have q0 : (0 : Int32).toInt = 0 := rfl; omega) (by have q0 : (0 : Int32).toInt = 0 := rfl; omega) (by have q0 : (0 : Int32).toInt = 0 := rfl; omega) (by have q0 : (0 : Int32).toInt = 0 := rfl; omega) (by have q0 : (0 : Int32).toInt = 0 := rfl; omega)  (by have q0 : (0 : Int32).toInt = 0 := rfl; omega) h (lv_sub hl [0, 1, 2, 3, 4, 5, 6, 7, 8, 9] rfl)
                      · have hc194 : (v172).toInt = (s3).toInt := i_eq hc194 rfl rfl
                        refine lv_iconst (v := 1) hx hb dX9_spells_106 (by decide) ?_
                        refine lv_goto (tgt := 111) hx hb dX9_spells_107 (by decide) ?_
                        refine lv_istore (lv' := [(8, .int 1), (9, .int L149), (0, .ref (ad 64)), (1, .int n), (2, .int s0), (3, .int s1), (4, .int s2), (5, .int s3), (6, .int s4), (7, .int s5)]) hx hb dX9_spells_111 hl (by decide) rfl (fun ls hl => ?_)
                        obtain ⟨z198, e199, t200⟩ := x_add (x := L149) (y := 1) (a := L149.toInt) (b := 1) rfl rfl (by omega) (by omega)
                        refine lv_iinc (v := z198) (lv' := [(9, .int z198), (8, .int 1), (0, .ref (ad 64)), (1, .int n), (2, .int s0), (3, .int s1), (4, .int s2), (5, .int s3), (6, .int s4), (7, .int s5)]) hx hb dX9_spells_113 hl (k := 1) rfl e199 (by decide) rfl (fun ls hl => ?_)
                        refine lv_goto (tgt := 26) hx hb dX9_spells_116 (by decide) ?_
                        exact ih153  z198 (1 : Int32)  _ _ _ (by have q0 : (1 : Int32).toInt = 1 := rfl; omega) (by have q0 : (1 : Int32).toInt = 1 := rfl; omega) (by have q0 : (1 : Int32).toInt = 1 := rfl; omega) (by have q0 : (1 : Int32).toInt = 1 := rfl; omega) (by have q0 : (1 : Int32).toInt = 1 := rfl; omega)  (by have q0 : (1 : Int32).toInt = 1 := rfl; omega) h (lv_sub hl [0, 1, 2, 3, 4, 5, 6, 7, 8, 9] rfl)
                  · have hc177 : (L149).toInt = 2 := i_eq hc177 rfl rfl
                    refine lv_iload hx hb dX9_spells_74 (lv_at hl 6 rfl) ?_
                    refine lv_goto (tgt := 103) hx hb dX9_spells_76 (by decide) ?_
                    refine lv_icmp_ne (tgt := 110) hx hb dX9_spells_103 (by decide) (fun hc201 => ?_) (fun hc201 => ?_)
                    · have hc201 : ¬ (v172).toInt = (s2).toInt := i_ne hc201 rfl rfl
                      refine lv_iconst (v := 0) hx hb dX9_spells_110 (by decide) ?_
                      refine lv_istore (lv' := [(8, .int 0), (9, .int L149), (0, .ref (ad 64)), (1, .int n), (2, .int s0), (3, .int s1), (4, .int s2), (5, .int s3), (6, .int s4), (7, .int s5)]) hx hb dX9_spells_111 hl (by decide) rfl (fun ls hl => ?_)
                      obtain ⟨z202, e203, t204⟩ := x_add (x := L149) (y := 1) (a := L149.toInt) (b := 1) rfl rfl (by omega) (by omega)
                      refine lv_iinc (v := z202) (lv' := [(9, .int z202), (8, .int 0), (0, .ref (ad 64)), (1, .int n), (2, .int s0), (3, .int s1), (4, .int s2), (5, .int s3), (6, .int s4), (7, .int s5)]) hx hb dX9_spells_113 hl (k := 1) rfl e203 (by decide) rfl (fun ls hl => ?_)
                      refine lv_goto (tgt := 26) hx hb dX9_spells_116 (by decide) ?_
                      exact ih153  z202 (0 : Int32)  _ _ _ (by have q0 : (0 : Int32).toInt = 0 := rfl; omega) (by have q0 : (0 : Int32).toInt = 0 := rfl; omega) (by have q0 : (0 : Int32).toInt = 0 := rfl; omega) (by have q0 : (0 : Int32).toInt = 0 := rfl; omega) (by have q0 : (0 : Int32).toInt = 0 := rfl; omega)  (by have q0 : (0 : Int32).toInt = 0 := rfl; omega) h (lv_sub hl [0, 1, 2, 3, 4, 5, 6, 7, 8, 9] rfl)
                    · have hc201 : (v172).toInt = (s2).toInt := i_eq hc201 rfl rfl
                      refine lv_iconst (v := 1) hx hb dX9_spells_106 (by decide) ?_
                      refine lv_goto (tgt := 111) hx hb dX9_spells_107 (by decide) ?_
                      refine lv_istore (lv' := [(8, .int 1), (9, .int L149), (0, .ref (ad 64)), (1, .int n), (2, .int s0), (3, .int s1), (4, .int s2), (5, .int s3), (6, .int s4), (7, .int s5)]) hx hb dX9_spells_111 hl (by decide) rfl (fun ls hl => ?_)
                      obtain ⟨z205, e206, t207⟩ := x_add (x := L149) (y := 1) (a := L149.toInt) (b := 1) rfl rfl (by omega) (by omega)
                      refine lv_iinc (v := z205) (lv' := [(9, .int z205), (8, .int 1), (0, .ref (ad 64)), (1, .int n), (2, .int s0), (3, .int s1), (4, .int s2), (5, .int s3), (6, .int s4), (7, .int s5)]) hx hb dX9_spells_113 hl (k := 1) rfl e206 (by decide) rfl (fun ls hl => ?_)
                      refine lv_goto (tgt := 26) hx hb dX9_spells_116 (by decide) ?_
                      exact ih153  z205 (1 : Int32)  _ _ _ (by have q0 : (1 : Int32).toInt = 1 := rfl; omega) (by have q0 : (1 : Int32).toInt = 1 := rfl; omega) (by have q0 : (1 : Int32).toInt = 1 := rfl; omega) (by have q0 : (1 : Int32).toInt = 1 := rfl; omega) (by have q0 : (1 : Int32).toInt = 1 := rfl; omega)  (by have q0 : (1 : Int32).toInt = 1 := rfl; omega) h (lv_sub hl [0, 1, 2, 3, 4, 5, 6, 7, 8, 9] rfl)
                · have hc176 : (L149).toInt = 1 := i_eq hc176 rfl rfl
                  refine lv_iload_n hx hb dX9_spells_64 rfl (lv_at hl 5 rfl) ?_
                  refine lv_goto (tgt := 103) hx hb dX9_spells_65 (by decide) ?_
                  refine lv_icmp_ne (tgt := 110) hx hb dX9_spells_103 (by decide) (fun hc208 => ?_) (fun hc208 => ?_)
                  · have hc208 : ¬ (v172).toInt = (s1).toInt := i_ne hc208 rfl rfl
                    refine lv_iconst (v := 0) hx hb dX9_spells_110 (by decide) ?_
                    refine lv_istore (lv' := [(8, .int 0), (9, .int L149), (0, .ref (ad 64)), (1, .int n), (2, .int s0), (3, .int s1), (4, .int s2), (5, .int s3), (6, .int s4), (7, .int s5)]) hx hb dX9_spells_111 hl (by decide) rfl (fun ls hl => ?_)
                    obtain ⟨z209, e210, t211⟩ := x_add (x := L149) (y := 1) (a := L149.toInt) (b := 1) rfl rfl (by omega) (by omega)
                    refine lv_iinc (v := z209) (lv' := [(9, .int z209), (8, .int 0), (0, .ref (ad 64)), (1, .int n), (2, .int s0), (3, .int s1), (4, .int s2), (5, .int s3), (6, .int s4), (7, .int s5)]) hx hb dX9_spells_113 hl (k := 1) rfl e210 (by decide) rfl (fun ls hl => ?_)
                    refine lv_goto (tgt := 26) hx hb dX9_spells_116 (by decide) ?_
                    exact ih153  z209 (0 : Int32)  _ _ _ (by have q0 : (0 : Int32).toInt = 0 := rfl; omega) (by have q0 : (0 : Int32).toInt = 0 := rfl; omega) (by have q0 : (0 : Int32).toInt = 0 := rfl; omega) (by have q0 : (0 : Int32).toInt = 0 := rfl; omega) (by have q0 : (0 : Int32).toInt = 0 := rfl; omega)  (by have q0 : (0 : Int32).toInt = 0 := rfl; omega) h (lv_sub hl [0, 1, 2, 3, 4, 5, 6, 7, 8, 9] rfl)
                  · have hc208 : (v172).toInt = (s1).toInt := i_eq hc208 rfl rfl
                    refine lv_iconst (v := 1) hx hb dX9_spells_106 (by decide) ?_
                    refine lv_goto (tgt := 111) hx hb dX9_spells_107 (by decide) ?_
                    refine lv_istore (lv' := [(8, .int 1), (9, .int L149), (0, .ref (ad 64)), (1, .int n), (2, .int s0), (3, .int s1), (4, .int s2), (5, .int s3), (6, .int s4), (7, .int s5)]) hx hb dX9_spells_111 hl (by decide) rfl (fun ls hl => ?_)
                    obtain ⟨z212, e213, t214⟩ := x_add (x := L149) (y := 1) (a := L149.toInt) (b := 1) rfl rfl (by omega) (by omega)
                    refine lv_iinc (v := z212) (lv' := [(9, .int z212), (8, .int 1), (0, .ref (ad 64)), (1, .int n), (2, .int s0), (3, .int s1), (4, .int s2), (5, .int s3), (6, .int s4), (7, .int s5)]) hx hb dX9_spells_113 hl (k := 1) rfl e213 (by decide) rfl (fun ls hl => ?_)
                    refine lv_goto (tgt := 26) hx hb dX9_spells_116 (by decide) ?_
                    exact ih153  z212 (1 : Int32)  _ _ _ (by have q0 : (1 : Int32).toInt = 1 := rfl; omega) (by have q0 : (1 : Int32).toInt = 1 := rfl; omega) (by have q0 : (1 : Int32).toInt = 1 := rfl; omega) (by have q0 : (1 : Int32).toInt = 1 := rfl; omega) (by have q0 : (1 : Int32).toInt = 1 := rfl; omega)  (by have q0 : (1 : Int32).toInt = 1 := rfl; omega) h (lv_sub hl [0, 1, 2, 3, 4, 5, 6, 7, 8, 9] rfl)
              · have hc175 : (L149).toInt = 0 := i_eq hc175 rfl rfl
                refine lv_iload_n hx hb dX9_spells_54 rfl (lv_at hl 4 rfl) ?_
                refine lv_goto (tgt := 103) hx hb dX9_spells_55 (by decide) ?_
                refine lv_icmp_ne (tgt := 110) hx hb dX9_spells_103 (by decide) (fun hc215 => ?_) (fun hc215 => ?_)
                · have hc215 : ¬ (v172).toInt = (s0).toInt := i_ne hc215 rfl rfl
                  refine lv_iconst (v := 0) hx hb dX9_spells_110 (by decide) ?_
                  refine lv_istore (lv' := [(8, .int 0), (9, .int L149), (0, .ref (ad 64)), (1, .int n), (2, .int s0), (3, .int s1), (4, .int s2), (5, .int s3), (6, .int s4), (7, .int s5)]) hx hb dX9_spells_111 hl (by decide) rfl (fun ls hl => ?_)
                  obtain ⟨z216, e217, t218⟩ := x_add (x := L149) (y := 1) (a := L149.toInt) (b := 1) rfl rfl (by omega) (by omega)
                  refine lv_iinc (v := z216) (lv' := [(9, .int z216), (8, .int 0), (0, .ref (ad 64)), (1, .int n), (2, .int s0), (3, .int s1), (4, .int s2), (5, .int s3), (6, .int s4), (7, .int s5)]) hx hb dX9_spells_113 hl (k := 1) rfl e217 (by decide) rfl (fun ls hl => ?_)
                  refine lv_goto (tgt := 26) hx hb dX9_spells_116 (by decide) ?_
                  exact ih153  z216 (0 : Int32)  _ _ _ (by have q0 : (0 : Int32).toInt = 0 := rfl; omega) (by have q0 : (0 : Int32).toInt = 0 := rfl; omega) (by have q0 : (0 : Int32).toInt = 0 := rfl; omega) (by have q0 : (0 : Int32).toInt = 0 := rfl; omega) (by have q0 : (0 : Int32).toInt = 0 := rfl; omega)  (by have q0 : (0 : Int32).toInt = 0 := rfl; omega) h (lv_sub hl [0, 1, 2, 3, 4, 5, 6, 7, 8, 9] rfl)
                · have hc215 : (v172).toInt = (s0).toInt := i_eq hc215 rfl rfl
                  refine lv_iconst (v := 1) hx hb dX9_spells_106 (by decide) ?_
                  refine lv_goto (tgt := 111) hx hb dX9_spells_107 (by decide) ?_
                  refine lv_istore (lv' := [(8, .int 1), (9, .int L149), (0, .ref (ad 64)), (1, .int n), (2, .int s0), (3, .int s1), (4, .int s2), (5, .int s3), (6, .int s4), (7, .int s5)]) hx hb dX9_spells_111 hl (by decide) rfl (fun ls hl => ?_)
                  obtain ⟨z219, e220, t221⟩ := x_add (x := L149) (y := 1) (a := L149.toInt) (b := 1) rfl rfl (by omega) (by omega)
                  refine lv_iinc (v := z219) (lv' := [(9, .int z219), (8, .int 1), (0, .ref (ad 64)), (1, .int n), (2, .int s0), (3, .int s1), (4, .int s2), (5, .int s3), (6, .int s4), (7, .int s5)]) hx hb dX9_spells_113 hl (k := 1) rfl e220 (by decide) rfl (fun ls hl => ?_)
                  refine lv_goto (tgt := 26) hx hb dX9_spells_116 (by decide) ?_
                  exact ih153  z219 (1 : Int32)  _ _ _ (by have q0 : (1 : Int32).toInt = 1 := rfl; omega) (by have q0 : (1 : Int32).toInt = 1 := rfl; omega) (by have q0 : (1 : Int32).toInt = 1 := rfl; omega) (by have q0 : (1 : Int32).toInt = 1 := rfl; omega) (by have q0 : (1 : Int32).toInt = 1 := rfl; omega)  (by have q0 : (1 : Int32).toInt = 1 := rfl; omega) h (lv_sub hl [0, 1, 2, 3, 4, 5, 6, 7, 8, 9] rfl)
      exact hloop151 7 (0 : Int32) (1 : Int32)  _ _ _ (by have q0 : (0 : Int32).toInt = 0 := rfl; have q1 : (1 : Int32).toInt = 1 := rfl; omega) (by have q0 : (0 : Int32).toInt = 0 := rfl; have q1 : (1 : Int32).toInt = 1 := rfl; omega) (by have q0 : (0 : Int32).toInt = 0 := rfl; have q1 : (1 : Int32).toInt = 1 := rfl; omega) (by have q0 : (0 : Int32).toInt = 0 := rfl; have q1 : (1 : Int32).toInt = 1 := rfl; omega) (by have q0 : (0 : Int32).toInt = 0 := rfl; have q1 : (1 : Int32).toInt = 1 := rfl; omega)  (by have q0 : (0 : Int32).toInt = 0 := rfl; have q1 : (1 : Int32).toInt = 1 := rfl; omega) h (lv_sub hl [0, 1, 2, 3, 4, 5, 6, 7, 8, 9] rfl)

set_option maxHeartbeats 4000000 in
set_option maxRecDepth 100000 in
theorem c_M_takes0 (l : Launch) (G : va_G) (cI cB cZ cO : ClassId) (ad : Nat → Nat) (w : Nat → va_E) (x y : Int64) (mb bl ta tl tk va : Int32) (f : Nat → Int32) (ok : OK cI cB cZ cO ad w) (q0 : Int32) (q1 : Int32)  (pf : w 64 = .inr (7, [.ref (ad 65), .ref (ad 66), .ref (ad 67), .ref (ad 68), .long x, .long y, .ref (ad 69), .int mb, .ref (ad 70), .ref (ad 71), .int bl, .int ta, .int tl, .int tk, .int va, .ref (ad 72), .ref (ad 73)])) (hbl0 : 0 ≤ bl.toInt) (hbl1 : bl.toInt ≤ 150) (hta : 0 ≤ ta.toInt) (htl : 0 ≤ tl.toInt) (htb : ta.toInt + tl.toInt ≤ bl.toInt) (htk : tk.toInt = 0 ∨ 1 ≤ tl.toInt) (p73 : w 73 = .inl (cI, 3, .inl f)) : NI l G (tyq cI cB cZ cO) yX9_takes cX9_takes 4 (some .boolean) 4 89 74 ad w [.ref (ad 64), .int 0, .int q0, .int q1] (fun r w1 => OK cI cB cZ cO ad w1 ∧ F7 w w1 ∧ (∃ ta1 tl1 tk1 va1 : Int32, w1 64 = .inr (7, [.ref (ad 65), .ref (ad 66), .ref (ad 67), .ref (ad 68), .long x, .long y, .ref (ad 69), .int mb, .ref (ad 70), .ref (ad 71), .int bl, .int ta1, .int tl1, .int tk1, .int va1, .ref (ad 72), .ref (ad 73)]) ∧ ta.toInt ≤ ta1.toInt ∧ 0 ≤ tl1.toInt ∧ ta1.toInt + tl1.toInt ≤ bl.toInt ∧ (tk1.toInt = 0 ∨ 1 ≤ tl1.toInt)) ∧ ((∃ v : Int32, q0.toInt ≤ v.toInt ∧ v.toInt ≤ q1.toInt ∧ w1 73 = .inl (cI, 3, .inl (upd f 0 v))) ∧ r = 1 ∨ r = 0)) := by
  refine nk_i (own := "NoonShadeModel") rfl (by decide) (Nat.le_of_ble_eq_true rfl) ?_
  intro p e s m below meth c ls X hD hN hr hlk h hl
  have hx := X.1.1
  have hb := X.1.2.1
  have hown := X.1.2.2.2.1
  have hts := X.1.2.2.2.2
  have hl : lv_has ls 4 [(0, .ref (ad 64)), (1, .int 0), (2, .int q0), (3, .int q1)] := hl
  have kq0 : (0 : Int32).toInt = 0 := rfl
  have kq1 : (1 : Int32).toInt = 1 := rfl
  have kq2 : (2 : Int32).toInt = 2 := rfl
  have kq3 : (3 : Int32).toInt = 3 := rfl
  have kq4 : (4 : Int32).toInt = 4 := rfl
  refine lv_aload_n hx hb dX9_takes_0 rfl (lv_at hl 0 rfl) ?_
  refine r_get kc9 X h 64 13 (by decide) rfl pf (by decide) kv_665 rfl dX9_takes_1 ?_
  refine lv_iconst (v := 2) hx hb dX9_takes_4 (by decide) ?_
  refine lv_icmp_ne (tgt := 23) hx hb dX9_takes_5 (by decide) (fun hc1 => ?_) (fun hc1 => ?_)
  · have hc1 : ¬ (tk).toInt = 2 := i_ne hc1 rfl rfl
    refine lv_iconst (v := 0) hx hb dX9_takes_23 (by decide) ?_
    exact e_n X h hr hlk rfl dX9_takes_24 ⟨ok, F7.rf, ⟨⟨_, _, _, _, pf, by omega, by omega, by omega, by omega⟩, Or.inr rfl⟩⟩
  · have hc1 : (tk).toInt = 2 := i_eq hc1 rfl rfl
    refine lv_aload_n hx hb dX9_takes_8 rfl (lv_at hl 0 rfl) ?_
    refine r_get kc9 X h 64 14 (by decide) rfl pf (by decide) kv_666 rfl dX9_takes_9 ?_
    obtain ⟨z2, e3⟩ : ∃ z : Int64, va.toInt64 = z := ⟨_, rfl⟩
    have tz2 : z2.toInt = (va).toInt := by rw [← e3]; exact Int32.toInt_toInt64 _
    refine lv_i2l (v := z2) hx hb dX9_takes_12 e3 ?_
    refine lv_iload_n hx hb dX9_takes_13 rfl (lv_at hl 2 rfl) ?_
    obtain ⟨z4, e5⟩ : ∃ z : Int64, q0.toInt64 = z := ⟨_, rfl⟩
    have tz4 : z4.toInt = (q0).toInt := by rw [← e5]; exact Int32.toInt_toInt64 _
    refine lv_i2l (v := z4) hx hb dX9_takes_14 e5 ?_
    refine lv_iload_n hx hb dX9_takes_15 rfl (lv_at hl 3 rfl) ?_
    obtain ⟨z6, e7⟩ : ∃ z : Int64, q1.toInt64 = z := ⟨_, rfl⟩
    have tz6 : z6.toInt = (q1).toInt := by rw [← e7]; exact Int32.toInt_toInt64 _
    refine lv_i2l (v := z6) hx hb dX9_takes_16 e7 ?_
    refine n_Si (na := 3) (As := [.long z2, .long z4, .long z6]) (rest := []) X hD hN h (c_M_in l G cI cB cZ cO ad w z2 z4 z6 ((va).toInt) ((q0).toInt) ((q1).toInt) tz2 tz4 tz6) ⟨kv_468, kv_469, kv_470, kv_471⟩ ⟨by decide, by decide, by decide⟩ ⟨Nat.le_of_ble_eq_true rfl, Nat.le_of_ble_eq_true rfl⟩ ⟨Nat.zero_le _, Nat.zero_le _⟩ rfl hl.1 rfl (Nat.le_of_ble_eq_true rfl) dX9_takes_17 (fun r8 w9 H locs hp10 h => ?_)
    obtain ⟨rfl, hq11⟩ := hp10
    rcases hq11 with ⟨hq12, hq13, rfl⟩ | ⟨hq11, rfl⟩
    · refine lv_if_ne (tgt := 25) hx hb dX9_takes_20 (by decide) (fun _ => ?_) (fun hc => absurd hc (by decide))
      refine lv_aload_n hx hb dX9_takes_25 rfl (lv_at hl 0 rfl) ?_
      refine r_get kc9 X h 64 16 (by decide) rfl pf (by decide) kv_678 rfl dX9_takes_26 ?_
      refine lv_iload_n hx hb dX9_takes_29 rfl (lv_at hl 1 rfl) ?_
      refine lv_aload_n hx hb dX9_takes_30 rfl (lv_at hl 0 rfl) ?_
      refine r_get kc9 X h 64 14 (by decide) rfl pf (by decide) kv_666 rfl dX9_takes_31 ?_
      obtain ⟨g14, e15⟩ : ∃ z : Nat → Int32, upd f 0 va = z := ⟨_, rfl⟩
      have p16 : anyA g14 := trivial
      refine o_iast (f1 := g14) X hD h 73 0 (by decide) rfl p73 rfl (by unfold vp_in; decide) e15 dX9_takes_34 (fun H locs w17 e18 h => ?_)
      have f19 : w17 73 = .inl (cI, 3, .inl g14) := (congrFun e18 _).trans (va_up_self _ _ _)
      have ok20 : OK cI cB cZ cO ad w17 := OK.up ok e18 (sA_mk p16)
      have kx21 : F7 w w17 := F7.up F7.rf e18 (by decide)
      refine lv_aload_n hx hb dX9_takes_35 rfl (lv_at hl 0 rfl) ?_
      have f22 : w17 64 = .inr (7, [.ref (ad 65), .ref (ad 66), .ref (ad 67), .ref (ad 68), .long x, .long y, .ref (ad 69), .int mb, .ref (ad 70), .ref (ad 71), .int bl, .int ta, .int tl, .int tk, .int va, .ref (ad 72), .ref (ad 73)]) := by rw [e18, va_up_ne _ _ (by decide)]; exact pf
      refine n_Vv (na := 0) (As := []) (rest := []) X hD hN h rfl (c_M_goBehind l G cI cB cZ cO ad w17 x y mb bl ta tl tk va ok20   f22 (by first | omega | decide | (simp only [k00]; omega)) (by first | omega | decide | (simp only [k00]; omega)) (by first | omega | decide | (simp only [k00]; omega)) (by first | omega | decide | (simp only [k00]; omega)) (by first | omega | decide | (simp only [k00]; omega))) ⟨kv_679, kv_680, kv_681, kv_470, kv_682⟩ rfl ⟨by decide, by decide, by decide⟩ ⟨Nat.le_of_ble_eq_true rfl, Nat.le_of_ble_eq_true rfl⟩ ⟨Nat.zero_le _, Nat.zero_le _⟩ (by decide) f22 rfl rfl hl.1 rfl (Nat.le_of_ble_eq_true rfl) dX9_takes_36 (fun w24 H locs hp25 h => ?_)
      obtain ⟨ok26, kk27, hr28⟩ := hp25
      obtain ⟨y29, y30, y31, y32, h33, h34, h35, h36, h37⟩ := hr28
      have kx38 : F7 w w24 := F7.tr kx21 kk27.f7
      refine lv_iconst (v := 1) hx hb dX9_takes_39 (by decide) ?_
      have f39 : w24 73 = .inl (cI, 3, .inl g14) := (kk27 73 (by decide)).trans f19
      exact e_n X h hr hlk rfl dX9_takes_40 ⟨ok26, kx38, ⟨⟨_, _, _, _, h33, by omega, by omega, by omega, by omega⟩, Or.inl ⟨⟨va, by omega, by omega, by rw [f39, ← e15]⟩, rfl⟩⟩⟩
    · refine lv_if_ne (tgt := 25) hx hb dX9_takes_20 (by decide) (fun hc => absurd (by decide) hc) (fun _ => ?_)
      refine lv_iconst (v := 0) hx hb dX9_takes_23 (by decide) ?_
      exact e_n X h hr hlk rfl dX9_takes_24 ⟨ok, F7.rf, ⟨⟨_, _, _, _, pf, by omega, by omega, by omega, by omega⟩, Or.inr rfl⟩⟩

set_option maxHeartbeats 4000000 in
set_option maxRecDepth 100000 in
theorem c_M_takes1 (l : Launch) (G : va_G) (cI cB cZ cO : ClassId) (ad : Nat → Nat) (w : Nat → va_E) (x y : Int64) (mb bl ta tl tk va : Int32) (f : Nat → Int32) (ok : OK cI cB cZ cO ad w) (q0 : Int32) (q1 : Int32)  (pf : w 64 = .inr (7, [.ref (ad 65), .ref (ad 66), .ref (ad 67), .ref (ad 68), .long x, .long y, .ref (ad 69), .int mb, .ref (ad 70), .ref (ad 71), .int bl, .int ta, .int tl, .int tk, .int va, .ref (ad 72), .ref (ad 73)])) (hbl0 : 0 ≤ bl.toInt) (hbl1 : bl.toInt ≤ 150) (hta : 0 ≤ ta.toInt) (htl : 0 ≤ tl.toInt) (htb : ta.toInt + tl.toInt ≤ bl.toInt) (htk : tk.toInt = 0 ∨ 1 ≤ tl.toInt) (p73 : w 73 = .inl (cI, 3, .inl f)) : NI l G (tyq cI cB cZ cO) yX9_takes cX9_takes 4 (some .boolean) 4 89 74 ad w [.ref (ad 64), .int 1, .int q0, .int q1] (fun r w1 => OK cI cB cZ cO ad w1 ∧ F7 w w1 ∧ (∃ ta1 tl1 tk1 va1 : Int32, w1 64 = .inr (7, [.ref (ad 65), .ref (ad 66), .ref (ad 67), .ref (ad 68), .long x, .long y, .ref (ad 69), .int mb, .ref (ad 70), .ref (ad 71), .int bl, .int ta1, .int tl1, .int tk1, .int va1, .ref (ad 72), .ref (ad 73)]) ∧ ta.toInt ≤ ta1.toInt ∧ 0 ≤ tl1.toInt ∧ ta1.toInt + tl1.toInt ≤ bl.toInt ∧ (tk1.toInt = 0 ∨ 1 ≤ tl1.toInt)) ∧ ((∃ v : Int32, q0.toInt ≤ v.toInt ∧ v.toInt ≤ q1.toInt ∧ w1 73 = .inl (cI, 3, .inl (upd f 1 v))) ∧ r = 1 ∨ r = 0)) := by
  refine nk_i (own := "NoonShadeModel") rfl (by decide) (Nat.le_of_ble_eq_true rfl) ?_
  intro p e s m below meth c ls X hD hN hr hlk h hl
  have hx := X.1.1
  have hb := X.1.2.1
  have hown := X.1.2.2.2.1
  have hts := X.1.2.2.2.2
  have hl : lv_has ls 4 [(0, .ref (ad 64)), (1, .int 1), (2, .int q0), (3, .int q1)] := hl
  have kq0 : (0 : Int32).toInt = 0 := rfl
  have kq1 : (1 : Int32).toInt = 1 := rfl
  have kq2 : (2 : Int32).toInt = 2 := rfl
  have kq3 : (3 : Int32).toInt = 3 := rfl
  have kq4 : (4 : Int32).toInt = 4 := rfl
  refine lv_aload_n hx hb dX9_takes_0 rfl (lv_at hl 0 rfl) ?_
  refine r_get kc9 X h 64 13 (by decide) rfl pf (by decide) kv_665 rfl dX9_takes_1 ?_
  refine lv_iconst (v := 2) hx hb dX9_takes_4 (by decide) ?_
  refine lv_icmp_ne (tgt := 23) hx hb dX9_takes_5 (by decide) (fun hc1 => ?_) (fun hc1 => ?_)
  · have hc1 : ¬ (tk).toInt = 2 := i_ne hc1 rfl rfl
    refine lv_iconst (v := 0) hx hb dX9_takes_23 (by decide) ?_
    exact e_n X h hr hlk rfl dX9_takes_24 ⟨ok, F7.rf, ⟨⟨_, _, _, _, pf, by omega, by omega, by omega, by omega⟩, Or.inr rfl⟩⟩
  · have hc1 : (tk).toInt = 2 := i_eq hc1 rfl rfl
    refine lv_aload_n hx hb dX9_takes_8 rfl (lv_at hl 0 rfl) ?_
    refine r_get kc9 X h 64 14 (by decide) rfl pf (by decide) kv_666 rfl dX9_takes_9 ?_
    obtain ⟨z2, e3⟩ : ∃ z : Int64, va.toInt64 = z := ⟨_, rfl⟩
    have tz2 : z2.toInt = (va).toInt := by rw [← e3]; exact Int32.toInt_toInt64 _
    refine lv_i2l (v := z2) hx hb dX9_takes_12 e3 ?_
    refine lv_iload_n hx hb dX9_takes_13 rfl (lv_at hl 2 rfl) ?_
    obtain ⟨z4, e5⟩ : ∃ z : Int64, q0.toInt64 = z := ⟨_, rfl⟩
    have tz4 : z4.toInt = (q0).toInt := by rw [← e5]; exact Int32.toInt_toInt64 _
    refine lv_i2l (v := z4) hx hb dX9_takes_14 e5 ?_
    refine lv_iload_n hx hb dX9_takes_15 rfl (lv_at hl 3 rfl) ?_
    obtain ⟨z6, e7⟩ : ∃ z : Int64, q1.toInt64 = z := ⟨_, rfl⟩
    have tz6 : z6.toInt = (q1).toInt := by rw [← e7]; exact Int32.toInt_toInt64 _
    refine lv_i2l (v := z6) hx hb dX9_takes_16 e7 ?_
    refine n_Si (na := 3) (As := [.long z2, .long z4, .long z6]) (rest := []) X hD hN h (c_M_in l G cI cB cZ cO ad w z2 z4 z6 ((va).toInt) ((q0).toInt) ((q1).toInt) tz2 tz4 tz6) ⟨kv_468, kv_469, kv_470, kv_471⟩ ⟨by decide, by decide, by decide⟩ ⟨Nat.le_of_ble_eq_true rfl, Nat.le_of_ble_eq_true rfl⟩ ⟨Nat.zero_le _, Nat.zero_le _⟩ rfl hl.1 rfl (Nat.le_of_ble_eq_true rfl) dX9_takes_17 (fun r8 w9 H locs hp10 h => ?_)
    obtain ⟨rfl, hq11⟩ := hp10
    rcases hq11 with ⟨hq12, hq13, rfl⟩ | ⟨hq11, rfl⟩
    · refine lv_if_ne (tgt := 25) hx hb dX9_takes_20 (by decide) (fun _ => ?_) (fun hc => absurd hc (by decide))
      refine lv_aload_n hx hb dX9_takes_25 rfl (lv_at hl 0 rfl) ?_
      refine r_get kc9 X h 64 16 (by decide) rfl pf (by decide) kv_678 rfl dX9_takes_26 ?_
      refine lv_iload_n hx hb dX9_takes_29 rfl (lv_at hl 1 rfl) ?_
      refine lv_aload_n hx hb dX9_takes_30 rfl (lv_at hl 0 rfl) ?_
      refine r_get kc9 X h 64 14 (by decide) rfl pf (by decide) kv_666 rfl dX9_takes_31 ?_
      obtain ⟨g14, e15⟩ : ∃ z : Nat → Int32, upd f 1 va = z := ⟨_, rfl⟩
      have p16 : anyA g14 := trivial
      refine o_iast (f1 := g14) X hD h 73 0 (by decide) rfl p73 rfl (by unfold vp_in; decide) e15 dX9_takes_34 (fun H locs w17 e18 h => ?_)
      have f19 : w17 73 = .inl (cI, 3, .inl g14) := (congrFun e18 _).trans (va_up_self _ _ _)
      have ok20 : OK cI cB cZ cO ad w17 := OK.up ok e18 (sA_mk p16)
      have kx21 : F7 w w17 := F7.up F7.rf e18 (by decide)
      refine lv_aload_n hx hb dX9_takes_35 rfl (lv_at hl 0 rfl) ?_
      have f22 : w17 64 = .inr (7, [.ref (ad 65), .ref (ad 66), .ref (ad 67), .ref (ad 68), .long x, .long y, .ref (ad 69), .int mb, .ref (ad 70), .ref (ad 71), .int bl, .int ta, .int tl, .int tk, .int va, .ref (ad 72), .ref (ad 73)]) := by rw [e18, va_up_ne _ _ (by decide)]; exact pf
      refine n_Vv (na := 0) (As := []) (rest := []) X hD hN h rfl (c_M_goBehind l G cI cB cZ cO ad w17 x y mb bl ta tl tk va ok20   f22 (by first | omega | decide | (simp only [k00]; omega)) (by first | omega | decide | (simp only [k00]; omega)) (by first | omega | decide | (simp only [k00]; omega)) (by first | omega | decide | (simp only [k00]; omega)) (by first | omega | decide | (simp only [k00]; omega))) ⟨kv_679, kv_680, kv_681, kv_470, kv_682⟩ rfl ⟨by decide, by decide, by decide⟩ ⟨Nat.le_of_ble_eq_true rfl, Nat.le_of_ble_eq_true rfl⟩ ⟨Nat.zero_le _, Nat.zero_le _⟩ (by decide) f22 rfl rfl hl.1 rfl (Nat.le_of_ble_eq_true rfl) dX9_takes_36 (fun w24 H locs hp25 h => ?_)
      obtain ⟨ok26, kk27, hr28⟩ := hp25
      obtain ⟨y29, y30, y31, y32, h33, h34, h35, h36, h37⟩ := hr28
      have kx38 : F7 w w24 := F7.tr kx21 kk27.f7
      refine lv_iconst (v := 1) hx hb dX9_takes_39 (by decide) ?_
      have f39 : w24 73 = .inl (cI, 3, .inl g14) := (kk27 73 (by decide)).trans f19
      exact e_n X h hr hlk rfl dX9_takes_40 ⟨ok26, kx38, ⟨⟨_, _, _, _, h33, by omega, by omega, by omega, by omega⟩, Or.inl ⟨⟨va, by omega, by omega, by rw [f39, ← e15]⟩, rfl⟩⟩⟩
    · refine lv_if_ne (tgt := 25) hx hb dX9_takes_20 (by decide) (fun hc => absurd (by decide) hc) (fun _ => ?_)
      refine lv_iconst (v := 0) hx hb dX9_takes_23 (by decide) ?_
      exact e_n X h hr hlk rfl dX9_takes_24 ⟨ok, F7.rf, ⟨⟨_, _, _, _, pf, by omega, by omega, by omega, by omega⟩, Or.inr rfl⟩⟩

set_option maxHeartbeats 4000000 in
set_option maxRecDepth 100000 in
theorem c_M_takes2 (l : Launch) (G : va_G) (cI cB cZ cO : ClassId) (ad : Nat → Nat) (w : Nat → va_E) (x y : Int64) (mb bl ta tl tk va : Int32) (f : Nat → Int32) (ok : OK cI cB cZ cO ad w) (q0 : Int32) (q1 : Int32)  (pf : w 64 = .inr (7, [.ref (ad 65), .ref (ad 66), .ref (ad 67), .ref (ad 68), .long x, .long y, .ref (ad 69), .int mb, .ref (ad 70), .ref (ad 71), .int bl, .int ta, .int tl, .int tk, .int va, .ref (ad 72), .ref (ad 73)])) (hbl0 : 0 ≤ bl.toInt) (hbl1 : bl.toInt ≤ 150) (hta : 0 ≤ ta.toInt) (htl : 0 ≤ tl.toInt) (htb : ta.toInt + tl.toInt ≤ bl.toInt) (htk : tk.toInt = 0 ∨ 1 ≤ tl.toInt) (p73 : w 73 = .inl (cI, 3, .inl f)) : NI l G (tyq cI cB cZ cO) yX9_takes cX9_takes 4 (some .boolean) 4 89 74 ad w [.ref (ad 64), .int 2, .int q0, .int q1] (fun r w1 => OK cI cB cZ cO ad w1 ∧ F7 w w1 ∧ (∃ ta1 tl1 tk1 va1 : Int32, w1 64 = .inr (7, [.ref (ad 65), .ref (ad 66), .ref (ad 67), .ref (ad 68), .long x, .long y, .ref (ad 69), .int mb, .ref (ad 70), .ref (ad 71), .int bl, .int ta1, .int tl1, .int tk1, .int va1, .ref (ad 72), .ref (ad 73)]) ∧ ta.toInt ≤ ta1.toInt ∧ 0 ≤ tl1.toInt ∧ ta1.toInt + tl1.toInt ≤ bl.toInt ∧ (tk1.toInt = 0 ∨ 1 ≤ tl1.toInt)) ∧ ((∃ v : Int32, q0.toInt ≤ v.toInt ∧ v.toInt ≤ q1.toInt ∧ w1 73 = .inl (cI, 3, .inl (upd f 2 v))) ∧ r = 1 ∨ r = 0)) := by
  refine nk_i (own := "NoonShadeModel") rfl (by decide) (Nat.le_of_ble_eq_true rfl) ?_
  intro p e s m below meth c ls X hD hN hr hlk h hl
  have hx := X.1.1
  have hb := X.1.2.1
  have hown := X.1.2.2.2.1
  have hts := X.1.2.2.2.2
  have hl : lv_has ls 4 [(0, .ref (ad 64)), (1, .int 2), (2, .int q0), (3, .int q1)] := hl
  have kq0 : (0 : Int32).toInt = 0 := rfl
  have kq1 : (1 : Int32).toInt = 1 := rfl
  have kq2 : (2 : Int32).toInt = 2 := rfl
  have kq3 : (3 : Int32).toInt = 3 := rfl
  have kq4 : (4 : Int32).toInt = 4 := rfl
  refine lv_aload_n hx hb dX9_takes_0 rfl (lv_at hl 0 rfl) ?_
  refine r_get kc9 X h 64 13 (by decide) rfl pf (by decide) kv_665 rfl dX9_takes_1 ?_
  refine lv_iconst (v := 2) hx hb dX9_takes_4 (by decide) ?_
  refine lv_icmp_ne (tgt := 23) hx hb dX9_takes_5 (by decide) (fun hc1 => ?_) (fun hc1 => ?_)
  · have hc1 : ¬ (tk).toInt = 2 := i_ne hc1 rfl rfl
    refine lv_iconst (v := 0) hx hb dX9_takes_23 (by decide) ?_
    exact e_n X h hr hlk rfl dX9_takes_24 ⟨ok, F7.rf, ⟨⟨_, _, _, _, pf, by omega, by omega, by omega, by omega⟩, Or.inr rfl⟩⟩
  · have hc1 : (tk).toInt = 2 := i_eq hc1 rfl rfl
    refine lv_aload_n hx hb dX9_takes_8 rfl (lv_at hl 0 rfl) ?_
    refine r_get kc9 X h 64 14 (by decide) rfl pf (by decide) kv_666 rfl dX9_takes_9 ?_
    obtain ⟨z2, e3⟩ : ∃ z : Int64, va.toInt64 = z := ⟨_, rfl⟩
    have tz2 : z2.toInt = (va).toInt := by rw [← e3]; exact Int32.toInt_toInt64 _
    refine lv_i2l (v := z2) hx hb dX9_takes_12 e3 ?_
    refine lv_iload_n hx hb dX9_takes_13 rfl (lv_at hl 2 rfl) ?_
    obtain ⟨z4, e5⟩ : ∃ z : Int64, q0.toInt64 = z := ⟨_, rfl⟩
    have tz4 : z4.toInt = (q0).toInt := by rw [← e5]; exact Int32.toInt_toInt64 _
    refine lv_i2l (v := z4) hx hb dX9_takes_14 e5 ?_
    refine lv_iload_n hx hb dX9_takes_15 rfl (lv_at hl 3 rfl) ?_
    obtain ⟨z6, e7⟩ : ∃ z : Int64, q1.toInt64 = z := ⟨_, rfl⟩
    have tz6 : z6.toInt = (q1).toInt := by rw [← e7]; exact Int32.toInt_toInt64 _
    refine lv_i2l (v := z6) hx hb dX9_takes_16 e7 ?_
    refine n_Si (na := 3) (As := [.long z2, .long z4, .long z6]) (rest := []) X hD hN h (c_M_in l G cI cB cZ cO ad w z2 z4 z6 ((va).toInt) ((q0).toInt) ((q1).toInt) tz2 tz4 tz6) ⟨kv_468, kv_469, kv_470, kv_471⟩ ⟨by decide, by decide, by decide⟩ ⟨Nat.le_of_ble_eq_true rfl, Nat.le_of_ble_eq_true rfl⟩ ⟨Nat.zero_le _, Nat.zero_le _⟩ rfl hl.1 rfl (Nat.le_of_ble_eq_true rfl) dX9_takes_17 (fun r8 w9 H locs hp10 h => ?_)
    obtain ⟨rfl, hq11⟩ := hp10
    rcases hq11 with ⟨hq12, hq13, rfl⟩ | ⟨hq11, rfl⟩
    · refine lv_if_ne (tgt := 25) hx hb dX9_takes_20 (by decide) (fun _ => ?_) (fun hc => absurd hc (by decide))
      refine lv_aload_n hx hb dX9_takes_25 rfl (lv_at hl 0 rfl) ?_
      refine r_get kc9 X h 64 16 (by decide) rfl pf (by decide) kv_678 rfl dX9_takes_26 ?_
      refine lv_iload_n hx hb dX9_takes_29 rfl (lv_at hl 1 rfl) ?_
      refine lv_aload_n hx hb dX9_takes_30 rfl (lv_at hl 0 rfl) ?_
      refine r_get kc9 X h 64 14 (by decide) rfl pf (by decide) kv_666 rfl dX9_takes_31 ?_
      obtain ⟨g14, e15⟩ : ∃ z : Nat → Int32, upd f 2 va = z := ⟨_, rfl⟩
      have p16 : anyA g14 := trivial
      refine o_iast (f1 := g14) X hD h 73 0 (by decide) rfl p73 rfl (by unfold vp_in; decide) e15 dX9_takes_34 (fun H locs w17 e18 h => ?_)
      have f19 : w17 73 = .inl (cI, 3, .inl g14) := (congrFun e18 _).trans (va_up_self _ _ _)
      have ok20 : OK cI cB cZ cO ad w17 := OK.up ok e18 (sA_mk p16)
      have kx21 : F7 w w17 := F7.up F7.rf e18 (by decide)
      refine lv_aload_n hx hb dX9_takes_35 rfl (lv_at hl 0 rfl) ?_
      have f22 : w17 64 = .inr (7, [.ref (ad 65), .ref (ad 66), .ref (ad 67), .ref (ad 68), .long x, .long y, .ref (ad 69), .int mb, .ref (ad 70), .ref (ad 71), .int bl, .int ta, .int tl, .int tk, .int va, .ref (ad 72), .ref (ad 73)]) := by rw [e18, va_up_ne _ _ (by decide)]; exact pf
      refine n_Vv (na := 0) (As := []) (rest := []) X hD hN h rfl (c_M_goBehind l G cI cB cZ cO ad w17 x y mb bl ta tl tk va ok20   f22 (by first | omega | decide | (simp only [k00]; omega)) (by first | omega | decide | (simp only [k00]; omega)) (by first | omega | decide | (simp only [k00]; omega)) (by first | omega | decide | (simp only [k00]; omega)) (by first | omega | decide | (simp only [k00]; omega))) ⟨kv_679, kv_680, kv_681, kv_470, kv_682⟩ rfl ⟨by decide, by decide, by decide⟩ ⟨Nat.le_of_ble_eq_true rfl, Nat.le_of_ble_eq_true rfl⟩ ⟨Nat.zero_le _, Nat.zero_le _⟩ (by decide) f22 rfl rfl hl.1 rfl (Nat.le_of_ble_eq_true rfl) dX9_takes_36 (fun w24 H locs hp25 h => ?_)
      obtain ⟨ok26, kk27, hr28⟩ := hp25
      obtain ⟨y29, y30, y31, y32, h33, h34, h35, h36, h37⟩ := hr28
      have kx38 : F7 w w24 := F7.tr kx21 kk27.f7
      refine lv_iconst (v := 1) hx hb dX9_takes_39 (by decide) ?_
      have f39 : w24 73 = .inl (cI, 3, .inl g14) := (kk27 73 (by decide)).trans f19
      exact e_n X h hr hlk rfl dX9_takes_40 ⟨ok26, kx38, ⟨⟨_, _, _, _, h33, by omega, by omega, by omega, by omega⟩, Or.inl ⟨⟨va, by omega, by omega, by rw [f39, ← e15]⟩, rfl⟩⟩⟩
    · refine lv_if_ne (tgt := 25) hx hb dX9_takes_20 (by decide) (fun hc => absurd (by decide) hc) (fun _ => ?_)
      refine lv_iconst (v := 0) hx hb dX9_takes_23 (by decide) ?_
      exact e_n X h hr hlk rfl dX9_takes_24 ⟨ok, F7.rf, ⟨⟨_, _, _, _, pf, by omega, by omega, by omega, by omega⟩, Or.inr rfl⟩⟩
