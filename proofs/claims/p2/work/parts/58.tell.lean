set_option maxHeartbeats 4000000 in
set_option maxRecDepth 100000 in
theorem c_numbersOf0 (l : Launch) (G : va_G) (cI cB cZ cO : ClassId) (ad : Nat → Nat) (w : Nat → va_E)      : NI l G (tyq cI cB cZ cO) yX7_numbersOf cX7_numbersOf 1 (some .int) 0 0 74 ad w [.int 0] (fun r w1 => w = w1 ∧ 1 = r) := by
  refine nk_i (own := "NoonShade$Text") rfl (by decide) (Nat.le_of_ble_eq_true rfl) ?_
  intro p e s m below meth c ls X hD hN hr hlk h hl
  have hx := X.1.1
  have hb := X.1.2.1
  have hown := X.1.2.2.2.1
  have hts := X.1.2.2.2.2
  have hl : lv_has ls 1 [(0, .int 0)] := hl
  refine lv_iload_n hx hb dX7_numbersOf_0 rfl (lv_at hl 0 rfl) ?_
  refine lv_tableOut (tgt := 36) hx hb dX7_numbersOf_1 (by decide) (by decide) ?_
  refine lv_iconst (v := 1) hx hb dX7_numbersOf_36 (by decide) ?_
  exact e_i X h hr hlk dX7_numbersOf_37 ⟨rfl, rfl⟩

set_option maxHeartbeats 4000000 in
set_option maxRecDepth 100000 in
theorem c_numbersOf1 (l : Launch) (G : va_G) (cI cB cZ cO : ClassId) (ad : Nat → Nat) (w : Nat → va_E)      : NI l G (tyq cI cB cZ cO) yX7_numbersOf cX7_numbersOf 1 (some .int) 0 0 74 ad w [.int 1] (fun r w1 => w = w1 ∧ 3 = r) := by
  refine nk_i (own := "NoonShade$Text") rfl (by decide) (Nat.le_of_ble_eq_true rfl) ?_
  intro p e s m below meth c ls X hD hN hr hlk h hl
  have hx := X.1.1
  have hb := X.1.2.1
  have hown := X.1.2.2.2.1
  have hts := X.1.2.2.2.2
  have hl : lv_has ls 1 [(0, .int 1)] := hl
  refine lv_iload_n hx hb dX7_numbersOf_0 rfl (lv_at hl 0 rfl) ?_
  refine lv_tableIn (tgt := 32) (off := 31) hx hb dX7_numbersOf_1 (by decide) (by decide) (by decide) (by decide) ?_
  refine lv_iconst (v := 3) hx hb dX7_numbersOf_32 (by decide) ?_
  exact e_i X h hr hlk dX7_numbersOf_33 ⟨rfl, rfl⟩

set_option maxHeartbeats 4000000 in
set_option maxRecDepth 100000 in
theorem c_numbersOf2 (l : Launch) (G : va_G) (cI cB cZ cO : ClassId) (ad : Nat → Nat) (w : Nat → va_E)      : NI l G (tyq cI cB cZ cO) yX7_numbersOf cX7_numbersOf 1 (some .int) 0 0 74 ad w [.int 2] (fun r w1 => w = w1 ∧ 1 = r) := by
  refine nk_i (own := "NoonShade$Text") rfl (by decide) (Nat.le_of_ble_eq_true rfl) ?_
  intro p e s m below meth c ls X hD hN hr hlk h hl
  have hx := X.1.1
  have hb := X.1.2.1
  have hown := X.1.2.2.2.1
  have hts := X.1.2.2.2.2
  have hl : lv_has ls 1 [(0, .int 2)] := hl
  refine lv_iload_n hx hb dX7_numbersOf_0 rfl (lv_at hl 0 rfl) ?_
  refine lv_tableIn (tgt := 36) (off := 35) hx hb dX7_numbersOf_1 (by decide) (by decide) (by decide) (by decide) ?_
  refine lv_iconst (v := 1) hx hb dX7_numbersOf_36 (by decide) ?_
  exact e_i X h hr hlk dX7_numbersOf_37 ⟨rfl, rfl⟩

set_option maxHeartbeats 4000000 in
set_option maxRecDepth 100000 in
theorem c_numbersOf3 (l : Launch) (G : va_G) (cI cB cZ cO : ClassId) (ad : Nat → Nat) (w : Nat → va_E)      : NI l G (tyq cI cB cZ cO) yX7_numbersOf cX7_numbersOf 1 (some .int) 0 0 74 ad w [.int 3] (fun r w1 => w = w1 ∧ 2 = r) := by
  refine nk_i (own := "NoonShade$Text") rfl (by decide) (Nat.le_of_ble_eq_true rfl) ?_
  intro p e s m below meth c ls X hD hN hr hlk h hl
  have hx := X.1.1
  have hb := X.1.2.1
  have hown := X.1.2.2.2.1
  have hts := X.1.2.2.2.2
  have hl : lv_has ls 1 [(0, .int 3)] := hl
  refine lv_iload_n hx hb dX7_numbersOf_0 rfl (lv_at hl 0 rfl) ?_
  refine lv_tableIn (tgt := 34) (off := 33) hx hb dX7_numbersOf_1 (by decide) (by decide) (by decide) (by decide) ?_
  refine lv_iconst (v := 2) hx hb dX7_numbersOf_34 (by decide) ?_
  exact e_i X h hr hlk dX7_numbersOf_35 ⟨rfl, rfl⟩

set_option maxHeartbeats 4000000 in
set_option maxRecDepth 100000 in
theorem c_numbersOf4 (l : Launch) (G : va_G) (cI cB cZ cO : ClassId) (ad : Nat → Nat) (w : Nat → va_E)      : NI l G (tyq cI cB cZ cO) yX7_numbersOf cX7_numbersOf 1 (some .int) 0 0 74 ad w [.int 4] (fun r w1 => w = w1 ∧ 2 = r) := by
  refine nk_i (own := "NoonShade$Text") rfl (by decide) (Nat.le_of_ble_eq_true rfl) ?_
  intro p e s m below meth c ls X hD hN hr hlk h hl
  have hx := X.1.1
  have hb := X.1.2.1
  have hown := X.1.2.2.2.1
  have hts := X.1.2.2.2.2
  have hl : lv_has ls 1 [(0, .int 4)] := hl
  refine lv_iload_n hx hb dX7_numbersOf_0 rfl (lv_at hl 0 rfl) ?_
  refine lv_tableIn (tgt := 34) (off := 33) hx hb dX7_numbersOf_1 (by decide) (by decide) (by decide) (by decide) ?_
  refine lv_iconst (v := 2) hx hb dX7_numbersOf_34 (by decide) ?_
  exact e_i X h hr hlk dX7_numbersOf_35 ⟨rfl, rfl⟩

set_option maxHeartbeats 4000000 in
set_option maxRecDepth 100000 in
theorem c_numbersOf5 (l : Launch) (G : va_G) (cI cB cZ cO : ClassId) (ad : Nat → Nat) (w : Nat → va_E)      : NI l G (tyq cI cB cZ cO) yX7_numbersOf cX7_numbersOf 1 (some .int) 0 0 74 ad w [.int 5] (fun r w1 => w = w1 ∧ 1 = r) := by
  refine nk_i (own := "NoonShade$Text") rfl (by decide) (Nat.le_of_ble_eq_true rfl) ?_
  intro p e s m below meth c ls X hD hN hr hlk h hl
  have hx := X.1.1
  have hb := X.1.2.1
  have hown := X.1.2.2.2.1
  have hts := X.1.2.2.2.2
  have hl : lv_has ls 1 [(0, .int 5)] := hl
  refine lv_iload_n hx hb dX7_numbersOf_0 rfl (lv_at hl 0 rfl) ?_
  refine lv_tableOut (tgt := 36) hx hb dX7_numbersOf_1 (by decide) (by decide) ?_
  refine lv_iconst (v := 1) hx hb dX7_numbersOf_36 (by decide) ?_
  exact e_i X h hr hlk dX7_numbersOf_37 ⟨rfl, rfl⟩

set_option maxHeartbeats 4000000 in
set_option maxRecDepth 100000 in
theorem c_mayBegin0 (l : Launch) (G : va_G) (cI cB cZ cO : ClassId) (ad : Nat → Nat) (w : Nat → va_E)  (ok : OK cI cB cZ cO ad w) (x : Int32) (hl_x : (-1) ≤ x.toInt) (hh_x : x.toInt ≤ 5)  : NI l G (tyq cI cB cZ cO) yX7_mayBegin cX7_mayBegin 3 (some .boolean) 0 0 74 ad w [.ref (ad 14), .int x, .int 0] (fun r w1 => w = w1 ∧ ((0 ≤ x.toInt ∧ r = 1) ∨ r = 0)) := by
  refine nk_i (own := "NoonShade$Text") rfl (by decide) (Nat.le_of_ble_eq_true rfl) ?_
  intro p e s m below meth c ls X hD hN hr hlk h hl
  have hx := X.1.1
  have hb := X.1.2.1
  have hown := X.1.2.2.2.1
  have hts := X.1.2.2.2.2
  have hl : lv_has ls 3 [(0, .ref (ad 14)), (1, .int x), (2, .int 0)] := hl
  refine lv_iload_n hx hb dX7_mayBegin_0 rfl (lv_at hl 1 rfl) ?_
  by_cases hs1 : (-1) ≤ (x).toInt ∧ (x).toInt ≤ 2
  · have ha2 : x = (-1) ∨ x = 0 ∨ x = 1 ∨ x = 2 := by simp only [fa_eq]; have := hs1; simp only [show (((-1) : Int32).toInt = (-1)) from rfl, show ((0 : Int32).toInt = 0) from rfl, show ((1 : Int32).toInt = 1) from rfl, show ((2 : Int32).toInt = 2) from rfl]; omega
    rcases ha2 with hq | hq | hq | hq
    · refine lv_tableIn (tgt := 32) (off := 31) hx hb dX7_mayBegin_1 (by rw [hq]; decide) (by rw [hq]; decide) (by rw [hq]; decide) (by decide) ?_
      refine lv_iconst (v := 0) hx hb dX7_mayBegin_32 (by decide) ?_
      exact e_n X h hr hlk rfl dX7_mayBegin_33 ⟨rfl, Or.inr rfl⟩
    · refine lv_tableIn (tgt := 34) (off := 33) hx hb dX7_mayBegin_1 (by rw [hq]; decide) (by rw [hq]; decide) (by rw [hq]; decide) (by decide) ?_
      refine lv_iload_n hx hb dX7_mayBegin_34 rfl (lv_at hl 2 rfl) ?_
      exact e_n X h hr hlk rfl dX7_mayBegin_35 ⟨rfl, Or.inr rfl⟩
    · refine lv_tableIn (tgt := 36) (off := 35) hx hb dX7_mayBegin_1 (by rw [hq]; decide) (by rw [hq]; decide) (by rw [hq]; decide) (by decide) ?_
      refine lv_iload_n hx hb dX7_mayBegin_36 rfl (lv_at hl 2 rfl) ?_
      refine lv_if_ne (tgt := 53) hx hb dX7_mayBegin_37 (by decide) (fun hc => absurd (by decide) hc) (fun _ => ?_)
      refine lv_aload_n hx hb dX7_mayBegin_40 rfl (lv_at hl 0 rfl) ?_
      obtain ⟨q4, q5, q6, q7, q8, f3, h9, h10, h11, h12⟩ := (show sI ad 14 (w 14) from ok 14 (by decide))
      have f13 : w 14 = .inr (1, [.int q4, .int q5, .int q6, .int q7, .int q8, .ref (ad 15), .ref (ad 16), .ref (ad 17), .ref (ad 18), .ref (ad 19), .ref (ad 20), .ref (ad 21), .ref (ad 23), .ref (ad 25)]) := f3
      refine r_get kc2 X h 14 3 (by decide) rfl f13 (by decide) kv_403 rfl dX7_mayBegin_41 ?_
      refine lv_bipush (v := 7) hx hb dX7_mayBegin_44 (by decide) ?_
      refine lv_icmp_ge (tgt := 53) hx hb dX7_mayBegin_46 (by decide) (fun hc14 => ?_) (fun hc14 => ?_)
      · have hc14 : 7 ≤ (q7).toInt := i_le hc14 rfl rfl
        refine lv_iconst (v := 0) hx hb dX7_mayBegin_53 (by decide) ?_
        exact e_n X h hr hlk rfl dX7_mayBegin_54 ⟨rfl, Or.inr rfl⟩
      · have hc14 : ¬ 7 ≤ (q7).toInt := i_nle hc14 rfl rfl
        refine lv_iconst (v := 1) hx hb dX7_mayBegin_49 (by decide) ?_
        refine lv_goto (tgt := 54) hx hb dX7_mayBegin_50 (by decide) ?_
        exact e_n X h hr hlk rfl dX7_mayBegin_54 ⟨rfl, Or.inl ⟨by first | omega | (rw [hq]; decide), rfl⟩⟩
    · refine lv_tableIn (tgt := 55) (off := 54) hx hb dX7_mayBegin_1 (by rw [hq]; decide) (by rw [hq]; decide) (by rw [hq]; decide) (by decide) ?_
      refine lv_iload_n hx hb dX7_mayBegin_55 rfl (lv_at hl 2 rfl) ?_
      refine lv_if_ne (tgt := 71) hx hb dX7_mayBegin_56 (by decide) (fun hc => absurd (by decide) hc) (fun _ => ?_)
      refine lv_aload_n hx hb dX7_mayBegin_59 rfl (lv_at hl 0 rfl) ?_
      obtain ⟨q16, q17, q18, q19, q20, f15, h21, h22, h23, h24⟩ := (show sI ad 14 (w 14) from ok 14 (by decide))
      have f25 : w 14 = .inr (1, [.int q16, .int q17, .int q18, .int q19, .int q20, .ref (ad 15), .ref (ad 16), .ref (ad 17), .ref (ad 18), .ref (ad 19), .ref (ad 20), .ref (ad 21), .ref (ad 23), .ref (ad 25)]) := f15
      refine r_get kc2 X h 14 4 (by decide) rfl f25 (by decide) kv_404 rfl dX7_mayBegin_60 ?_
      refine lv_iconst (v := 4) hx hb dX7_mayBegin_63 (by decide) ?_
      refine lv_icmp_ge (tgt := 71) hx hb dX7_mayBegin_64 (by decide) (fun hc26 => ?_) (fun hc26 => ?_)
      · have hc26 : 4 ≤ (q20).toInt := i_le hc26 rfl rfl
        refine lv_iconst (v := 0) hx hb dX7_mayBegin_71 (by decide) ?_
        exact e_n X h hr hlk rfl dX7_mayBegin_72 ⟨rfl, Or.inr rfl⟩
      · have hc26 : ¬ 4 ≤ (q20).toInt := i_nle hc26 rfl rfl
        refine lv_iconst (v := 1) hx hb dX7_mayBegin_67 (by decide) ?_
        refine lv_goto (tgt := 72) hx hb dX7_mayBegin_68 (by decide) ?_
        exact e_n X h hr hlk rfl dX7_mayBegin_72 ⟨rfl, Or.inl ⟨by first | omega | (rw [hq]; decide), rfl⟩⟩
  · refine lv_tableOut (tgt := 73) hx hb dX7_mayBegin_1 (by omega) (by decide) ?_
    refine lv_iload_n hx hb dX7_mayBegin_73 rfl (lv_at hl 2 rfl) ?_
    refine lv_if_ne (tgt := 81) hx hb dX7_mayBegin_74 (by decide) (fun hc => absurd (by decide) hc) (fun _ => ?_)
    refine lv_iconst (v := 1) hx hb dX7_mayBegin_77 (by decide) ?_
    refine lv_goto (tgt := 82) hx hb dX7_mayBegin_78 (by decide) ?_
    exact e_n X h hr hlk rfl dX7_mayBegin_82 ⟨rfl, Or.inl ⟨by first | omega | (rw [hq]; decide), rfl⟩⟩

set_option maxHeartbeats 4000000 in
set_option maxRecDepth 100000 in
theorem c_mayBegin1 (l : Launch) (G : va_G) (cI cB cZ cO : ClassId) (ad : Nat → Nat) (w : Nat → va_E)  (ok : OK cI cB cZ cO ad w) (x : Int32) (hl_x : (-1) ≤ x.toInt) (hh_x : x.toInt ≤ 5)  : NI l G (tyq cI cB cZ cO) yX7_mayBegin cX7_mayBegin 3 (some .boolean) 0 0 74 ad w [.ref (ad 14), .int x, .int 1] (fun r w1 => w = w1 ∧ ((0 ≤ x.toInt ∧ r = 1) ∨ r = 0)) := by
  refine nk_i (own := "NoonShade$Text") rfl (by decide) (Nat.le_of_ble_eq_true rfl) ?_
  intro p e s m below meth c ls X hD hN hr hlk h hl
  have hx := X.1.1
  have hb := X.1.2.1
  have hown := X.1.2.2.2.1
  have hts := X.1.2.2.2.2
  have hl : lv_has ls 3 [(0, .ref (ad 14)), (1, .int x), (2, .int 1)] := hl
  refine lv_iload_n hx hb dX7_mayBegin_0 rfl (lv_at hl 1 rfl) ?_
  by_cases hs1 : (-1) ≤ (x).toInt ∧ (x).toInt ≤ 2
  · have ha2 : x = (-1) ∨ x = 0 ∨ x = 1 ∨ x = 2 := by simp only [fa_eq]; have := hs1; simp only [show (((-1) : Int32).toInt = (-1)) from rfl, show ((0 : Int32).toInt = 0) from rfl, show ((1 : Int32).toInt = 1) from rfl, show ((2 : Int32).toInt = 2) from rfl]; omega
    rcases ha2 with hq | hq | hq | hq
    · refine lv_tableIn (tgt := 32) (off := 31) hx hb dX7_mayBegin_1 (by rw [hq]; decide) (by rw [hq]; decide) (by rw [hq]; decide) (by decide) ?_
      refine lv_iconst (v := 0) hx hb dX7_mayBegin_32 (by decide) ?_
      exact e_n X h hr hlk rfl dX7_mayBegin_33 ⟨rfl, Or.inr rfl⟩
    · refine lv_tableIn (tgt := 34) (off := 33) hx hb dX7_mayBegin_1 (by rw [hq]; decide) (by rw [hq]; decide) (by rw [hq]; decide) (by decide) ?_
      refine lv_iload_n hx hb dX7_mayBegin_34 rfl (lv_at hl 2 rfl) ?_
      exact e_n X h hr hlk rfl dX7_mayBegin_35 ⟨rfl, Or.inl ⟨by first | omega | (rw [hq]; decide), rfl⟩⟩
    · refine lv_tableIn (tgt := 36) (off := 35) hx hb dX7_mayBegin_1 (by rw [hq]; decide) (by rw [hq]; decide) (by rw [hq]; decide) (by decide) ?_
      refine lv_iload_n hx hb dX7_mayBegin_36 rfl (lv_at hl 2 rfl) ?_
      refine lv_if_ne (tgt := 53) hx hb dX7_mayBegin_37 (by decide) (fun _ => ?_) (fun hc => absurd hc (by decide))
      refine lv_iconst (v := 0) hx hb dX7_mayBegin_53 (by decide) ?_
      exact e_n X h hr hlk rfl dX7_mayBegin_54 ⟨rfl, Or.inr rfl⟩
    · refine lv_tableIn (tgt := 55) (off := 54) hx hb dX7_mayBegin_1 (by rw [hq]; decide) (by rw [hq]; decide) (by rw [hq]; decide) (by decide) ?_
      refine lv_iload_n hx hb dX7_mayBegin_55 rfl (lv_at hl 2 rfl) ?_
      refine lv_if_ne (tgt := 71) hx hb dX7_mayBegin_56 (by decide) (fun _ => ?_) (fun hc => absurd hc (by decide))
      refine lv_iconst (v := 0) hx hb dX7_mayBegin_71 (by decide) ?_
      exact e_n X h hr hlk rfl dX7_mayBegin_72 ⟨rfl, Or.inr rfl⟩
  · refine lv_tableOut (tgt := 73) hx hb dX7_mayBegin_1 (by omega) (by decide) ?_
    refine lv_iload_n hx hb dX7_mayBegin_73 rfl (lv_at hl 2 rfl) ?_
    refine lv_if_ne (tgt := 81) hx hb dX7_mayBegin_74 (by decide) (fun _ => ?_) (fun hc => absurd hc (by decide))
    refine lv_iconst (v := 0) hx hb dX7_mayBegin_81 (by decide) ?_
    exact e_n X h hr hlk rfl dX7_mayBegin_82 ⟨rfl, Or.inr rfl⟩

set_option maxHeartbeats 4000000 in
set_option maxRecDepth 100000 in
theorem c_fitsCaster (l : Launch) (G : va_G) (cI cB cZ cO : ClassId) (ad : Nat → Nat) (w : Nat → va_E) (z a b c0 d : Int32) (ok : OK cI cB cZ cO ad w)   (pf : w 55 = .inr (5, [.ref (ad 56), .ref (ad 57), .int z, .int a, .int b, .int c0, .int d])) (hz1 : z.toInt ≤ 150) (hd0 : 0 ≤ d.toInt) (hd1 : d.toInt ≤ 99) : NI l G (tyq cI cB cZ cO) yX7_fitsCaster cX7_fitsCaster 2 (some .boolean) 0 0 74 ad w [.ref (ad 55), .int 0] (fun r w1 => w = w1 ∧ ((d.toInt ≤ 99 ∧ r = 1) ∨ r = 0)) := by
  refine nk_i (own := "NoonShade$Text") rfl (by decide) (Nat.le_of_ble_eq_true rfl) ?_
  intro p e s m below meth c ls X hD hN hr hlk h hl
  have hx := X.1.1
  have hb := X.1.2.1
  have hown := X.1.2.2.2.1
  have hts := X.1.2.2.2.2
  have hl : lv_has ls 2 [(0, .ref (ad 55)), (1, .int 0)] := hl
  refine lv_iload_n hx hb dX7_fitsCaster_0 rfl (lv_at hl 1 rfl) ?_
  refine lv_lookup (tgt := 28) (off := 27) hx hb dX7_fitsCaster_1 (by decide) rfl (by decide) ?_
  refine lv_aload_n hx hb dX7_fitsCaster_28 rfl (lv_at hl 0 rfl) ?_
  refine r_get kc7 X h 55 6 (by decide) rfl pf (by decide) kv_390 rfl dX7_fitsCaster_29 ?_
  refine lv_bipush (v := 6) hx hb dX7_fitsCaster_32 (by decide) ?_
  refine lv_icmp_ge (tgt := 41) hx hb dX7_fitsCaster_34 (by decide) (fun hc1 => ?_) (fun hc1 => ?_)
  · have hc1 : 6 ≤ (d).toInt := i_le hc1 rfl rfl
    refine lv_iconst (v := 0) hx hb dX7_fitsCaster_41 (by decide) ?_
    exact e_n X h hr hlk rfl dX7_fitsCaster_42 ⟨rfl, Or.inr rfl⟩
  · have hc1 : ¬ 6 ≤ (d).toInt := i_nle hc1 rfl rfl
    refine lv_iconst (v := 1) hx hb dX7_fitsCaster_37 (by decide) ?_
    refine lv_goto (tgt := 42) hx hb dX7_fitsCaster_38 (by decide) ?_
    exact e_n X h hr hlk rfl dX7_fitsCaster_42 ⟨rfl, Or.inl ⟨by omega, rfl⟩⟩

set_option maxHeartbeats 4000000 in
set_option maxRecDepth 100000 in
theorem c_fitsCaster1 (l : Launch) (G : va_G) (cI cB cZ cO : ClassId) (ad : Nat → Nat) (w : Nat → va_E) (z a b c0 d : Int32) (ok : OK cI cB cZ cO ad w)   (pf : w 55 = .inr (5, [.ref (ad 56), .ref (ad 57), .int z, .int a, .int b, .int c0, .int d])) (hz1 : z.toInt ≤ 150) (hd0 : 0 ≤ d.toInt) (hd1 : d.toInt ≤ 99) : NI l G (tyq cI cB cZ cO) yX7_fitsCaster cX7_fitsCaster 2 (some .boolean) 1 22 74 ad w [.ref (ad 55), .int 1] (fun r w1 => w = w1 ∧ ((d.toInt ≤ 9 ∧ r = 1) ∨ r = 0)) := by
  refine nk_i (own := "NoonShade$Text") rfl (by decide) (Nat.le_of_ble_eq_true rfl) ?_
  intro p e s m below meth c ls X hD hN hr hlk h hl
  have hx := X.1.1
  have hb := X.1.2.1
  have hown := X.1.2.2.2.1
  have hts := X.1.2.2.2.2
  have hl : lv_has ls 2 [(0, .ref (ad 55)), (1, .int 1)] := hl
  refine lv_iload_n hx hb dX7_fitsCaster_0 rfl (lv_at hl 1 rfl) ?_
  refine lv_lookup (tgt := 43) (off := 42) hx hb dX7_fitsCaster_1 (by decide) rfl (by decide) ?_
  refine lv_aload_n hx hb dX7_fitsCaster_43 rfl (lv_at hl 0 rfl) ?_
  refine r_get kc7 X h 55 6 (by decide) rfl pf (by decide) kv_390 rfl dX7_fitsCaster_44 ?_
  refine lv_iconst (v := 1) hx hb dX7_fitsCaster_47 (by decide) ?_
  refine lv_bipush (v := 9) hx hb dX7_fitsCaster_48 (by decide) ?_
  refine n_SNi (na := 3) (As := [.int d, .int 1, .int 9]) (rest := []) (host := "NoonShade") X hD hN h (c_within l G cI cB cZ cO ad w d (1 : Int32) (9 : Int32) ((d).toInt) 1 9 rfl rfl rfl) (by decide) kv_248 kv_212 kv_249 ⟨by decide, by decide, by decide⟩ ⟨Nat.le_of_ble_eq_true rfl, Nat.le_of_ble_eq_true rfl⟩ ⟨Nat.zero_le _, Nat.zero_le _⟩ rfl hl.1 rfl (Nat.le_of_ble_eq_true rfl) dX7_fitsCaster_50 (fun r1 w2 H locs hp3 h => ?_)
  obtain ⟨rfl, hq4⟩ := hp3
  rcases hq4 with ⟨hq5, hq6, rfl⟩ | ⟨hq4, rfl⟩
  · exact e_n X h hr hlk rfl dX7_fitsCaster_53 ⟨rfl, Or.inl ⟨by omega, rfl⟩⟩
  · exact e_n X h hr hlk rfl dX7_fitsCaster_53 ⟨rfl, Or.inr rfl⟩

set_option maxHeartbeats 4000000 in
set_option maxRecDepth 100000 in
theorem c_fitsCaster2 (l : Launch) (G : va_G) (cI cB cZ cO : ClassId) (ad : Nat → Nat) (w : Nat → va_E) (z a b c0 d : Int32) (ok : OK cI cB cZ cO ad w)   (pf : w 55 = .inr (5, [.ref (ad 56), .ref (ad 57), .int z, .int a, .int b, .int c0, .int d])) (hz1 : z.toInt ≤ 150) (hd0 : 0 ≤ d.toInt) (hd1 : d.toInt ≤ 99) : NI l G (tyq cI cB cZ cO) yX7_fitsCaster cX7_fitsCaster 2 (some .boolean) 0 0 74 ad w [.ref (ad 55), .int 2] (fun r w1 => w = w1 ∧ ((d.toInt ≤ 99 ∧ r = 1) ∨ r = 0)) := by
  refine nk_i (own := "NoonShade$Text") rfl (by decide) (Nat.le_of_ble_eq_true rfl) ?_
  intro p e s m below meth c ls X hD hN hr hlk h hl
  have hx := X.1.1
  have hb := X.1.2.1
  have hown := X.1.2.2.2.1
  have hts := X.1.2.2.2.2
  have hl : lv_has ls 2 [(0, .ref (ad 55)), (1, .int 2)] := hl
  refine lv_iload_n hx hb dX7_fitsCaster_0 rfl (lv_at hl 1 rfl) ?_
  refine lv_lookup (tgt := 54) (off := 53) hx hb dX7_fitsCaster_1 (by decide) rfl (by decide) ?_
  refine lv_aload_n hx hb dX7_fitsCaster_54 rfl (lv_at hl 0 rfl) ?_
  refine r_get kc7 X h 55 6 (by decide) rfl pf (by decide) kv_390 rfl dX7_fitsCaster_55 ?_
  refine lv_iconst (v := 4) hx hb dX7_fitsCaster_58 (by decide) ?_
  refine lv_icmp_ge (tgt := 66) hx hb dX7_fitsCaster_59 (by decide) (fun hc1 => ?_) (fun hc1 => ?_)
  · have hc1 : 4 ≤ (d).toInt := i_le hc1 rfl rfl
    refine lv_iconst (v := 0) hx hb dX7_fitsCaster_66 (by decide) ?_
    exact e_n X h hr hlk rfl dX7_fitsCaster_67 ⟨rfl, Or.inr rfl⟩
  · have hc1 : ¬ 4 ≤ (d).toInt := i_nle hc1 rfl rfl
    refine lv_iconst (v := 1) hx hb dX7_fitsCaster_62 (by decide) ?_
    refine lv_goto (tgt := 67) hx hb dX7_fitsCaster_63 (by decide) ?_
    exact e_n X h hr hlk rfl dX7_fitsCaster_67 ⟨rfl, Or.inl ⟨by omega, rfl⟩⟩

set_option maxHeartbeats 4000000 in
set_option maxRecDepth 100000 in
theorem c_fits00 (l : Launch) (G : va_G) (cI cB cZ cO : ClassId) (ad : Nat → Nat) (w : Nat → va_E) (z a b c0 d : Int32) (ok : OK cI cB cZ cO ad w)   (pf : w 55 = .inr (5, [.ref (ad 56), .ref (ad 57), .int z, .int a, .int b, .int c0, .int d])) (hz1 : z.toInt ≤ 150) (hd0 : 0 ≤ d.toInt) (hd1 : d.toInt ≤ 99) : NI l G (tyq cI cB cZ cO) yX7_fits cX7_fits 4 (some .boolean) 0 0 74 ad w [.ref (ad 55), .ref (ad 14), .int 0, .int 0] (fun r w1 => w = w1 ∧ ((d.toInt ≤ 99 ∧ r = 1) ∨ r = 0)) := by
  refine nk_i (own := "NoonShade$Text") rfl (by decide) (Nat.le_of_ble_eq_true rfl) ?_
  intro p e s m below meth c ls X hD hN hr hlk h hl
  have hx := X.1.1
  have hb := X.1.2.1
  have hown := X.1.2.2.2.1
  have hts := X.1.2.2.2.2
  have hl : lv_has ls 4 [(0, .ref (ad 55)), (1, .ref (ad 14)), (2, .int 0), (3, .int 0)] := hl
  refine lv_iload_n hx hb dX7_fits_0 rfl (lv_at hl 2 rfl) ?_
  refine lv_tableOut (tgt := 163) hx hb dX7_fits_1 (by decide) (by decide) ?_
  refine lv_iconst (v := 1) hx hb dX7_fits_163 (by decide) ?_
  exact e_n X h hr hlk rfl dX7_fits_164 ⟨rfl, Or.inl ⟨by omega, rfl⟩⟩

set_option maxHeartbeats 4000000 in
set_option maxRecDepth 100000 in
theorem c_fits10 (l : Launch) (G : va_G) (cI cB cZ cO : ClassId) (ad : Nat → Nat) (w : Nat → va_E) (z a b c0 d : Int32) (ok : OK cI cB cZ cO ad w)   (pf : w 55 = .inr (5, [.ref (ad 56), .ref (ad 57), .int z, .int a, .int b, .int c0, .int d])) (hz1 : z.toInt ≤ 150) (hd0 : 0 ≤ d.toInt) (hd1 : d.toInt ≤ 99) : NI l G (tyq cI cB cZ cO) yX7_fits cX7_fits 4 (some .boolean) 2 43 74 ad w [.ref (ad 55), .ref (ad 14), .int 1, .int 0] (fun r w1 => w = w1 ∧ ((d.toInt ≤ 99 ∧ r = 1) ∨ r = 0)) := by
  refine nk_i (own := "NoonShade$Text") rfl (by decide) (Nat.le_of_ble_eq_true rfl) ?_
  intro p e s m below meth c ls X hD hN hr hlk h hl
  have hx := X.1.1
  have hb := X.1.2.1
  have hown := X.1.2.2.2.1
  have hts := X.1.2.2.2.2
  have hl : lv_has ls 4 [(0, .ref (ad 55)), (1, .ref (ad 14)), (2, .int 1), (3, .int 0)] := hl
  refine lv_iload_n hx hb dX7_fits_0 rfl (lv_at hl 2 rfl) ?_
  refine lv_tableIn (tgt := 36) (off := 35) hx hb dX7_fits_1 (by decide) (by decide) (by decide) (by decide) ?_
  refine lv_aload_n hx hb dX7_fits_36 rfl (lv_at hl 0 rfl) ?_
  refine lv_iload_n hx hb dX7_fits_37 rfl (lv_at hl 3 rfl) ?_
  refine n_Vi (na := 1) (As := [.int 0]) (rest := []) X hD hN h rfl (c_fitsCaster l G cI cB cZ cO ad w z a b c0 d ok pf (by omega) (by omega) (by omega)) ⟨kv_405, kv_406, kv_407, kv_388, kv_408⟩ rfl ⟨by decide, by decide, by decide⟩ ⟨Nat.le_of_ble_eq_true rfl, Nat.le_of_ble_eq_true rfl⟩ ⟨Nat.zero_le _, Nat.zero_le _⟩ (by decide) pf rfl rfl hl.1 rfl (Nat.le_of_ble_eq_true rfl) dX7_fits_38 (fun r1 w2 H locs hp3 h => ?_)
  obtain ⟨rfl, hr4⟩ := hp3
  rcases hr4 with ⟨hq5, rfl⟩ | rfl
  · exact e_n X h hr hlk rfl dX7_fits_41 ⟨rfl, Or.inl ⟨by omega, rfl⟩⟩
  · exact e_n X h hr hlk rfl dX7_fits_41 ⟨rfl, Or.inr rfl⟩

set_option maxHeartbeats 4000000 in
set_option maxRecDepth 100000 in
theorem c_fits11 (l : Launch) (G : va_G) (cI cB cZ cO : ClassId) (ad : Nat → Nat) (w : Nat → va_E) (z a b c0 d : Int32) (ok : OK cI cB cZ cO ad w)   (pf : w 55 = .inr (5, [.ref (ad 56), .ref (ad 57), .int z, .int a, .int b, .int c0, .int d])) (hz1 : z.toInt ≤ 150) (hd0 : 0 ≤ d.toInt) (hd1 : d.toInt ≤ 99) : NI l G (tyq cI cB cZ cO) yX7_fits cX7_fits 4 (some .boolean) 2 43 74 ad w [.ref (ad 55), .ref (ad 14), .int 1, .int 1] (fun r w1 => w = w1 ∧ ((d.toInt ≤ 9 ∧ r = 1) ∨ r = 0)) := by
  refine nk_i (own := "NoonShade$Text") rfl (by decide) (Nat.le_of_ble_eq_true rfl) ?_
  intro p e s m below meth c ls X hD hN hr hlk h hl
  have hx := X.1.1
  have hb := X.1.2.1
  have hown := X.1.2.2.2.1
  have hts := X.1.2.2.2.2
  have hl : lv_has ls 4 [(0, .ref (ad 55)), (1, .ref (ad 14)), (2, .int 1), (3, .int 1)] := hl
  refine lv_iload_n hx hb dX7_fits_0 rfl (lv_at hl 2 rfl) ?_
  refine lv_tableIn (tgt := 36) (off := 35) hx hb dX7_fits_1 (by decide) (by decide) (by decide) (by decide) ?_
  refine lv_aload_n hx hb dX7_fits_36 rfl (lv_at hl 0 rfl) ?_
  refine lv_iload_n hx hb dX7_fits_37 rfl (lv_at hl 3 rfl) ?_
  refine n_Vi (na := 1) (As := [.int 1]) (rest := []) X hD hN h rfl (c_fitsCaster1 l G cI cB cZ cO ad w z a b c0 d ok pf (by omega) (by omega) (by omega)) ⟨kv_405, kv_406, kv_407, kv_388, kv_408⟩ rfl ⟨by decide, by decide, by decide⟩ ⟨Nat.le_of_ble_eq_true rfl, Nat.le_of_ble_eq_true rfl⟩ ⟨Nat.zero_le _, Nat.zero_le _⟩ (by decide) pf rfl rfl hl.1 rfl (Nat.le_of_ble_eq_true rfl) dX7_fits_38 (fun r1 w2 H locs hp3 h => ?_)
  obtain ⟨rfl, hr4⟩ := hp3
  rcases hr4 with ⟨hq5, rfl⟩ | rfl
  · exact e_n X h hr hlk rfl dX7_fits_41 ⟨rfl, Or.inl ⟨by omega, rfl⟩⟩
  · exact e_n X h hr hlk rfl dX7_fits_41 ⟨rfl, Or.inr rfl⟩

set_option maxHeartbeats 4000000 in
set_option maxRecDepth 100000 in
theorem c_fits12 (l : Launch) (G : va_G) (cI cB cZ cO : ClassId) (ad : Nat → Nat) (w : Nat → va_E) (z a b c0 d : Int32) (ok : OK cI cB cZ cO ad w)   (pf : w 55 = .inr (5, [.ref (ad 56), .ref (ad 57), .int z, .int a, .int b, .int c0, .int d])) (hz1 : z.toInt ≤ 150) (hd0 : 0 ≤ d.toInt) (hd1 : d.toInt ≤ 99) : NI l G (tyq cI cB cZ cO) yX7_fits cX7_fits 4 (some .boolean) 2 43 74 ad w [.ref (ad 55), .ref (ad 14), .int 1, .int 2] (fun r w1 => w = w1 ∧ ((d.toInt ≤ 99 ∧ r = 1) ∨ r = 0)) := by
  refine nk_i (own := "NoonShade$Text") rfl (by decide) (Nat.le_of_ble_eq_true rfl) ?_
  intro p e s m below meth c ls X hD hN hr hlk h hl
  have hx := X.1.1
  have hb := X.1.2.1
  have hown := X.1.2.2.2.1
  have hts := X.1.2.2.2.2
  have hl : lv_has ls 4 [(0, .ref (ad 55)), (1, .ref (ad 14)), (2, .int 1), (3, .int 2)] := hl
  refine lv_iload_n hx hb dX7_fits_0 rfl (lv_at hl 2 rfl) ?_
  refine lv_tableIn (tgt := 36) (off := 35) hx hb dX7_fits_1 (by decide) (by decide) (by decide) (by decide) ?_
  refine lv_aload_n hx hb dX7_fits_36 rfl (lv_at hl 0 rfl) ?_
  refine lv_iload_n hx hb dX7_fits_37 rfl (lv_at hl 3 rfl) ?_
  refine n_Vi (na := 1) (As := [.int 2]) (rest := []) X hD hN h rfl (c_fitsCaster2 l G cI cB cZ cO ad w z a b c0 d ok pf (by omega) (by omega) (by omega)) ⟨kv_405, kv_406, kv_407, kv_388, kv_408⟩ rfl ⟨by decide, by decide, by decide⟩ ⟨Nat.le_of_ble_eq_true rfl, Nat.le_of_ble_eq_true rfl⟩ ⟨Nat.zero_le _, Nat.zero_le _⟩ (by decide) pf rfl rfl hl.1 rfl (Nat.le_of_ble_eq_true rfl) dX7_fits_38 (fun r1 w2 H locs hp3 h => ?_)
  obtain ⟨rfl, hr4⟩ := hp3
  rcases hr4 with ⟨hq5, rfl⟩ | rfl
  · exact e_n X h hr hlk rfl dX7_fits_41 ⟨rfl, Or.inl ⟨by omega, rfl⟩⟩
  · exact e_n X h hr hlk rfl dX7_fits_41 ⟨rfl, Or.inr rfl⟩

set_option maxHeartbeats 4000000 in
set_option maxRecDepth 100000 in
theorem c_fits20 (l : Launch) (G : va_G) (cI cB cZ cO : ClassId) (ad : Nat → Nat) (w : Nat → va_E) (z a b c0 d : Int32) (ok : OK cI cB cZ cO ad w)   (pf : w 55 = .inr (5, [.ref (ad 56), .ref (ad 57), .int z, .int a, .int b, .int c0, .int d])) (hz1 : z.toInt ≤ 150) (hd0 : 0 ≤ d.toInt) (hd1 : d.toInt ≤ 99) : NI l G (tyq cI cB cZ cO) yX7_fits cX7_fits 4 (some .boolean) 0 0 74 ad w [.ref (ad 55), .ref (ad 14), .int 2, .int 0] (fun r w1 => w = w1 ∧ ((d.toInt ≤ 99 ∧ r = 1) ∨ r = 0)) := by
  refine nk_i (own := "NoonShade$Text") rfl (by decide) (Nat.le_of_ble_eq_true rfl) ?_
  intro p e s m below meth c ls X hD hN hr hlk h hl
  have hx := X.1.1
  have hb := X.1.2.1
  have hown := X.1.2.2.2.1
  have hts := X.1.2.2.2.2
  have hl : lv_has ls 4 [(0, .ref (ad 55)), (1, .ref (ad 14)), (2, .int 2), (3, .int 0)] := hl
  refine lv_iload_n hx hb dX7_fits_0 rfl (lv_at hl 2 rfl) ?_
  refine lv_tableIn (tgt := 42) (off := 41) hx hb dX7_fits_1 (by decide) (by decide) (by decide) (by decide) ?_
  refine lv_aload_n hx hb dX7_fits_42 rfl (lv_at hl 0 rfl) ?_
  refine r_get kc7 X h 55 6 (by decide) rfl pf (by decide) kv_390 rfl dX7_fits_43 ?_
  refine lv_bipush (v := 6) hx hb dX7_fits_46 (by decide) ?_
  refine lv_icmp_ge (tgt := 55) hx hb dX7_fits_48 (by decide) (fun hc1 => ?_) (fun hc1 => ?_)
  · have hc1 : 6 ≤ (d).toInt := i_le hc1 rfl rfl
    refine lv_iconst (v := 0) hx hb dX7_fits_55 (by decide) ?_
    exact e_n X h hr hlk rfl dX7_fits_56 ⟨rfl, Or.inr rfl⟩
  · have hc1 : ¬ 6 ≤ (d).toInt := i_nle hc1 rfl rfl
    refine lv_iconst (v := 1) hx hb dX7_fits_51 (by decide) ?_
    refine lv_goto (tgt := 56) hx hb dX7_fits_52 (by decide) ?_
    exact e_n X h hr hlk rfl dX7_fits_56 ⟨rfl, Or.inl ⟨by omega, rfl⟩⟩

set_option maxHeartbeats 4000000 in
set_option maxRecDepth 100000 in
theorem c_fits30 (l : Launch) (G : va_G) (cI cB cZ cO : ClassId) (ad : Nat → Nat) (w : Nat → va_E) (z a b c0 d : Int32) (ok : OK cI cB cZ cO ad w)   (pf : w 55 = .inr (5, [.ref (ad 56), .ref (ad 57), .int z, .int a, .int b, .int c0, .int d])) (hz1 : z.toInt ≤ 150) (hd0 : 0 ≤ d.toInt) (hd1 : d.toInt ≤ 99) : NI l G (tyq cI cB cZ cO) yX7_fits cX7_fits 4 (some .boolean) 1 21 74 ad w [.ref (ad 55), .ref (ad 14), .int 3, .int 0] (fun r w1 => w = w1 ∧ ((d.toInt ≤ 6 ∧ r = 1) ∨ r = 0)) := by
  refine nk_i (own := "NoonShade$Text") rfl (by decide) (Nat.le_of_ble_eq_true rfl) ?_
  intro p e s m below meth c ls X hD hN hr hlk h hl
  have hx := X.1.1
  have hb := X.1.2.1
  have hown := X.1.2.2.2.1
  have hts := X.1.2.2.2.2
  have hl : lv_has ls 4 [(0, .ref (ad 55)), (1, .ref (ad 14)), (2, .int 3), (3, .int 0)] := hl
  refine lv_iload_n hx hb dX7_fits_0 rfl (lv_at hl 2 rfl) ?_
  refine lv_tableIn (tgt := 57) (off := 56) hx hb dX7_fits_1 (by decide) (by decide) (by decide) (by decide) ?_
  refine lv_iload_n hx hb dX7_fits_57 rfl (lv_at hl 3 rfl) ?_
  refine lv_if_ne (tgt := 91) hx hb dX7_fits_58 (by decide) (fun hc => absurd (by decide) hc) (fun _ => ?_)
  refine lv_aload_n hx hb dX7_fits_61 rfl (lv_at hl 1 rfl) ?_
  refine lv_aload_n hx hb dX7_fits_62 rfl (lv_at hl 0 rfl) ?_
  refine r_get kc7 X h 55 6 (by decide) rfl pf (by decide) kv_390 rfl dX7_fits_63 ?_
  obtain ⟨q5, q6, q7, q8, q9, f4, h10, h11, h12, h13⟩ := (show sI ad 14 (w 14) from ok 14 (by decide))
  have f14 : w 14 = .inr (1, [.int q5, .int q6, .int q7, .int q8, .int q9, .ref (ad 15), .ref (ad 16), .ref (ad 17), .ref (ad 18), .ref (ad 19), .ref (ad 20), .ref (ad 21), .ref (ad 23), .ref (ad 25)]) := f4
  refine n_Vi (na := 1) (As := [.int d]) (rest := []) X hD hN h rfl (c_hasCaster l G cI cB cZ cO ad w 14 (Or.inr (Or.inl rfl)) ok d  ) ⟨kv_409, kv_220, kv_221, kv_37, kv_222⟩ rfl ⟨by decide, by decide, by decide⟩ ⟨Nat.le_of_ble_eq_true rfl, Nat.le_of_ble_eq_true rfl⟩ ⟨Nat.zero_le _, Nat.zero_le _⟩ (by decide) f14 rfl rfl hl.1 rfl (Nat.le_of_ble_eq_true rfl) dX7_fits_66 (fun r1 w2 H locs hp3 h => ?_)
  obtain ⟨rfl, hr15⟩ := hp3
  rcases hr15 with ⟨hq16, hq17, rfl⟩ | rfl
  · refine lv_if_eq (tgt := 87) hx hb dX7_fits_69 (by decide) (fun hc => absurd hc (by decide)) (fun _ => ?_)
    refine lv_aload_n hx hb dX7_fits_72 rfl (lv_at hl 1 rfl) ?_
    refine lv_aload_n hx hb dX7_fits_73 rfl (lv_at hl 0 rfl) ?_
    refine r_get kc7 X h 55 6 (by decide) rfl pf (by decide) kv_390 rfl dX7_fits_74 ?_
    refine n_Vi (na := 1) (As := [.int d]) (rest := []) X hD hN h rfl (c_isMilked l G cI cB cZ cO ad w 14 (Or.inr (Or.inl rfl)) ok d  ) ⟨kv_410, kv_35, kv_36, kv_37, kv_38⟩ rfl ⟨by decide, by decide, by decide⟩ ⟨Nat.le_of_ble_eq_true rfl, Nat.le_of_ble_eq_true rfl⟩ ⟨Nat.zero_le _, Nat.zero_le _⟩ (by decide) f14 rfl rfl hl.1 rfl (Nat.le_of_ble_eq_true rfl) dX7_fits_77 (fun r18 w19 H locs hp20 h => ?_)
    obtain ⟨rfl, hr21⟩ := hp20
    rcases hr21 with rfl | rfl
    · refine lv_if_ne (tgt := 87) hx hb dX7_fits_80 (by decide) (fun _ => ?_) (fun hc => absurd hc (by decide))
      refine lv_iconst (v := 0) hx hb dX7_fits_87 (by decide) ?_
      refine lv_goto (tgt := 99) hx hb dX7_fits_88 (by decide) ?_
      exact e_n X h hr hlk rfl dX7_fits_99 ⟨rfl, Or.inr rfl⟩
    · refine lv_if_ne (tgt := 87) hx hb dX7_fits_80 (by decide) (fun hc => absurd (by decide) hc) (fun _ => ?_)
      refine lv_iconst (v := 1) hx hb dX7_fits_83 (by decide) ?_
      refine lv_goto (tgt := 99) hx hb dX7_fits_84 (by decide) ?_
      exact e_n X h hr hlk rfl dX7_fits_99 ⟨rfl, Or.inl ⟨by omega, rfl⟩⟩
  · refine lv_if_eq (tgt := 87) hx hb dX7_fits_69 (by decide) (fun _ => ?_) (fun hc => absurd (by decide) hc)
    refine lv_iconst (v := 0) hx hb dX7_fits_87 (by decide) ?_
    refine lv_goto (tgt := 99) hx hb dX7_fits_88 (by decide) ?_
    exact e_n X h hr hlk rfl dX7_fits_99 ⟨rfl, Or.inr rfl⟩

set_option maxHeartbeats 4000000 in
set_option maxRecDepth 100000 in
theorem c_fits31 (l : Launch) (G : va_G) (cI cB cZ cO : ClassId) (ad : Nat → Nat) (w : Nat → va_E) (z a b c0 d : Int32) (ok : OK cI cB cZ cO ad w)   (pf : w 55 = .inr (5, [.ref (ad 56), .ref (ad 57), .int z, .int a, .int b, .int c0, .int d])) (hz1 : z.toInt ≤ 150) (hd0 : 0 ≤ d.toInt) (hd1 : d.toInt ≤ 99) : NI l G (tyq cI cB cZ cO) yX7_fits cX7_fits 4 (some .boolean) 1 21 74 ad w [.ref (ad 55), .ref (ad 14), .int 3, .int 1] (fun r w1 => w = w1 ∧ ((d.toInt ≤ 3 ∧ r = 1) ∨ r = 0)) := by
  refine nk_i (own := "NoonShade$Text") rfl (by decide) (Nat.le_of_ble_eq_true rfl) ?_
  intro p e s m below meth c ls X hD hN hr hlk h hl
  have hx := X.1.1
  have hb := X.1.2.1
  have hown := X.1.2.2.2.1
  have hts := X.1.2.2.2.2
  have hl : lv_has ls 4 [(0, .ref (ad 55)), (1, .ref (ad 14)), (2, .int 3), (3, .int 1)] := hl
  refine lv_iload_n hx hb dX7_fits_0 rfl (lv_at hl 2 rfl) ?_
  refine lv_tableIn (tgt := 57) (off := 56) hx hb dX7_fits_1 (by decide) (by decide) (by decide) (by decide) ?_
  refine lv_iload_n hx hb dX7_fits_57 rfl (lv_at hl 3 rfl) ?_
  refine lv_if_ne (tgt := 91) hx hb dX7_fits_58 (by decide) (fun _ => ?_) (fun hc => absurd hc (by decide))
  refine lv_aload_n hx hb dX7_fits_91 rfl (lv_at hl 1 rfl) ?_
  refine lv_aload_n hx hb dX7_fits_92 rfl (lv_at hl 0 rfl) ?_
  refine r_get kc7 X h 55 6 (by decide) rfl pf (by decide) kv_390 rfl dX7_fits_93 ?_
  obtain ⟨q5, q6, q7, q8, q9, f4, h10, h11, h12, h13⟩ := (show sI ad 14 (w 14) from ok 14 (by decide))
  have f14 : w 14 = .inr (1, [.int q5, .int q6, .int q7, .int q8, .int q9, .ref (ad 15), .ref (ad 16), .ref (ad 17), .ref (ad 18), .ref (ad 19), .ref (ad 20), .ref (ad 21), .ref (ad 23), .ref (ad 25)]) := f4
  refine n_Vi (na := 1) (As := [.int d]) (rest := []) X hD hN h rfl (c_hasJar l G cI cB cZ cO ad w 14 (Or.inr (Or.inl rfl)) ok d  ) ⟨kv_411, kv_224, kv_225, kv_37, kv_226⟩ rfl ⟨by decide, by decide, by decide⟩ ⟨Nat.le_of_ble_eq_true rfl, Nat.le_of_ble_eq_true rfl⟩ ⟨Nat.zero_le _, Nat.zero_le _⟩ (by decide) f14 rfl rfl hl.1 rfl (Nat.le_of_ble_eq_true rfl) dX7_fits_96 (fun r1 w2 H locs hp3 h => ?_)
  obtain ⟨rfl, hr15⟩ := hp3
  rcases hr15 with ⟨hq16, hq17, rfl⟩ | rfl
  · exact e_n X h hr hlk rfl dX7_fits_99 ⟨rfl, Or.inl ⟨by omega, rfl⟩⟩
  · exact e_n X h hr hlk rfl dX7_fits_99 ⟨rfl, Or.inr rfl⟩

set_option maxHeartbeats 4000000 in
set_option maxRecDepth 100000 in
theorem c_fits40 (l : Launch) (G : va_G) (cI cB cZ cO : ClassId) (ad : Nat → Nat) (w : Nat → va_E) (z a b c0 d : Int32) (ok : OK cI cB cZ cO ad w)   (pf : w 55 = .inr (5, [.ref (ad 56), .ref (ad 57), .int z, .int a, .int b, .int c0, .int d])) (hz1 : z.toInt ≤ 150) (hd0 : 0 ≤ d.toInt) (hd1 : d.toInt ≤ 99) : NI l G (tyq cI cB cZ cO) yX7_fits cX7_fits 4 (some .boolean) 1 21 74 ad w [.ref (ad 55), .ref (ad 14), .int 4, .int 0] (fun r w1 => w = w1 ∧ ((d.toInt ≤ 3 ∧ r = 1) ∨ r = 0)) := by
  refine nk_i (own := "NoonShade$Text") rfl (by decide) (Nat.le_of_ble_eq_true rfl) ?_
  intro p e s m below meth c ls X hD hN hr hlk h hl
  have hx := X.1.1
  have hb := X.1.2.1
  have hown := X.1.2.2.2.1
  have hts := X.1.2.2.2.2
  have hl : lv_has ls 4 [(0, .ref (ad 55)), (1, .ref (ad 14)), (2, .int 4), (3, .int 0)] := hl
  refine lv_iload_n hx hb dX7_fits_0 rfl (lv_at hl 2 rfl) ?_
  refine lv_tableIn (tgt := 100) (off := 99) hx hb dX7_fits_1 (by decide) (by decide) (by decide) (by decide) ?_
  refine lv_aload_n hx hb dX7_fits_100 rfl (lv_at hl 1 rfl) ?_
  refine lv_aload_n hx hb dX7_fits_101 rfl (lv_at hl 0 rfl) ?_
  refine r_get kc7 X h 55 6 (by decide) rfl pf (by decide) kv_390 rfl dX7_fits_102 ?_
  obtain ⟨q5, q6, q7, q8, q9, f4, h10, h11, h12, h13⟩ := (show sI ad 14 (w 14) from ok 14 (by decide))
  have f14 : w 14 = .inr (1, [.int q5, .int q6, .int q7, .int q8, .int q9, .ref (ad 15), .ref (ad 16), .ref (ad 17), .ref (ad 18), .ref (ad 19), .ref (ad 20), .ref (ad 21), .ref (ad 23), .ref (ad 25)]) := f4
  refine n_Vi (na := 1) (As := [.int d]) (rest := []) X hD hN h rfl (c_hasJar l G cI cB cZ cO ad w 14 (Or.inr (Or.inl rfl)) ok d  ) ⟨kv_411, kv_224, kv_225, kv_37, kv_226⟩ rfl ⟨by decide, by decide, by decide⟩ ⟨Nat.le_of_ble_eq_true rfl, Nat.le_of_ble_eq_true rfl⟩ ⟨Nat.zero_le _, Nat.zero_le _⟩ (by decide) f14 rfl rfl hl.1 rfl (Nat.le_of_ble_eq_true rfl) dX7_fits_105 (fun r1 w2 H locs hp3 h => ?_)
  obtain ⟨rfl, hr15⟩ := hp3
  rcases hr15 with ⟨hq16, hq17, rfl⟩ | rfl
  · refine lv_if_eq (tgt := 147) hx hb dX7_fits_108 (by decide) (fun hc => absurd hc (by decide)) (fun _ => ?_)
    refine lv_iload_n hx hb dX7_fits_111 rfl (lv_at hl 3 rfl) ?_
    refine lv_if_ne (tgt := 130) hx hb dX7_fits_112 (by decide) (fun hc => absurd (by decide) hc) (fun _ => ?_)
    refine lv_aload_n hx hb dX7_fits_115 rfl (lv_at hl 1 rfl) ?_
    refine r_get kc2 X h 14 9 (by decide) rfl f14 (by decide) kv_412 rfl dX7_fits_116 ?_
    refine lv_aload_n hx hb dX7_fits_119 rfl (lv_at hl 0 rfl) ?_
    refine r_get kc7 X h 55 6 (by decide) rfl pf (by decide) kv_390 rfl dX7_fits_120 ?_
    obtain ⟨g19, f18, p20⟩ := (show sA cI 4 (rgA 0 60) (w 19) from ok 19 (by decide))
    have f21 : w 19 = .inl (cI, 4, .inl g19) := f18
    obtain ⟨v22, e23⟩ : ∃ z : Int32, g19 (d).toNatClampNeg = z := ⟨_, rfl⟩
    have h24 := rgA_rd p20 e23
    refine o_iald (v := v22) X h 19 0 (by decide) rfl f21 rfl (in_of (by omega) (by omega)) e23 dX7_fits_123 ?_
    refine lv_if_le (tgt := 147) hx hb dX7_fits_124 (by decide) (fun hc25 => ?_) (fun hc25 => ?_)
    · have hc25 : (v22).toInt ≤ 0 := i_le hc25 rfl rfl
      refine lv_iconst (v := 0) hx hb dX7_fits_147 (by decide) ?_
      exact e_n X h hr hlk rfl dX7_fits_148 ⟨rfl, Or.inr rfl⟩
    · have hc25 : ¬ (v22).toInt ≤ 0 := i_nle hc25 rfl rfl
      refine lv_goto (tgt := 143) hx hb dX7_fits_127 (by decide) ?_
      refine lv_iconst (v := 1) hx hb dX7_fits_143 (by decide) ?_
      refine lv_goto (tgt := 148) hx hb dX7_fits_144 (by decide) ?_
      exact e_n X h hr hlk rfl dX7_fits_148 ⟨rfl, Or.inl ⟨by omega, rfl⟩⟩
  · refine lv_if_eq (tgt := 147) hx hb dX7_fits_108 (by decide) (fun _ => ?_) (fun hc => absurd (by decide) hc)
    refine lv_iconst (v := 0) hx hb dX7_fits_147 (by decide) ?_
    exact e_n X h hr hlk rfl dX7_fits_148 ⟨rfl, Or.inr rfl⟩

set_option maxHeartbeats 4000000 in
set_option maxRecDepth 100000 in
theorem c_fits41 (l : Launch) (G : va_G) (cI cB cZ cO : ClassId) (ad : Nat → Nat) (w : Nat → va_E) (z a b c0 d : Int32) (ok : OK cI cB cZ cO ad w)   (pf : w 55 = .inr (5, [.ref (ad 56), .ref (ad 57), .int z, .int a, .int b, .int c0, .int d])) (hz1 : z.toInt ≤ 150) (hd0 : 0 ≤ d.toInt) (hd1 : d.toInt ≤ 99) : NI l G (tyq cI cB cZ cO) yX7_fits cX7_fits 4 (some .boolean) 1 21 74 ad w [.ref (ad 55), .ref (ad 14), .int 4, .int 1] (fun r w1 => w = w1 ∧ ((d.toInt ≤ 3 ∧ r = 1) ∨ r = 0)) := by
  refine nk_i (own := "NoonShade$Text") rfl (by decide) (Nat.le_of_ble_eq_true rfl) ?_
  intro p e s m below meth c ls X hD hN hr hlk h hl
  have hx := X.1.1
  have hb := X.1.2.1
  have hown := X.1.2.2.2.1
  have hts := X.1.2.2.2.2
  have hl : lv_has ls 4 [(0, .ref (ad 55)), (1, .ref (ad 14)), (2, .int 4), (3, .int 1)] := hl
  refine lv_iload_n hx hb dX7_fits_0 rfl (lv_at hl 2 rfl) ?_
  refine lv_tableIn (tgt := 100) (off := 99) hx hb dX7_fits_1 (by decide) (by decide) (by decide) (by decide) ?_
  refine lv_aload_n hx hb dX7_fits_100 rfl (lv_at hl 1 rfl) ?_
  refine lv_aload_n hx hb dX7_fits_101 rfl (lv_at hl 0 rfl) ?_
  refine r_get kc7 X h 55 6 (by decide) rfl pf (by decide) kv_390 rfl dX7_fits_102 ?_
  obtain ⟨q5, q6, q7, q8, q9, f4, h10, h11, h12, h13⟩ := (show sI ad 14 (w 14) from ok 14 (by decide))
  have f14 : w 14 = .inr (1, [.int q5, .int q6, .int q7, .int q8, .int q9, .ref (ad 15), .ref (ad 16), .ref (ad 17), .ref (ad 18), .ref (ad 19), .ref (ad 20), .ref (ad 21), .ref (ad 23), .ref (ad 25)]) := f4
  refine n_Vi (na := 1) (As := [.int d]) (rest := []) X hD hN h rfl (c_hasJar l G cI cB cZ cO ad w 14 (Or.inr (Or.inl rfl)) ok d  ) ⟨kv_411, kv_224, kv_225, kv_37, kv_226⟩ rfl ⟨by decide, by decide, by decide⟩ ⟨Nat.le_of_ble_eq_true rfl, Nat.le_of_ble_eq_true rfl⟩ ⟨Nat.zero_le _, Nat.zero_le _⟩ (by decide) f14 rfl rfl hl.1 rfl (Nat.le_of_ble_eq_true rfl) dX7_fits_105 (fun r1 w2 H locs hp3 h => ?_)
  obtain ⟨rfl, hr15⟩ := hp3
  rcases hr15 with ⟨hq16, hq17, rfl⟩ | rfl
  · refine lv_if_eq (tgt := 147) hx hb dX7_fits_108 (by decide) (fun hc => absurd hc (by decide)) (fun _ => ?_)
    refine lv_iload_n hx hb dX7_fits_111 rfl (lv_at hl 3 rfl) ?_
    refine lv_if_ne (tgt := 130) hx hb dX7_fits_112 (by decide) (fun _ => ?_) (fun hc => absurd hc (by decide))
    refine lv_aload_n hx hb dX7_fits_130 rfl (lv_at hl 0 rfl) ?_
    refine r_get kc7 X h 55 6 (by decide) rfl pf (by decide) kv_390 rfl dX7_fits_131 ?_
    refine lv_aload_n hx hb dX7_fits_134 rfl (lv_at hl 0 rfl) ?_
    refine r_get kc7 X h 55 1 (by decide) rfl pf (by decide) kv_413 rfl dX7_fits_135 ?_
    refine lv_iconst (v := 0) hx hb dX7_fits_138 (by decide) ?_
    obtain ⟨g19, f18, p20⟩ := (show sA cI 3 (rgA 0 99) (w 57) from ok 57 (by decide))
    have f21 : w 57 = .inl (cI, 3, .inl g19) := f18
    obtain ⟨v22, e23⟩ : ∃ z : Int32, g19 0 = z := ⟨_, rfl⟩
    have h24 := rgA_rd p20 e23
    refine o_iald (v := v22) X h 57 0 (by decide) rfl f21 rfl (by unfold vp_in; decide) e23 dX7_fits_139 ?_
    refine lv_icmp_eq (tgt := 147) hx hb dX7_fits_140 (by decide) (fun hc25 => ?_) (fun hc25 => ?_)
    · have hc25 : (d).toInt = (v22).toInt := i_eq hc25 rfl rfl
      refine lv_iconst (v := 0) hx hb dX7_fits_147 (by decide) ?_
      exact e_n X h hr hlk rfl dX7_fits_148 ⟨rfl, Or.inr rfl⟩
    · have hc25 : ¬ (d).toInt = (v22).toInt := i_ne hc25 rfl rfl
      refine lv_iconst (v := 1) hx hb dX7_fits_143 (by decide) ?_
      refine lv_goto (tgt := 148) hx hb dX7_fits_144 (by decide) ?_
      exact e_n X h hr hlk rfl dX7_fits_148 ⟨rfl, Or.inl ⟨by omega, rfl⟩⟩
  · refine lv_if_eq (tgt := 147) hx hb dX7_fits_108 (by decide) (fun _ => ?_) (fun hc => absurd (by decide) hc)
    refine lv_iconst (v := 0) hx hb dX7_fits_147 (by decide) ?_
    exact e_n X h hr hlk rfl dX7_fits_148 ⟨rfl, Or.inr rfl⟩

set_option maxHeartbeats 4000000 in
set_option maxRecDepth 100000 in
theorem c_fits50 (l : Launch) (G : va_G) (cI cB cZ cO : ClassId) (ad : Nat → Nat) (w : Nat → va_E) (z a b c0 d : Int32) (ok : OK cI cB cZ cO ad w)   (pf : w 55 = .inr (5, [.ref (ad 56), .ref (ad 57), .int z, .int a, .int b, .int c0, .int d])) (hz1 : z.toInt ≤ 150) (hd0 : 0 ≤ d.toInt) (hd1 : d.toInt ≤ 99) : NI l G (tyq cI cB cZ cO) yX7_fits cX7_fits 4 (some .boolean) 0 0 74 ad w [.ref (ad 55), .ref (ad 14), .int 5, .int 0] (fun r w1 => w = w1 ∧ ((d.toInt ≤ 99 ∧ r = 1) ∨ r = 0)) := by
  refine nk_i (own := "NoonShade$Text") rfl (by decide) (Nat.le_of_ble_eq_true rfl) ?_
  intro p e s m below meth c ls X hD hN hr hlk h hl
  have hx := X.1.1
  have hb := X.1.2.1
  have hown := X.1.2.2.2.1
  have hts := X.1.2.2.2.2
  have hl : lv_has ls 4 [(0, .ref (ad 55)), (1, .ref (ad 14)), (2, .int 5), (3, .int 0)] := hl
  refine lv_iload_n hx hb dX7_fits_0 rfl (lv_at hl 2 rfl) ?_
  refine lv_tableIn (tgt := 149) (off := 148) hx hb dX7_fits_1 (by decide) (by decide) (by decide) (by decide) ?_
  refine lv_aload_n hx hb dX7_fits_149 rfl (lv_at hl 0 rfl) ?_
  refine r_get kc7 X h 55 6 (by decide) rfl pf (by decide) kv_390 rfl dX7_fits_150 ?_
  refine lv_iconst (v := 1) hx hb dX7_fits_153 (by decide) ?_
  refine lv_icmp_lt (tgt := 161) hx hb dX7_fits_154 (by decide) (fun hc1 => ?_) (fun hc1 => ?_)
  · have hc1 : (d).toInt < 1 := i_lt hc1 rfl rfl
    refine lv_iconst (v := 0) hx hb dX7_fits_161 (by decide) ?_
    exact e_n X h hr hlk rfl dX7_fits_162 ⟨rfl, Or.inr rfl⟩
  · have hc1 : ¬ (d).toInt < 1 := i_nlt hc1 rfl rfl
    refine lv_iconst (v := 1) hx hb dX7_fits_157 (by decide) ?_
    refine lv_goto (tgt := 162) hx hb dX7_fits_158 (by decide) ?_
    exact e_n X h hr hlk rfl dX7_fits_162 ⟨rfl, Or.inl ⟨by omega, rfl⟩⟩

set_option maxHeartbeats 4000000 in
set_option maxRecDepth 100000 in
theorem c_takeNumbers0 (l : Launch) (G : va_G) (cI cB cZ cO : ClassId) (ad : Nat → Nat) (w : Nat → va_E) (z a b c0 d : Int32) (ok : OK cI cB cZ cO ad w)   (pf : w 55 = .inr (5, [.ref (ad 56), .ref (ad 57), .int z, .int a, .int b, .int c0, .int d])) (hz1 : z.toInt ≤ 150) (hb0 : 0 ≤ b.toInt) (hbz : b.toInt ≤ z.toInt) (hd0 : 0 ≤ d.toInt) (hd1 : d.toInt ≤ 99) : NI l G (tyq cI cB cZ cO) yX7_takeNumbers cX7_takeNumbers 5 (some .boolean) 3 66 74 ad w [.ref (ad 55), .ref (ad 14), .int 0] (fun r w1 => OK cI cB cZ cO ad w1 ∧ KX w w1 ∧ (∃ a1 b1 c1 d1 : Int32, w1 55 = .inr (5, [.ref (ad 56), .ref (ad 57), .int z, .int a1, .int b1, .int c1, .int d1]) ∧ 0 ≤ a1.toInt ∧ a1.toInt ≤ b1.toInt ∧ b1.toInt ≤ z.toInt) ∧ ((∃ f : Nat → Int32, w1 57 = .inl (cI, 3, .inl f) ∧ True) ∧ r = 1 ∨ r = 0)) := by
  refine nk_i (own := "NoonShade$Text") rfl (by decide) (Nat.le_of_ble_eq_true rfl) ?_
  intro p e s m below meth c ls X hD hN hr hlk h hl
  have hx := X.1.1
  have hb := X.1.2.1
  have hown := X.1.2.2.2.1
  have hts := X.1.2.2.2.2
  have hl : lv_has ls 5 [(0, .ref (ad 55)), (1, .ref (ad 14)), (2, .int 0)] := hl
  refine lv_iload_n hx hb dX7_takeNumbers_0 rfl (lv_at hl 2 rfl) ?_
  refine n_Si (na := 1) (As := [.int 0]) (rest := []) X hD hN h (c_numbersOf0 l G cI cB cZ cO ad w) ⟨kv_414, kv_415, kv_388, kv_416⟩ ⟨by decide, by decide, by decide⟩ ⟨Nat.le_of_ble_eq_true rfl, Nat.le_of_ble_eq_true rfl⟩ ⟨Nat.zero_le _, Nat.zero_le _⟩ rfl hl.1 rfl (Nat.le_of_ble_eq_true rfl) dX7_takeNumbers_1 (fun r1 w2 H locs hp3 h => ?_)
  obtain ⟨rfl, h4⟩ := hp3
  subst h4
  refine lv_istore_n (lv' := [(3, .int 1), (0, .ref (ad 55)), (1, .ref (ad 14)), (2, .int 0)]) hx hb dX7_takeNumbers_4 rfl hl (by decide) rfl (fun ls hl => ?_)
  refine lv_iconst (v := 0) hx hb dX7_takeNumbers_5 (by decide) ?_
  refine lv_istore (lv' := [(4, .int 0), (3, .int 1), (0, .ref (ad 55)), (1, .ref (ad 14)), (2, .int 0)]) hx hb dX7_takeNumbers_6 hl (by decide) rfl (fun ls hl => ?_)
  refine lv_iload hx hb dX7_takeNumbers_8 (lv_at hl 0 rfl) ?_
  refine lv_iload_n hx hb dX7_takeNumbers_10 rfl (lv_at hl 1 rfl) ?_
  refine lv_icmp_ge (tgt := 66) hx hb dX7_takeNumbers_11 (by decide) (fun hc => absurd hc (by decide)) (fun _ => ?_)
  refine lv_iload hx hb dX7_takeNumbers_14 (lv_at hl 0 rfl) ?_
  refine lv_aload_n hx hb dX7_takeNumbers_16 rfl (lv_at hl 2 rfl) ?_
  refine r_get kc7 X h 55 1 (by decide) rfl pf (by decide) kv_413 rfl dX7_takeNumbers_17 ?_
  obtain ⟨g6, f5, p7⟩ := (show sA cI 3 (rgA 0 99) (w 57) from ok 57 (by decide))
  have f8 : w 57 = .inl (cI, 3, .inl g6) := f5
  refine r_alen X h (v := 3) 57 0 (by decide) rfl f8 rfl rfl dX7_takeNumbers_20 ?_
  refine lv_icmp_ge (tgt := 66) hx hb dX7_takeNumbers_21 (by decide) (fun hc => absurd hc (by decide)) (fun _ => ?_)
  refine lv_aload_n hx hb dX7_takeNumbers_24 rfl (lv_at hl 2 rfl) ?_
  refine n_Vv (na := 0) (As := []) (rest := []) X hD hN h rfl (c_step l G cI cB cZ cO ad w z a b c0 d ok pf (by first | omega | decide | (simp only [k00]; omega)) (by first | omega | decide | (simp only [k00]; omega)) (by first | omega | decide | (simp only [k00]; omega)) (by first | omega | decide | (simp only [k00]; omega)) (by first | omega | decide | (simp only [k00]; omega))) ⟨kv_417, kv_418, kv_419, kv_388, kv_420⟩ rfl ⟨by decide, by decide, by decide⟩ ⟨Nat.le_of_ble_eq_true rfl, Nat.le_of_ble_eq_true rfl⟩ ⟨Nat.zero_le _, Nat.zero_le _⟩ (by decide) pf rfl rfl hl.1 rfl (Nat.le_of_ble_eq_true rfl) dX7_takeNumbers_25 (fun w10 H locs hp11 h => ?_)
  obtain ⟨ok12, kk13, hr14⟩ := hp11
  obtain ⟨y15, y16, y17, y18, h19, h20, h21, h22⟩ := hr14
  have q23 : 0 ≤ y18.toInt ∧ y18.toInt ≤ 99 := txd ok12 h19
  have kx24 : KX w w10 := KX.tr KX.rf (F5.x kk13 pf h19)
  refine lv_aload_n hx hb dX7_takeNumbers_28 rfl (lv_at hl 2 rfl) ?_
  refine r_get kc7 X h 55 5 (by decide) rfl h19 (by decide) kv_392 rfl dX7_takeNumbers_29 ?_
  refine lv_iconst (v := 2) hx hb dX7_takeNumbers_32 (by decide) ?_
  refine lv_icmp_ne (tgt := 47) hx hb dX7_takeNumbers_33 (by decide) (fun hc25 => ?_) (fun hc25 => ?_)
  · have hc25 : ¬ (y17).toInt = 2 := i_ne hc25 rfl rfl
    refine lv_iconst (v := 0) hx hb dX7_takeNumbers_47 (by decide) ?_
    exact e_n X h hr hlk rfl dX7_takeNumbers_48 ⟨ok12, kx24, ⟨⟨_, _, _, _, h19, by omega, by omega, by omega⟩, Or.inr rfl⟩⟩
  · have hc25 : (y17).toInt = 2 := i_eq hc25 rfl rfl
    refine lv_aload_n hx hb dX7_takeNumbers_36 rfl (lv_at hl 2 rfl) ?_
    refine lv_aload_n hx hb dX7_takeNumbers_37 rfl (lv_at hl 3 rfl) ?_
    refine lv_iload_n hx hb dX7_takeNumbers_38 rfl (lv_at hl 4 rfl) ?_
    refine lv_iload hx hb dX7_takeNumbers_39 (lv_at hl 0 rfl) ?_
    refine n_Vi (na := 3) (As := [.ref (ad 14), .int 0, .int 0]) (rest := []) X hD hN h rfl (c_fits00 l G cI cB cZ cO ad w10 z y15 y16 y17 y18 ok12 h19 (by omega) (by omega) (by omega)) ⟨kv_421, kv_422, kv_423, kv_388, kv_424⟩ rfl ⟨by decide, by decide, by decide⟩ ⟨Nat.le_of_ble_eq_true rfl, Nat.le_of_ble_eq_true rfl⟩ ⟨Nat.zero_le _, Nat.zero_le _⟩ (by decide) h19 rfl rfl hl.1 rfl (Nat.le_of_ble_eq_true rfl) dX7_takeNumbers_41 (fun r26 w27 H locs hp28 h => ?_)
    obtain ⟨rfl, hr29⟩ := hp28
    rcases hr29 with ⟨hq30, rfl⟩ | rfl
    · refine lv_if_ne (tgt := 49) hx hb dX7_takeNumbers_44 (by decide) (fun _ => ?_) (fun hc => absurd hc (by decide))
      refine lv_aload_n hx hb dX7_takeNumbers_49 rfl (lv_at hl 2 rfl) ?_
      refine r_get kc7 X h 55 1 (by decide) rfl h19 (by decide) kv_413 rfl dX7_takeNumbers_50 ?_
      refine lv_iload hx hb dX7_takeNumbers_53 (lv_at hl 0 rfl) ?_
      refine lv_aload_n hx hb dX7_takeNumbers_55 rfl (lv_at hl 2 rfl) ?_
      refine r_get kc7 X h 55 6 (by decide) rfl h19 (by decide) kv_390 rfl dX7_takeNumbers_56 ?_
      have f31 : w10 57 = .inl (cI, 3, .inl g6) := (kk13 57 (by decide)).trans f8
      obtain ⟨g32, e33⟩ : ∃ z : Nat → Int32, upd g6 0 y18 = z := ⟨_, rfl⟩
      have p34 : rgA 0 99 g32 := rgA_upd p7 e33 (by omega) (by omega)
      refine o_iast (f1 := g32) X hD h 57 0 (by decide) rfl f31 rfl (by unfold vp_in; decide) e33 dX7_takeNumbers_59 (fun H locs w35 e36 h => ?_)
      have f37 : w35 57 = .inl (cI, 3, .inl g32) := (congrFun e36 _).trans (va_up_self _ _ _)
      have ok38 : OK cI cB cZ cO ad w35 := OK.up ok12 e36 (sA_mk p34)
      have kx39 : KX w w35 := KX.up kx24 e36 f31 rfl
      refine lv_iinc (v := 1) (lv' := [(4, .int 1), (3, .int 1), (0, .ref (ad 55)), (1, .ref (ad 14)), (2, .int 0)]) hx hb dX7_takeNumbers_60 hl (k := 0) rfl rfl (by decide) rfl (fun ls hl => ?_)
      refine lv_goto (tgt := 8) hx hb dX7_takeNumbers_63 (by decide) ?_
      refine lv_iload hx hb dX7_takeNumbers_8 (lv_at hl 0 rfl) ?_
      refine lv_iload_n hx hb dX7_takeNumbers_10 rfl (lv_at hl 1 rfl) ?_
      refine lv_icmp_ge (tgt := 66) hx hb dX7_takeNumbers_11 (by decide) (fun _ => ?_) (fun hc => absurd (by decide) hc)
      refine lv_aload_n hx hb dX7_takeNumbers_66 rfl (lv_at hl 2 rfl) ?_
      have f40 : w35 55 = .inr (5, [.ref (ad 56), .ref (ad 57), .int z, .int y15, .int y16, .int y17, .int y18]) := by rw [e36, va_up_ne _ _ (by decide)]; exact h19
      refine n_Vv (na := 0) (As := []) (rest := []) X hD hN h rfl (c_step l G cI cB cZ cO ad w35 z y15 y16 y17 y18 ok38 f40 (by first | omega | decide | (simp only [k00]; omega)) (by first | omega | decide | (simp only [k00]; omega)) (by first | omega | decide | (simp only [k00]; omega)) (by first | omega | decide | (simp only [k00]; omega)) (by first | omega | decide | (simp only [k00]; omega))) ⟨kv_417, kv_418, kv_419, kv_388, kv_420⟩ rfl ⟨by decide, by decide, by decide⟩ ⟨Nat.le_of_ble_eq_true rfl, Nat.le_of_ble_eq_true rfl⟩ ⟨Nat.zero_le _, Nat.zero_le _⟩ (by decide) f40 rfl rfl hl.1 rfl (Nat.le_of_ble_eq_true rfl) dX7_takeNumbers_67 (fun w42 H locs hp43 h => ?_)
      obtain ⟨ok44, kk45, hr46⟩ := hp43
      obtain ⟨y47, y48, y49, y50, h51, h52, h53, h54⟩ := hr46
      have q55 : 0 ≤ y50.toInt ∧ y50.toInt ≤ 99 := txd ok44 h51
      have kx56 : KX w w42 := KX.tr kx39 (F5.x kk45 f40 h51)
      refine lv_aload_n hx hb dX7_takeNumbers_70 rfl (lv_at hl 2 rfl) ?_
      refine r_get kc7 X h 55 5 (by decide) rfl h51 (by decide) kv_392 rfl dX7_takeNumbers_71 ?_
      refine lv_iconst (v := 3) hx hb dX7_takeNumbers_74 (by decide) ?_
      refine lv_icmp_ne (tgt := 82) hx hb dX7_takeNumbers_75 (by decide) (fun hc57 => ?_) (fun hc57 => ?_)
      · have hc57 : ¬ (y49).toInt = 3 := i_ne hc57 rfl rfl
        refine lv_iconst (v := 0) hx hb dX7_takeNumbers_82 (by decide) ?_
        exact e_n X h hr hlk rfl dX7_takeNumbers_83 ⟨ok44, kx56, ⟨⟨_, _, _, _, h51, by omega, by omega, by omega⟩, Or.inr rfl⟩⟩
      · have hc57 : (y49).toInt = 3 := i_eq hc57 rfl rfl
        refine lv_iconst (v := 1) hx hb dX7_takeNumbers_78 (by decide) ?_
        refine lv_goto (tgt := 83) hx hb dX7_takeNumbers_79 (by decide) ?_
        have f58 : w42 57 = .inl (cI, 3, .inl g32) := (kk45 57 (by decide)).trans f37
        exact e_n X h hr hlk rfl dX7_takeNumbers_83 ⟨ok44, kx56, ⟨⟨_, _, _, _, h51, by omega, by omega, by omega⟩, Or.inl ⟨⟨g32, f58, trivial⟩, rfl⟩⟩⟩
    · refine lv_if_ne (tgt := 49) hx hb dX7_takeNumbers_44 (by decide) (fun hc => absurd (by decide) hc) (fun _ => ?_)
      refine lv_iconst (v := 0) hx hb dX7_takeNumbers_47 (by decide) ?_
      exact e_n X h hr hlk rfl dX7_takeNumbers_48 ⟨ok12, kx24, ⟨⟨_, _, _, _, h19, by omega, by omega, by omega⟩, Or.inr rfl⟩⟩

set_option maxHeartbeats 4000000 in
set_option maxRecDepth 100000 in
theorem c_takeNumbers1 (l : Launch) (G : va_G) (cI cB cZ cO : ClassId) (ad : Nat → Nat) (w : Nat → va_E) (z a b c0 d : Int32) (ok : OK cI cB cZ cO ad w)   (pf : w 55 = .inr (5, [.ref (ad 56), .ref (ad 57), .int z, .int a, .int b, .int c0, .int d])) (hz1 : z.toInt ≤ 150) (hb0 : 0 ≤ b.toInt) (hbz : b.toInt ≤ z.toInt) (hd0 : 0 ≤ d.toInt) (hd1 : d.toInt ≤ 99) : NI l G (tyq cI cB cZ cO) yX7_takeNumbers cX7_takeNumbers 5 (some .boolean) 3 66 74 ad w [.ref (ad 55), .ref (ad 14), .int 1] (fun r w1 => OK cI cB cZ cO ad w1 ∧ KX w w1 ∧ (∃ a1 b1 c1 d1 : Int32, w1 55 = .inr (5, [.ref (ad 56), .ref (ad 57), .int z, .int a1, .int b1, .int c1, .int d1]) ∧ 0 ≤ a1.toInt ∧ a1.toInt ≤ b1.toInt ∧ b1.toInt ≤ z.toInt) ∧ ((∃ f : Nat → Int32, w1 57 = .inl (cI, 3, .inl f) ∧ (f 1).toInt ≤ 9) ∧ r = 1 ∨ r = 0)) := by
  refine nk_i (own := "NoonShade$Text") rfl (by decide) (Nat.le_of_ble_eq_true rfl) ?_
  intro p e s m below meth c ls X hD hN hr hlk h hl
  have hx := X.1.1
  have hb := X.1.2.1
  have hown := X.1.2.2.2.1
  have hts := X.1.2.2.2.2
  have hl : lv_has ls 5 [(0, .ref (ad 55)), (1, .ref (ad 14)), (2, .int 1)] := hl
  refine lv_iload_n hx hb dX7_takeNumbers_0 rfl (lv_at hl 2 rfl) ?_
  refine n_Si (na := 1) (As := [.int 1]) (rest := []) X hD hN h (c_numbersOf1 l G cI cB cZ cO ad w) ⟨kv_414, kv_415, kv_388, kv_416⟩ ⟨by decide, by decide, by decide⟩ ⟨Nat.le_of_ble_eq_true rfl, Nat.le_of_ble_eq_true rfl⟩ ⟨Nat.zero_le _, Nat.zero_le _⟩ rfl hl.1 rfl (Nat.le_of_ble_eq_true rfl) dX7_takeNumbers_1 (fun r1 w2 H locs hp3 h => ?_)
  obtain ⟨rfl, h4⟩ := hp3
  subst h4
  refine lv_istore_n (lv' := [(3, .int 3), (0, .ref (ad 55)), (1, .ref (ad 14)), (2, .int 1)]) hx hb dX7_takeNumbers_4 rfl hl (by decide) rfl (fun ls hl => ?_)
  refine lv_iconst (v := 0) hx hb dX7_takeNumbers_5 (by decide) ?_
  refine lv_istore (lv' := [(4, .int 0), (3, .int 3), (0, .ref (ad 55)), (1, .ref (ad 14)), (2, .int 1)]) hx hb dX7_takeNumbers_6 hl (by decide) rfl (fun ls hl => ?_)
  refine lv_iload hx hb dX7_takeNumbers_8 (lv_at hl 0 rfl) ?_
  refine lv_iload_n hx hb dX7_takeNumbers_10 rfl (lv_at hl 1 rfl) ?_
  refine lv_icmp_ge (tgt := 66) hx hb dX7_takeNumbers_11 (by decide) (fun hc => absurd hc (by decide)) (fun _ => ?_)
  refine lv_iload hx hb dX7_takeNumbers_14 (lv_at hl 0 rfl) ?_
  refine lv_aload_n hx hb dX7_takeNumbers_16 rfl (lv_at hl 2 rfl) ?_
  refine r_get kc7 X h 55 1 (by decide) rfl pf (by decide) kv_413 rfl dX7_takeNumbers_17 ?_
  obtain ⟨g6, f5, p7⟩ := (show sA cI 3 (rgA 0 99) (w 57) from ok 57 (by decide))
  have f8 : w 57 = .inl (cI, 3, .inl g6) := f5
  refine r_alen X h (v := 3) 57 0 (by decide) rfl f8 rfl rfl dX7_takeNumbers_20 ?_
  refine lv_icmp_ge (tgt := 66) hx hb dX7_takeNumbers_21 (by decide) (fun hc => absurd hc (by decide)) (fun _ => ?_)
  refine lv_aload_n hx hb dX7_takeNumbers_24 rfl (lv_at hl 2 rfl) ?_
  refine n_Vv (na := 0) (As := []) (rest := []) X hD hN h rfl (c_step l G cI cB cZ cO ad w z a b c0 d ok pf (by first | omega | decide | (simp only [k00]; omega)) (by first | omega | decide | (simp only [k00]; omega)) (by first | omega | decide | (simp only [k00]; omega)) (by first | omega | decide | (simp only [k00]; omega)) (by first | omega | decide | (simp only [k00]; omega))) ⟨kv_417, kv_418, kv_419, kv_388, kv_420⟩ rfl ⟨by decide, by decide, by decide⟩ ⟨Nat.le_of_ble_eq_true rfl, Nat.le_of_ble_eq_true rfl⟩ ⟨Nat.zero_le _, Nat.zero_le _⟩ (by decide) pf rfl rfl hl.1 rfl (Nat.le_of_ble_eq_true rfl) dX7_takeNumbers_25 (fun w10 H locs hp11 h => ?_)
  obtain ⟨ok12, kk13, hr14⟩ := hp11
  obtain ⟨y15, y16, y17, y18, h19, h20, h21, h22⟩ := hr14
  have q23 : 0 ≤ y18.toInt ∧ y18.toInt ≤ 99 := txd ok12 h19
  have kx24 : KX w w10 := KX.tr KX.rf (F5.x kk13 pf h19)
  refine lv_aload_n hx hb dX7_takeNumbers_28 rfl (lv_at hl 2 rfl) ?_
  refine r_get kc7 X h 55 5 (by decide) rfl h19 (by decide) kv_392 rfl dX7_takeNumbers_29 ?_
  refine lv_iconst (v := 2) hx hb dX7_takeNumbers_32 (by decide) ?_
  refine lv_icmp_ne (tgt := 47) hx hb dX7_takeNumbers_33 (by decide) (fun hc25 => ?_) (fun hc25 => ?_)
  · have hc25 : ¬ (y17).toInt = 2 := i_ne hc25 rfl rfl
    refine lv_iconst (v := 0) hx hb dX7_takeNumbers_47 (by decide) ?_
    exact e_n X h hr hlk rfl dX7_takeNumbers_48 ⟨ok12, kx24, ⟨⟨_, _, _, _, h19, by omega, by omega, by omega⟩, Or.inr rfl⟩⟩
  · have hc25 : (y17).toInt = 2 := i_eq hc25 rfl rfl
    refine lv_aload_n hx hb dX7_takeNumbers_36 rfl (lv_at hl 2 rfl) ?_
    refine lv_aload_n hx hb dX7_takeNumbers_37 rfl (lv_at hl 3 rfl) ?_
    refine lv_iload_n hx hb dX7_takeNumbers_38 rfl (lv_at hl 4 rfl) ?_
    refine lv_iload hx hb dX7_takeNumbers_39 (lv_at hl 0 rfl) ?_
    refine n_Vi (na := 3) (As := [.ref (ad 14), .int 1, .int 0]) (rest := []) X hD hN h rfl (c_fits10 l G cI cB cZ cO ad w10 z y15 y16 y17 y18 ok12 h19 (by omega) (by omega) (by omega)) ⟨kv_421, kv_422, kv_423, kv_388, kv_424⟩ rfl ⟨by decide, by decide, by decide⟩ ⟨Nat.le_of_ble_eq_true rfl, Nat.le_of_ble_eq_true rfl⟩ ⟨Nat.zero_le _, Nat.zero_le _⟩ (by decide) h19 rfl rfl hl.1 rfl (Nat.le_of_ble_eq_true rfl) dX7_takeNumbers_41 (fun r26 w27 H locs hp28 h => ?_)
    obtain ⟨rfl, hr29⟩ := hp28
    rcases hr29 with ⟨hq30, rfl⟩ | rfl
    · refine lv_if_ne (tgt := 49) hx hb dX7_takeNumbers_44 (by decide) (fun _ => ?_) (fun hc => absurd hc (by decide))
      refine lv_aload_n hx hb dX7_takeNumbers_49 rfl (lv_at hl 2 rfl) ?_
      refine r_get kc7 X h 55 1 (by decide) rfl h19 (by decide) kv_413 rfl dX7_takeNumbers_50 ?_
      refine lv_iload hx hb dX7_takeNumbers_53 (lv_at hl 0 rfl) ?_
      refine lv_aload_n hx hb dX7_takeNumbers_55 rfl (lv_at hl 2 rfl) ?_
      refine r_get kc7 X h 55 6 (by decide) rfl h19 (by decide) kv_390 rfl dX7_takeNumbers_56 ?_
      have f31 : w10 57 = .inl (cI, 3, .inl g6) := (kk13 57 (by decide)).trans f8
      obtain ⟨g32, e33⟩ : ∃ z : Nat → Int32, upd g6 0 y18 = z := ⟨_, rfl⟩
      have p34 : rgA 0 99 g32 := rgA_upd p7 e33 (by omega) (by omega)
      refine o_iast (f1 := g32) X hD h 57 0 (by decide) rfl f31 rfl (by unfold vp_in; decide) e33 dX7_takeNumbers_59 (fun H locs w35 e36 h => ?_)
      have f37 : w35 57 = .inl (cI, 3, .inl g32) := (congrFun e36 _).trans (va_up_self _ _ _)
      have ok38 : OK cI cB cZ cO ad w35 := OK.up ok12 e36 (sA_mk p34)
      have kx39 : KX w w35 := KX.up kx24 e36 f31 rfl
      refine lv_iinc (v := 1) (lv' := [(4, .int 1), (3, .int 3), (0, .ref (ad 55)), (1, .ref (ad 14)), (2, .int 1)]) hx hb dX7_takeNumbers_60 hl (k := 0) rfl rfl (by decide) rfl (fun ls hl => ?_)
      refine lv_goto (tgt := 8) hx hb dX7_takeNumbers_63 (by decide) ?_
      refine lv_iload hx hb dX7_takeNumbers_8 (lv_at hl 0 rfl) ?_
      refine lv_iload_n hx hb dX7_takeNumbers_10 rfl (lv_at hl 1 rfl) ?_
      refine lv_icmp_ge (tgt := 66) hx hb dX7_takeNumbers_11 (by decide) (fun hc => absurd hc (by decide)) (fun _ => ?_)
      refine lv_iload hx hb dX7_takeNumbers_14 (lv_at hl 0 rfl) ?_
      refine lv_aload_n hx hb dX7_takeNumbers_16 rfl (lv_at hl 2 rfl) ?_
      have f40 : w35 55 = .inr (5, [.ref (ad 56), .ref (ad 57), .int z, .int y15, .int y16, .int y17, .int y18]) := by rw [e36, va_up_ne _ _ (by decide)]; exact h19
      refine r_get kc7 X h 55 1 (by decide) rfl f40 (by decide) kv_413 rfl dX7_takeNumbers_17 ?_
      refine r_alen X h (v := 3) 57 0 (by decide) rfl f37 rfl rfl dX7_takeNumbers_20 ?_
      refine lv_icmp_ge (tgt := 66) hx hb dX7_takeNumbers_21 (by decide) (fun hc => absurd hc (by decide)) (fun _ => ?_)
      refine lv_aload_n hx hb dX7_takeNumbers_24 rfl (lv_at hl 2 rfl) ?_
      refine n_Vv (na := 0) (As := []) (rest := []) X hD hN h rfl (c_step l G cI cB cZ cO ad w35 z y15 y16 y17 y18 ok38 f40 (by first | omega | decide | (simp only [k00]; omega)) (by first | omega | decide | (simp only [k00]; omega)) (by first | omega | decide | (simp only [k00]; omega)) (by first | omega | decide | (simp only [k00]; omega)) (by first | omega | decide | (simp only [k00]; omega))) ⟨kv_417, kv_418, kv_419, kv_388, kv_420⟩ rfl ⟨by decide, by decide, by decide⟩ ⟨Nat.le_of_ble_eq_true rfl, Nat.le_of_ble_eq_true rfl⟩ ⟨Nat.zero_le _, Nat.zero_le _⟩ (by decide) f40 rfl rfl hl.1 rfl (Nat.le_of_ble_eq_true rfl) dX7_takeNumbers_25 (fun w42 H locs hp43 h => ?_)
      obtain ⟨ok44, kk45, hr46⟩ := hp43
      obtain ⟨y47, y48, y49, y50, h51, h52, h53, h54⟩ := hr46
      have q55 : 0 ≤ y50.toInt ∧ y50.toInt ≤ 99 := txd ok44 h51
      have kx56 : KX w w42 := KX.tr kx39 (F5.x kk45 f40 h51)
      refine lv_aload_n hx hb dX7_takeNumbers_28 rfl (lv_at hl 2 rfl) ?_
      refine r_get kc7 X h 55 5 (by decide) rfl h51 (by decide) kv_392 rfl dX7_takeNumbers_29 ?_
      refine lv_iconst (v := 2) hx hb dX7_takeNumbers_32 (by decide) ?_
      refine lv_icmp_ne (tgt := 47) hx hb dX7_takeNumbers_33 (by decide) (fun hc57 => ?_) (fun hc57 => ?_)
      · have hc57 : ¬ (y49).toInt = 2 := i_ne hc57 rfl rfl
        refine lv_iconst (v := 0) hx hb dX7_takeNumbers_47 (by decide) ?_
        exact e_n X h hr hlk rfl dX7_takeNumbers_48 ⟨ok44, kx56, ⟨⟨_, _, _, _, h51, by omega, by omega, by omega⟩, Or.inr rfl⟩⟩
      · have hc57 : (y49).toInt = 2 := i_eq hc57 rfl rfl
        refine lv_aload_n hx hb dX7_takeNumbers_36 rfl (lv_at hl 2 rfl) ?_
        refine lv_aload_n hx hb dX7_takeNumbers_37 rfl (lv_at hl 3 rfl) ?_
        refine lv_iload_n hx hb dX7_takeNumbers_38 rfl (lv_at hl 4 rfl) ?_
        refine lv_iload hx hb dX7_takeNumbers_39 (lv_at hl 0 rfl) ?_
        refine n_Vi (na := 3) (As := [.ref (ad 14), .int 1, .int 1]) (rest := []) X hD hN h rfl (c_fits11 l G cI cB cZ cO ad w42 z y47 y48 y49 y50 ok44 h51 (by omega) (by omega) (by omega)) ⟨kv_421, kv_422, kv_423, kv_388, kv_424⟩ rfl ⟨by decide, by decide, by decide⟩ ⟨Nat.le_of_ble_eq_true rfl, Nat.le_of_ble_eq_true rfl⟩ ⟨Nat.zero_le _, Nat.zero_le _⟩ (by decide) h51 rfl rfl hl.1 rfl (Nat.le_of_ble_eq_true rfl) dX7_takeNumbers_41 (fun r58 w59 H locs hp60 h => ?_)
        obtain ⟨rfl, hr61⟩ := hp60
        rcases hr61 with ⟨hq62, rfl⟩ | rfl
        · refine lv_if_ne (tgt := 49) hx hb dX7_takeNumbers_44 (by decide) (fun _ => ?_) (fun hc => absurd hc (by decide))
          refine lv_aload_n hx hb dX7_takeNumbers_49 rfl (lv_at hl 2 rfl) ?_
          refine r_get kc7 X h 55 1 (by decide) rfl h51 (by decide) kv_413 rfl dX7_takeNumbers_50 ?_
          refine lv_iload hx hb dX7_takeNumbers_53 (lv_at hl 0 rfl) ?_
          refine lv_aload_n hx hb dX7_takeNumbers_55 rfl (lv_at hl 2 rfl) ?_
          refine r_get kc7 X h 55 6 (by decide) rfl h51 (by decide) kv_390 rfl dX7_takeNumbers_56 ?_
          have f63 : w42 57 = .inl (cI, 3, .inl g32) := (kk45 57 (by decide)).trans f37
          obtain ⟨g64, e65⟩ : ∃ z : Nat → Int32, upd g32 1 y50 = z := ⟨_, rfl⟩
          have p66 : rgA 0 99 g64 := rgA_upd p34 e65 (by omega) (by omega)
          refine o_iast (f1 := g64) X hD h 57 0 (by decide) rfl f63 rfl (by unfold vp_in; decide) e65 dX7_takeNumbers_59 (fun H locs w67 e68 h => ?_)
          have f69 : w67 57 = .inl (cI, 3, .inl g64) := (congrFun e68 _).trans (va_up_self _ _ _)
          have ok70 : OK cI cB cZ cO ad w67 := OK.up ok44 e68 (sA_mk p66)
          have kx71 : KX w w67 := KX.up kx56 e68 f63 rfl
          refine lv_iinc (v := 2) (lv' := [(4, .int 2), (3, .int 3), (0, .ref (ad 55)), (1, .ref (ad 14)), (2, .int 1)]) hx hb dX7_takeNumbers_60 hl (k := 0) rfl rfl (by decide) rfl (fun ls hl => ?_)
          refine lv_goto (tgt := 8) hx hb dX7_takeNumbers_63 (by decide) ?_
          refine lv_iload hx hb dX7_takeNumbers_8 (lv_at hl 0 rfl) ?_
          refine lv_iload_n hx hb dX7_takeNumbers_10 rfl (lv_at hl 1 rfl) ?_
          refine lv_icmp_ge (tgt := 66) hx hb dX7_takeNumbers_11 (by decide) (fun hc => absurd hc (by decide)) (fun _ => ?_)
          refine lv_iload hx hb dX7_takeNumbers_14 (lv_at hl 0 rfl) ?_
          refine lv_aload_n hx hb dX7_takeNumbers_16 rfl (lv_at hl 2 rfl) ?_
          have f72 : w67 55 = .inr (5, [.ref (ad 56), .ref (ad 57), .int z, .int y47, .int y48, .int y49, .int y50]) := by rw [e68, va_up_ne _ _ (by decide)]; exact h51
          refine r_get kc7 X h 55 1 (by decide) rfl f72 (by decide) kv_413 rfl dX7_takeNumbers_17 ?_
          refine r_alen X h (v := 3) 57 0 (by decide) rfl f69 rfl rfl dX7_takeNumbers_20 ?_
          refine lv_icmp_ge (tgt := 66) hx hb dX7_takeNumbers_21 (by decide) (fun hc => absurd hc (by decide)) (fun _ => ?_)
          refine lv_aload_n hx hb dX7_takeNumbers_24 rfl (lv_at hl 2 rfl) ?_
          refine n_Vv (na := 0) (As := []) (rest := []) X hD hN h rfl (c_step l G cI cB cZ cO ad w67 z y47 y48 y49 y50 ok70 f72 (by first | omega | decide | (simp only [k00]; omega)) (by first | omega | decide | (simp only [k00]; omega)) (by first | omega | decide | (simp only [k00]; omega)) (by first | omega | decide | (simp only [k00]; omega)) (by first | omega | decide | (simp only [k00]; omega))) ⟨kv_417, kv_418, kv_419, kv_388, kv_420⟩ rfl ⟨by decide, by decide, by decide⟩ ⟨Nat.le_of_ble_eq_true rfl, Nat.le_of_ble_eq_true rfl⟩ ⟨Nat.zero_le _, Nat.zero_le _⟩ (by decide) f72 rfl rfl hl.1 rfl (Nat.le_of_ble_eq_true rfl) dX7_takeNumbers_25 (fun w74 H locs hp75 h => ?_)
          obtain ⟨ok76, kk77, hr78⟩ := hp75
          obtain ⟨y79, y80, y81, y82, h83, h84, h85, h86⟩ := hr78
          have q87 : 0 ≤ y82.toInt ∧ y82.toInt ≤ 99 := txd ok76 h83
          have kx88 : KX w w74 := KX.tr kx71 (F5.x kk77 f72 h83)
          refine lv_aload_n hx hb dX7_takeNumbers_28 rfl (lv_at hl 2 rfl) ?_
          refine r_get kc7 X h 55 5 (by decide) rfl h83 (by decide) kv_392 rfl dX7_takeNumbers_29 ?_
          refine lv_iconst (v := 2) hx hb dX7_takeNumbers_32 (by decide) ?_
          refine lv_icmp_ne (tgt := 47) hx hb dX7_takeNumbers_33 (by decide) (fun hc89 => ?_) (fun hc89 => ?_)
          · have hc89 : ¬ (y81).toInt = 2 := i_ne hc89 rfl rfl
            refine lv_iconst (v := 0) hx hb dX7_takeNumbers_47 (by decide) ?_
            exact e_n X h hr hlk rfl dX7_takeNumbers_48 ⟨ok76, kx88, ⟨⟨_, _, _, _, h83, by omega, by omega, by omega⟩, Or.inr rfl⟩⟩
          · have hc89 : (y81).toInt = 2 := i_eq hc89 rfl rfl
            refine lv_aload_n hx hb dX7_takeNumbers_36 rfl (lv_at hl 2 rfl) ?_
            refine lv_aload_n hx hb dX7_takeNumbers_37 rfl (lv_at hl 3 rfl) ?_
            refine lv_iload_n hx hb dX7_takeNumbers_38 rfl (lv_at hl 4 rfl) ?_
            refine lv_iload hx hb dX7_takeNumbers_39 (lv_at hl 0 rfl) ?_
            refine n_Vi (na := 3) (As := [.ref (ad 14), .int 1, .int 2]) (rest := []) X hD hN h rfl (c_fits12 l G cI cB cZ cO ad w74 z y79 y80 y81 y82 ok76 h83 (by omega) (by omega) (by omega)) ⟨kv_421, kv_422, kv_423, kv_388, kv_424⟩ rfl ⟨by decide, by decide, by decide⟩ ⟨Nat.le_of_ble_eq_true rfl, Nat.le_of_ble_eq_true rfl⟩ ⟨Nat.zero_le _, Nat.zero_le _⟩ (by decide) h83 rfl rfl hl.1 rfl (Nat.le_of_ble_eq_true rfl) dX7_takeNumbers_41 (fun r90 w91 H locs hp92 h => ?_)
            obtain ⟨rfl, hr93⟩ := hp92
            rcases hr93 with ⟨hq94, rfl⟩ | rfl
            · refine lv_if_ne (tgt := 49) hx hb dX7_takeNumbers_44 (by decide) (fun _ => ?_) (fun hc => absurd hc (by decide))
              refine lv_aload_n hx hb dX7_takeNumbers_49 rfl (lv_at hl 2 rfl) ?_
              refine r_get kc7 X h 55 1 (by decide) rfl h83 (by decide) kv_413 rfl dX7_takeNumbers_50 ?_
              refine lv_iload hx hb dX7_takeNumbers_53 (lv_at hl 0 rfl) ?_
              refine lv_aload_n hx hb dX7_takeNumbers_55 rfl (lv_at hl 2 rfl) ?_
              refine r_get kc7 X h 55 6 (by decide) rfl h83 (by decide) kv_390 rfl dX7_takeNumbers_56 ?_
              have f95 : w74 57 = .inl (cI, 3, .inl g64) := (kk77 57 (by decide)).trans f69
              obtain ⟨g96, e97⟩ : ∃ z : Nat → Int32, upd g64 2 y82 = z := ⟨_, rfl⟩
              have p98 : rgA 0 99 g96 := rgA_upd p66 e97 (by omega) (by omega)
              refine o_iast (f1 := g96) X hD h 57 0 (by decide) rfl f95 rfl (by unfold vp_in; decide) e97 dX7_takeNumbers_59 (fun H locs w99 e100 h => ?_)
              have f101 : w99 57 = .inl (cI, 3, .inl g96) := (congrFun e100 _).trans (va_up_self _ _ _)
              have ok102 : OK cI cB cZ cO ad w99 := OK.up ok76 e100 (sA_mk p98)
              have kx103 : KX w w99 := KX.up kx88 e100 f95 rfl
              refine lv_iinc (v := 3) (lv' := [(4, .int 3), (3, .int 3), (0, .ref (ad 55)), (1, .ref (ad 14)), (2, .int 1)]) hx hb dX7_takeNumbers_60 hl (k := 0) rfl rfl (by decide) rfl (fun ls hl => ?_)
              refine lv_goto (tgt := 8) hx hb dX7_takeNumbers_63 (by decide) ?_
              refine lv_iload hx hb dX7_takeNumbers_8 (lv_at hl 0 rfl) ?_
              refine lv_iload_n hx hb dX7_takeNumbers_10 rfl (lv_at hl 1 rfl) ?_
              refine lv_icmp_ge (tgt := 66) hx hb dX7_takeNumbers_11 (by decide) (fun _ => ?_) (fun hc => absurd (by decide) hc)
              refine lv_aload_n hx hb dX7_takeNumbers_66 rfl (lv_at hl 2 rfl) ?_
              have f104 : w99 55 = .inr (5, [.ref (ad 56), .ref (ad 57), .int z, .int y79, .int y80, .int y81, .int y82]) := by rw [e100, va_up_ne _ _ (by decide)]; exact h83
              refine n_Vv (na := 0) (As := []) (rest := []) X hD hN h rfl (c_step l G cI cB cZ cO ad w99 z y79 y80 y81 y82 ok102 f104 (by first | omega | decide | (simp only [k00]; omega)) (by first | omega | decide | (simp only [k00]; omega)) (by first | omega | decide | (simp only [k00]; omega)) (by first | omega | decide | (simp only [k00]; omega)) (by first | omega | decide | (simp only [k00]; omega))) ⟨kv_417, kv_418, kv_419, kv_388, kv_420⟩ rfl ⟨by decide, by decide, by decide⟩ ⟨Nat.le_of_ble_eq_true rfl, Nat.le_of_ble_eq_true rfl⟩ ⟨Nat.zero_le _, Nat.zero_le _⟩ (by decide) f104 rfl rfl hl.1 rfl (Nat.le_of_ble_eq_true rfl) dX7_takeNumbers_67 (fun w106 H locs hp107 h => ?_)
              obtain ⟨ok108, kk109, hr110⟩ := hp107
              obtain ⟨y111, y112, y113, y114, h115, h116, h117, h118⟩ := hr110
              have q119 : 0 ≤ y114.toInt ∧ y114.toInt ≤ 99 := txd ok108 h115
              have kx120 : KX w w106 := KX.tr kx103 (F5.x kk109 f104 h115)
              refine lv_aload_n hx hb dX7_takeNumbers_70 rfl (lv_at hl 2 rfl) ?_
              refine r_get kc7 X h 55 5 (by decide) rfl h115 (by decide) kv_392 rfl dX7_takeNumbers_71 ?_
              refine lv_iconst (v := 3) hx hb dX7_takeNumbers_74 (by decide) ?_
              refine lv_icmp_ne (tgt := 82) hx hb dX7_takeNumbers_75 (by decide) (fun hc121 => ?_) (fun hc121 => ?_)
              · have hc121 : ¬ (y113).toInt = 3 := i_ne hc121 rfl rfl
                refine lv_iconst (v := 0) hx hb dX7_takeNumbers_82 (by decide) ?_
                exact e_n X h hr hlk rfl dX7_takeNumbers_83 ⟨ok108, kx120, ⟨⟨_, _, _, _, h115, by omega, by omega, by omega⟩, Or.inr rfl⟩⟩
              · have hc121 : (y113).toInt = 3 := i_eq hc121 rfl rfl
                refine lv_iconst (v := 1) hx hb dX7_takeNumbers_78 (by decide) ?_
                refine lv_goto (tgt := 83) hx hb dX7_takeNumbers_79 (by decide) ?_
                have f122 : w106 57 = .inl (cI, 3, .inl g96) := (kk109 57 (by decide)).trans f101
                exact e_n X h hr hlk rfl dX7_takeNumbers_83 ⟨ok108, kx120, ⟨⟨_, _, _, _, h115, by omega, by omega, by omega⟩, Or.inl ⟨⟨g96, f122, by rw [← e97, pk_un (by decide), ← e65, pk_us]; omega⟩, rfl⟩⟩⟩
            · refine lv_if_ne (tgt := 49) hx hb dX7_takeNumbers_44 (by decide) (fun hc => absurd (by decide) hc) (fun _ => ?_)
              refine lv_iconst (v := 0) hx hb dX7_takeNumbers_47 (by decide) ?_
              exact e_n X h hr hlk rfl dX7_takeNumbers_48 ⟨ok76, kx88, ⟨⟨_, _, _, _, h83, by omega, by omega, by omega⟩, Or.inr rfl⟩⟩
        · refine lv_if_ne (tgt := 49) hx hb dX7_takeNumbers_44 (by decide) (fun hc => absurd (by decide) hc) (fun _ => ?_)
          refine lv_iconst (v := 0) hx hb dX7_takeNumbers_47 (by decide) ?_
          exact e_n X h hr hlk rfl dX7_takeNumbers_48 ⟨ok44, kx56, ⟨⟨_, _, _, _, h51, by omega, by omega, by omega⟩, Or.inr rfl⟩⟩
    · refine lv_if_ne (tgt := 49) hx hb dX7_takeNumbers_44 (by decide) (fun hc => absurd (by decide) hc) (fun _ => ?_)
      refine lv_iconst (v := 0) hx hb dX7_takeNumbers_47 (by decide) ?_
      exact e_n X h hr hlk rfl dX7_takeNumbers_48 ⟨ok12, kx24, ⟨⟨_, _, _, _, h19, by omega, by omega, by omega⟩, Or.inr rfl⟩⟩

set_option maxHeartbeats 4000000 in
set_option maxRecDepth 100000 in
theorem c_takeNumbers2 (l : Launch) (G : va_G) (cI cB cZ cO : ClassId) (ad : Nat → Nat) (w : Nat → va_E) (z a b c0 d : Int32) (ok : OK cI cB cZ cO ad w)   (pf : w 55 = .inr (5, [.ref (ad 56), .ref (ad 57), .int z, .int a, .int b, .int c0, .int d])) (hz1 : z.toInt ≤ 150) (hb0 : 0 ≤ b.toInt) (hbz : b.toInt ≤ z.toInt) (hd0 : 0 ≤ d.toInt) (hd1 : d.toInt ≤ 99) : NI l G (tyq cI cB cZ cO) yX7_takeNumbers cX7_takeNumbers 5 (some .boolean) 3 66 74 ad w [.ref (ad 55), .ref (ad 14), .int 2] (fun r w1 => OK cI cB cZ cO ad w1 ∧ KX w w1 ∧ (∃ a1 b1 c1 d1 : Int32, w1 55 = .inr (5, [.ref (ad 56), .ref (ad 57), .int z, .int a1, .int b1, .int c1, .int d1]) ∧ 0 ≤ a1.toInt ∧ a1.toInt ≤ b1.toInt ∧ b1.toInt ≤ z.toInt) ∧ ((∃ f : Nat → Int32, w1 57 = .inl (cI, 3, .inl f) ∧ True) ∧ r = 1 ∨ r = 0)) := by
  refine nk_i (own := "NoonShade$Text") rfl (by decide) (Nat.le_of_ble_eq_true rfl) ?_
  intro p e s m below meth c ls X hD hN hr hlk h hl
  have hx := X.1.1
  have hb := X.1.2.1
  have hown := X.1.2.2.2.1
  have hts := X.1.2.2.2.2
  have hl : lv_has ls 5 [(0, .ref (ad 55)), (1, .ref (ad 14)), (2, .int 2)] := hl
  refine lv_iload_n hx hb dX7_takeNumbers_0 rfl (lv_at hl 2 rfl) ?_
  refine n_Si (na := 1) (As := [.int 2]) (rest := []) X hD hN h (c_numbersOf2 l G cI cB cZ cO ad w) ⟨kv_414, kv_415, kv_388, kv_416⟩ ⟨by decide, by decide, by decide⟩ ⟨Nat.le_of_ble_eq_true rfl, Nat.le_of_ble_eq_true rfl⟩ ⟨Nat.zero_le _, Nat.zero_le _⟩ rfl hl.1 rfl (Nat.le_of_ble_eq_true rfl) dX7_takeNumbers_1 (fun r1 w2 H locs hp3 h => ?_)
  obtain ⟨rfl, h4⟩ := hp3
  subst h4
  refine lv_istore_n (lv' := [(3, .int 1), (0, .ref (ad 55)), (1, .ref (ad 14)), (2, .int 2)]) hx hb dX7_takeNumbers_4 rfl hl (by decide) rfl (fun ls hl => ?_)
  refine lv_iconst (v := 0) hx hb dX7_takeNumbers_5 (by decide) ?_
  refine lv_istore (lv' := [(4, .int 0), (3, .int 1), (0, .ref (ad 55)), (1, .ref (ad 14)), (2, .int 2)]) hx hb dX7_takeNumbers_6 hl (by decide) rfl (fun ls hl => ?_)
  refine lv_iload hx hb dX7_takeNumbers_8 (lv_at hl 0 rfl) ?_
  refine lv_iload_n hx hb dX7_takeNumbers_10 rfl (lv_at hl 1 rfl) ?_
  refine lv_icmp_ge (tgt := 66) hx hb dX7_takeNumbers_11 (by decide) (fun hc => absurd hc (by decide)) (fun _ => ?_)
  refine lv_iload hx hb dX7_takeNumbers_14 (lv_at hl 0 rfl) ?_
  refine lv_aload_n hx hb dX7_takeNumbers_16 rfl (lv_at hl 2 rfl) ?_
  refine r_get kc7 X h 55 1 (by decide) rfl pf (by decide) kv_413 rfl dX7_takeNumbers_17 ?_
  obtain ⟨g6, f5, p7⟩ := (show sA cI 3 (rgA 0 99) (w 57) from ok 57 (by decide))
  have f8 : w 57 = .inl (cI, 3, .inl g6) := f5
  refine r_alen X h (v := 3) 57 0 (by decide) rfl f8 rfl rfl dX7_takeNumbers_20 ?_
  refine lv_icmp_ge (tgt := 66) hx hb dX7_takeNumbers_21 (by decide) (fun hc => absurd hc (by decide)) (fun _ => ?_)
  refine lv_aload_n hx hb dX7_takeNumbers_24 rfl (lv_at hl 2 rfl) ?_
  refine n_Vv (na := 0) (As := []) (rest := []) X hD hN h rfl (c_step l G cI cB cZ cO ad w z a b c0 d ok pf (by first | omega | decide | (simp only [k00]; omega)) (by first | omega | decide | (simp only [k00]; omega)) (by first | omega | decide | (simp only [k00]; omega)) (by first | omega | decide | (simp only [k00]; omega)) (by first | omega | decide | (simp only [k00]; omega))) ⟨kv_417, kv_418, kv_419, kv_388, kv_420⟩ rfl ⟨by decide, by decide, by decide⟩ ⟨Nat.le_of_ble_eq_true rfl, Nat.le_of_ble_eq_true rfl⟩ ⟨Nat.zero_le _, Nat.zero_le _⟩ (by decide) pf rfl rfl hl.1 rfl (Nat.le_of_ble_eq_true rfl) dX7_takeNumbers_25 (fun w10 H locs hp11 h => ?_)
  obtain ⟨ok12, kk13, hr14⟩ := hp11
  obtain ⟨y15, y16, y17, y18, h19, h20, h21, h22⟩ := hr14
  have q23 : 0 ≤ y18.toInt ∧ y18.toInt ≤ 99 := txd ok12 h19
  have kx24 : KX w w10 := KX.tr KX.rf (F5.x kk13 pf h19)
  refine lv_aload_n hx hb dX7_takeNumbers_28 rfl (lv_at hl 2 rfl) ?_
  refine r_get kc7 X h 55 5 (by decide) rfl h19 (by decide) kv_392 rfl dX7_takeNumbers_29 ?_
  refine lv_iconst (v := 2) hx hb dX7_takeNumbers_32 (by decide) ?_
  refine lv_icmp_ne (tgt := 47) hx hb dX7_takeNumbers_33 (by decide) (fun hc25 => ?_) (fun hc25 => ?_)
  · have hc25 : ¬ (y17).toInt = 2 := i_ne hc25 rfl rfl
    refine lv_iconst (v := 0) hx hb dX7_takeNumbers_47 (by decide) ?_
    exact e_n X h hr hlk rfl dX7_takeNumbers_48 ⟨ok12, kx24, ⟨⟨_, _, _, _, h19, by omega, by omega, by omega⟩, Or.inr rfl⟩⟩
  · have hc25 : (y17).toInt = 2 := i_eq hc25 rfl rfl
    refine lv_aload_n hx hb dX7_takeNumbers_36 rfl (lv_at hl 2 rfl) ?_
    refine lv_aload_n hx hb dX7_takeNumbers_37 rfl (lv_at hl 3 rfl) ?_
    refine lv_iload_n hx hb dX7_takeNumbers_38 rfl (lv_at hl 4 rfl) ?_
    refine lv_iload hx hb dX7_takeNumbers_39 (lv_at hl 0 rfl) ?_
    refine n_Vi (na := 3) (As := [.ref (ad 14), .int 2, .int 0]) (rest := []) X hD hN h rfl (c_fits20 l G cI cB cZ cO ad w10 z y15 y16 y17 y18 ok12 h19 (by omega) (by omega) (by omega)) ⟨kv_421, kv_422, kv_423, kv_388, kv_424⟩ rfl ⟨by decide, by decide, by decide⟩ ⟨Nat.le_of_ble_eq_true rfl, Nat.le_of_ble_eq_true rfl⟩ ⟨Nat.zero_le _, Nat.zero_le _⟩ (by decide) h19 rfl rfl hl.1 rfl (Nat.le_of_ble_eq_true rfl) dX7_takeNumbers_41 (fun r26 w27 H locs hp28 h => ?_)
    obtain ⟨rfl, hr29⟩ := hp28
    rcases hr29 with ⟨hq30, rfl⟩ | rfl
    · refine lv_if_ne (tgt := 49) hx hb dX7_takeNumbers_44 (by decide) (fun _ => ?_) (fun hc => absurd hc (by decide))
      refine lv_aload_n hx hb dX7_takeNumbers_49 rfl (lv_at hl 2 rfl) ?_
      refine r_get kc7 X h 55 1 (by decide) rfl h19 (by decide) kv_413 rfl dX7_takeNumbers_50 ?_
      refine lv_iload hx hb dX7_takeNumbers_53 (lv_at hl 0 rfl) ?_
      refine lv_aload_n hx hb dX7_takeNumbers_55 rfl (lv_at hl 2 rfl) ?_
      refine r_get kc7 X h 55 6 (by decide) rfl h19 (by decide) kv_390 rfl dX7_takeNumbers_56 ?_
      have f31 : w10 57 = .inl (cI, 3, .inl g6) := (kk13 57 (by decide)).trans f8
      obtain ⟨g32, e33⟩ : ∃ z : Nat → Int32, upd g6 0 y18 = z := ⟨_, rfl⟩
      have p34 : rgA 0 99 g32 := rgA_upd p7 e33 (by omega) (by omega)
      refine o_iast (f1 := g32) X hD h 57 0 (by decide) rfl f31 rfl (by unfold vp_in; decide) e33 dX7_takeNumbers_59 (fun H locs w35 e36 h => ?_)
      have f37 : w35 57 = .inl (cI, 3, .inl g32) := (congrFun e36 _).trans (va_up_self _ _ _)
      have ok38 : OK cI cB cZ cO ad w35 := OK.up ok12 e36 (sA_mk p34)
      have kx39 : KX w w35 := KX.up kx24 e36 f31 rfl
      refine lv_iinc (v := 1) (lv' := [(4, .int 1), (3, .int 1), (0, .ref (ad 55)), (1, .ref (ad 14)), (2, .int 2)]) hx hb dX7_takeNumbers_60 hl (k := 0) rfl rfl (by decide) rfl (fun ls hl => ?_)
      refine lv_goto (tgt := 8) hx hb dX7_takeNumbers_63 (by decide) ?_
      refine lv_iload hx hb dX7_takeNumbers_8 (lv_at hl 0 rfl) ?_
      refine lv_iload_n hx hb dX7_takeNumbers_10 rfl (lv_at hl 1 rfl) ?_
      refine lv_icmp_ge (tgt := 66) hx hb dX7_takeNumbers_11 (by decide) (fun _ => ?_) (fun hc => absurd (by decide) hc)
      refine lv_aload_n hx hb dX7_takeNumbers_66 rfl (lv_at hl 2 rfl) ?_
      have f40 : w35 55 = .inr (5, [.ref (ad 56), .ref (ad 57), .int z, .int y15, .int y16, .int y17, .int y18]) := by rw [e36, va_up_ne _ _ (by decide)]; exact h19
      refine n_Vv (na := 0) (As := []) (rest := []) X hD hN h rfl (c_step l G cI cB cZ cO ad w35 z y15 y16 y17 y18 ok38 f40 (by first | omega | decide | (simp only [k00]; omega)) (by first | omega | decide | (simp only [k00]; omega)) (by first | omega | decide | (simp only [k00]; omega)) (by first | omega | decide | (simp only [k00]; omega)) (by first | omega | decide | (simp only [k00]; omega))) ⟨kv_417, kv_418, kv_419, kv_388, kv_420⟩ rfl ⟨by decide, by decide, by decide⟩ ⟨Nat.le_of_ble_eq_true rfl, Nat.le_of_ble_eq_true rfl⟩ ⟨Nat.zero_le _, Nat.zero_le _⟩ (by decide) f40 rfl rfl hl.1 rfl (Nat.le_of_ble_eq_true rfl) dX7_takeNumbers_67 (fun w42 H locs hp43 h => ?_)
      obtain ⟨ok44, kk45, hr46⟩ := hp43
      obtain ⟨y47, y48, y49, y50, h51, h52, h53, h54⟩ := hr46
      have q55 : 0 ≤ y50.toInt ∧ y50.toInt ≤ 99 := txd ok44 h51
      have kx56 : KX w w42 := KX.tr kx39 (F5.x kk45 f40 h51)
      refine lv_aload_n hx hb dX7_takeNumbers_70 rfl (lv_at hl 2 rfl) ?_
      refine r_get kc7 X h 55 5 (by decide) rfl h51 (by decide) kv_392 rfl dX7_takeNumbers_71 ?_
      refine lv_iconst (v := 3) hx hb dX7_takeNumbers_74 (by decide) ?_
      refine lv_icmp_ne (tgt := 82) hx hb dX7_takeNumbers_75 (by decide) (fun hc57 => ?_) (fun hc57 => ?_)
      · have hc57 : ¬ (y49).toInt = 3 := i_ne hc57 rfl rfl
        refine lv_iconst (v := 0) hx hb dX7_takeNumbers_82 (by decide) ?_
        exact e_n X h hr hlk rfl dX7_takeNumbers_83 ⟨ok44, kx56, ⟨⟨_, _, _, _, h51, by omega, by omega, by omega⟩, Or.inr rfl⟩⟩
      · have hc57 : (y49).toInt = 3 := i_eq hc57 rfl rfl
        refine lv_iconst (v := 1) hx hb dX7_takeNumbers_78 (by decide) ?_
        refine lv_goto (tgt := 83) hx hb dX7_takeNumbers_79 (by decide) ?_
        have f58 : w42 57 = .inl (cI, 3, .inl g32) := (kk45 57 (by decide)).trans f37
        exact e_n X h hr hlk rfl dX7_takeNumbers_83 ⟨ok44, kx56, ⟨⟨_, _, _, _, h51, by omega, by omega, by omega⟩, Or.inl ⟨⟨g32, f58, trivial⟩, rfl⟩⟩⟩
    · refine lv_if_ne (tgt := 49) hx hb dX7_takeNumbers_44 (by decide) (fun hc => absurd (by decide) hc) (fun _ => ?_)
      refine lv_iconst (v := 0) hx hb dX7_takeNumbers_47 (by decide) ?_
      exact e_n X h hr hlk rfl dX7_takeNumbers_48 ⟨ok12, kx24, ⟨⟨_, _, _, _, h19, by omega, by omega, by omega⟩, Or.inr rfl⟩⟩

set_option maxHeartbeats 4000000 in
set_option maxRecDepth 100000 in
theorem c_takeNumbers3 (l : Launch) (G : va_G) (cI cB cZ cO : ClassId) (ad : Nat → Nat) (w : Nat → va_E) (z a b c0 d : Int32) (ok : OK cI cB cZ cO ad w)   (pf : w 55 = .inr (5, [.ref (ad 56), .ref (ad 57), .int z, .int a, .int b, .int c0, .int d])) (hz1 : z.toInt ≤ 150) (hb0 : 0 ≤ b.toInt) (hbz : b.toInt ≤ z.toInt) (hd0 : 0 ≤ d.toInt) (hd1 : d.toInt ≤ 99) : NI l G (tyq cI cB cZ cO) yX7_takeNumbers cX7_takeNumbers 5 (some .boolean) 3 66 74 ad w [.ref (ad 55), .ref (ad 14), .int 3] (fun r w1 => OK cI cB cZ cO ad w1 ∧ KX w w1 ∧ (∃ a1 b1 c1 d1 : Int32, w1 55 = .inr (5, [.ref (ad 56), .ref (ad 57), .int z, .int a1, .int b1, .int c1, .int d1]) ∧ 0 ≤ a1.toInt ∧ a1.toInt ≤ b1.toInt ∧ b1.toInt ≤ z.toInt) ∧ ((∃ f : Nat → Int32, w1 57 = .inl (cI, 3, .inl f) ∧ (f 0).toInt ≤ 6 ∧ (f 1).toInt ≤ 3) ∧ r = 1 ∨ r = 0)) := by
  refine nk_i (own := "NoonShade$Text") rfl (by decide) (Nat.le_of_ble_eq_true rfl) ?_
  intro p e s m below meth c ls X hD hN hr hlk h hl
  have hx := X.1.1
  have hb := X.1.2.1
  have hown := X.1.2.2.2.1
  have hts := X.1.2.2.2.2
  have hl : lv_has ls 5 [(0, .ref (ad 55)), (1, .ref (ad 14)), (2, .int 3)] := hl
  refine lv_iload_n hx hb dX7_takeNumbers_0 rfl (lv_at hl 2 rfl) ?_
  refine n_Si (na := 1) (As := [.int 3]) (rest := []) X hD hN h (c_numbersOf3 l G cI cB cZ cO ad w) ⟨kv_414, kv_415, kv_388, kv_416⟩ ⟨by decide, by decide, by decide⟩ ⟨Nat.le_of_ble_eq_true rfl, Nat.le_of_ble_eq_true rfl⟩ ⟨Nat.zero_le _, Nat.zero_le _⟩ rfl hl.1 rfl (Nat.le_of_ble_eq_true rfl) dX7_takeNumbers_1 (fun r1 w2 H locs hp3 h => ?_)
  obtain ⟨rfl, h4⟩ := hp3
  subst h4
  refine lv_istore_n (lv' := [(3, .int 2), (0, .ref (ad 55)), (1, .ref (ad 14)), (2, .int 3)]) hx hb dX7_takeNumbers_4 rfl hl (by decide) rfl (fun ls hl => ?_)
  refine lv_iconst (v := 0) hx hb dX7_takeNumbers_5 (by decide) ?_
  refine lv_istore (lv' := [(4, .int 0), (3, .int 2), (0, .ref (ad 55)), (1, .ref (ad 14)), (2, .int 3)]) hx hb dX7_takeNumbers_6 hl (by decide) rfl (fun ls hl => ?_)
  refine lv_iload hx hb dX7_takeNumbers_8 (lv_at hl 0 rfl) ?_
  refine lv_iload_n hx hb dX7_takeNumbers_10 rfl (lv_at hl 1 rfl) ?_
  refine lv_icmp_ge (tgt := 66) hx hb dX7_takeNumbers_11 (by decide) (fun hc => absurd hc (by decide)) (fun _ => ?_)
  refine lv_iload hx hb dX7_takeNumbers_14 (lv_at hl 0 rfl) ?_
  refine lv_aload_n hx hb dX7_takeNumbers_16 rfl (lv_at hl 2 rfl) ?_
  refine r_get kc7 X h 55 1 (by decide) rfl pf (by decide) kv_413 rfl dX7_takeNumbers_17 ?_
  obtain ⟨g6, f5, p7⟩ := (show sA cI 3 (rgA 0 99) (w 57) from ok 57 (by decide))
  have f8 : w 57 = .inl (cI, 3, .inl g6) := f5
  refine r_alen X h (v := 3) 57 0 (by decide) rfl f8 rfl rfl dX7_takeNumbers_20 ?_
  refine lv_icmp_ge (tgt := 66) hx hb dX7_takeNumbers_21 (by decide) (fun hc => absurd hc (by decide)) (fun _ => ?_)
  refine lv_aload_n hx hb dX7_takeNumbers_24 rfl (lv_at hl 2 rfl) ?_
  refine n_Vv (na := 0) (As := []) (rest := []) X hD hN h rfl (c_step l G cI cB cZ cO ad w z a b c0 d ok pf (by first | omega | decide | (simp only [k00]; omega)) (by first | omega | decide | (simp only [k00]; omega)) (by first | omega | decide | (simp only [k00]; omega)) (by first | omega | decide | (simp only [k00]; omega)) (by first | omega | decide | (simp only [k00]; omega))) ⟨kv_417, kv_418, kv_419, kv_388, kv_420⟩ rfl ⟨by decide, by decide, by decide⟩ ⟨Nat.le_of_ble_eq_true rfl, Nat.le_of_ble_eq_true rfl⟩ ⟨Nat.zero_le _, Nat.zero_le _⟩ (by decide) pf rfl rfl hl.1 rfl (Nat.le_of_ble_eq_true rfl) dX7_takeNumbers_25 (fun w10 H locs hp11 h => ?_)
  obtain ⟨ok12, kk13, hr14⟩ := hp11
  obtain ⟨y15, y16, y17, y18, h19, h20, h21, h22⟩ := hr14
  have q23 : 0 ≤ y18.toInt ∧ y18.toInt ≤ 99 := txd ok12 h19
  have kx24 : KX w w10 := KX.tr KX.rf (F5.x kk13 pf h19)
  refine lv_aload_n hx hb dX7_takeNumbers_28 rfl (lv_at hl 2 rfl) ?_
  refine r_get kc7 X h 55 5 (by decide) rfl h19 (by decide) kv_392 rfl dX7_takeNumbers_29 ?_
  refine lv_iconst (v := 2) hx hb dX7_takeNumbers_32 (by decide) ?_
  refine lv_icmp_ne (tgt := 47) hx hb dX7_takeNumbers_33 (by decide) (fun hc25 => ?_) (fun hc25 => ?_)
  · have hc25 : ¬ (y17).toInt = 2 := i_ne hc25 rfl rfl
    refine lv_iconst (v := 0) hx hb dX7_takeNumbers_47 (by decide) ?_
    exact e_n X h hr hlk rfl dX7_takeNumbers_48 ⟨ok12, kx24, ⟨⟨_, _, _, _, h19, by omega, by omega, by omega⟩, Or.inr rfl⟩⟩
  · have hc25 : (y17).toInt = 2 := i_eq hc25 rfl rfl
    refine lv_aload_n hx hb dX7_takeNumbers_36 rfl (lv_at hl 2 rfl) ?_
    refine lv_aload_n hx hb dX7_takeNumbers_37 rfl (lv_at hl 3 rfl) ?_
    refine lv_iload_n hx hb dX7_takeNumbers_38 rfl (lv_at hl 4 rfl) ?_
    refine lv_iload hx hb dX7_takeNumbers_39 (lv_at hl 0 rfl) ?_
    refine n_Vi (na := 3) (As := [.ref (ad 14), .int 3, .int 0]) (rest := []) X hD hN h rfl (c_fits30 l G cI cB cZ cO ad w10 z y15 y16 y17 y18 ok12 h19 (by omega) (by omega) (by omega)) ⟨kv_421, kv_422, kv_423, kv_388, kv_424⟩ rfl ⟨by decide, by decide, by decide⟩ ⟨Nat.le_of_ble_eq_true rfl, Nat.le_of_ble_eq_true rfl⟩ ⟨Nat.zero_le _, Nat.zero_le _⟩ (by decide) h19 rfl rfl hl.1 rfl (Nat.le_of_ble_eq_true rfl) dX7_takeNumbers_41 (fun r26 w27 H locs hp28 h => ?_)
    obtain ⟨rfl, hr29⟩ := hp28
    rcases hr29 with ⟨hq30, rfl⟩ | rfl
    · refine lv_if_ne (tgt := 49) hx hb dX7_takeNumbers_44 (by decide) (fun _ => ?_) (fun hc => absurd hc (by decide))
      refine lv_aload_n hx hb dX7_takeNumbers_49 rfl (lv_at hl 2 rfl) ?_
      refine r_get kc7 X h 55 1 (by decide) rfl h19 (by decide) kv_413 rfl dX7_takeNumbers_50 ?_
      refine lv_iload hx hb dX7_takeNumbers_53 (lv_at hl 0 rfl) ?_
      refine lv_aload_n hx hb dX7_takeNumbers_55 rfl (lv_at hl 2 rfl) ?_
      refine r_get kc7 X h 55 6 (by decide) rfl h19 (by decide) kv_390 rfl dX7_takeNumbers_56 ?_
      have f31 : w10 57 = .inl (cI, 3, .inl g6) := (kk13 57 (by decide)).trans f8
      obtain ⟨g32, e33⟩ : ∃ z : Nat → Int32, upd g6 0 y18 = z := ⟨_, rfl⟩
      have p34 : rgA 0 99 g32 := rgA_upd p7 e33 (by omega) (by omega)
      refine o_iast (f1 := g32) X hD h 57 0 (by decide) rfl f31 rfl (by unfold vp_in; decide) e33 dX7_takeNumbers_59 (fun H locs w35 e36 h => ?_)
      have f37 : w35 57 = .inl (cI, 3, .inl g32) := (congrFun e36 _).trans (va_up_self _ _ _)
      have ok38 : OK cI cB cZ cO ad w35 := OK.up ok12 e36 (sA_mk p34)
      have kx39 : KX w w35 := KX.up kx24 e36 f31 rfl
      refine lv_iinc (v := 1) (lv' := [(4, .int 1), (3, .int 2), (0, .ref (ad 55)), (1, .ref (ad 14)), (2, .int 3)]) hx hb dX7_takeNumbers_60 hl (k := 0) rfl rfl (by decide) rfl (fun ls hl => ?_)
      refine lv_goto (tgt := 8) hx hb dX7_takeNumbers_63 (by decide) ?_
      refine lv_iload hx hb dX7_takeNumbers_8 (lv_at hl 0 rfl) ?_
      refine lv_iload_n hx hb dX7_takeNumbers_10 rfl (lv_at hl 1 rfl) ?_
      refine lv_icmp_ge (tgt := 66) hx hb dX7_takeNumbers_11 (by decide) (fun hc => absurd hc (by decide)) (fun _ => ?_)
      refine lv_iload hx hb dX7_takeNumbers_14 (lv_at hl 0 rfl) ?_
      refine lv_aload_n hx hb dX7_takeNumbers_16 rfl (lv_at hl 2 rfl) ?_
      have f40 : w35 55 = .inr (5, [.ref (ad 56), .ref (ad 57), .int z, .int y15, .int y16, .int y17, .int y18]) := by rw [e36, va_up_ne _ _ (by decide)]; exact h19
      refine r_get kc7 X h 55 1 (by decide) rfl f40 (by decide) kv_413 rfl dX7_takeNumbers_17 ?_
      refine r_alen X h (v := 3) 57 0 (by decide) rfl f37 rfl rfl dX7_takeNumbers_20 ?_
      refine lv_icmp_ge (tgt := 66) hx hb dX7_takeNumbers_21 (by decide) (fun hc => absurd hc (by decide)) (fun _ => ?_)
      refine lv_aload_n hx hb dX7_takeNumbers_24 rfl (lv_at hl 2 rfl) ?_
      refine n_Vv (na := 0) (As := []) (rest := []) X hD hN h rfl (c_step l G cI cB cZ cO ad w35 z y15 y16 y17 y18 ok38 f40 (by first | omega | decide | (simp only [k00]; omega)) (by first | omega | decide | (simp only [k00]; omega)) (by first | omega | decide | (simp only [k00]; omega)) (by first | omega | decide | (simp only [k00]; omega)) (by first | omega | decide | (simp only [k00]; omega))) ⟨kv_417, kv_418, kv_419, kv_388, kv_420⟩ rfl ⟨by decide, by decide, by decide⟩ ⟨Nat.le_of_ble_eq_true rfl, Nat.le_of_ble_eq_true rfl⟩ ⟨Nat.zero_le _, Nat.zero_le _⟩ (by decide) f40 rfl rfl hl.1 rfl (Nat.le_of_ble_eq_true rfl) dX7_takeNumbers_25 (fun w42 H locs hp43 h => ?_)
      obtain ⟨ok44, kk45, hr46⟩ := hp43
      obtain ⟨y47, y48, y49, y50, h51, h52, h53, h54⟩ := hr46
      have q55 : 0 ≤ y50.toInt ∧ y50.toInt ≤ 99 := txd ok44 h51
      have kx56 : KX w w42 := KX.tr kx39 (F5.x kk45 f40 h51)
      refine lv_aload_n hx hb dX7_takeNumbers_28 rfl (lv_at hl 2 rfl) ?_
      refine r_get kc7 X h 55 5 (by decide) rfl h51 (by decide) kv_392 rfl dX7_takeNumbers_29 ?_
      refine lv_iconst (v := 2) hx hb dX7_takeNumbers_32 (by decide) ?_
      refine lv_icmp_ne (tgt := 47) hx hb dX7_takeNumbers_33 (by decide) (fun hc57 => ?_) (fun hc57 => ?_)
      · have hc57 : ¬ (y49).toInt = 2 := i_ne hc57 rfl rfl
        refine lv_iconst (v := 0) hx hb dX7_takeNumbers_47 (by decide) ?_
        exact e_n X h hr hlk rfl dX7_takeNumbers_48 ⟨ok44, kx56, ⟨⟨_, _, _, _, h51, by omega, by omega, by omega⟩, Or.inr rfl⟩⟩
      · have hc57 : (y49).toInt = 2 := i_eq hc57 rfl rfl
        refine lv_aload_n hx hb dX7_takeNumbers_36 rfl (lv_at hl 2 rfl) ?_
        refine lv_aload_n hx hb dX7_takeNumbers_37 rfl (lv_at hl 3 rfl) ?_
        refine lv_iload_n hx hb dX7_takeNumbers_38 rfl (lv_at hl 4 rfl) ?_
        refine lv_iload hx hb dX7_takeNumbers_39 (lv_at hl 0 rfl) ?_
        refine n_Vi (na := 3) (As := [.ref (ad 14), .int 3, .int 1]) (rest := []) X hD hN h rfl (c_fits31 l G cI cB cZ cO ad w42 z y47 y48 y49 y50 ok44 h51 (by omega) (by omega) (by omega)) ⟨kv_421, kv_422, kv_423, kv_388, kv_424⟩ rfl ⟨by decide, by decide, by decide⟩ ⟨Nat.le_of_ble_eq_true rfl, Nat.le_of_ble_eq_true rfl⟩ ⟨Nat.zero_le _, Nat.zero_le _⟩ (by decide) h51 rfl rfl hl.1 rfl (Nat.le_of_ble_eq_true rfl) dX7_takeNumbers_41 (fun r58 w59 H locs hp60 h => ?_)
        obtain ⟨rfl, hr61⟩ := hp60
        rcases hr61 with ⟨hq62, rfl⟩ | rfl
        · refine lv_if_ne (tgt := 49) hx hb dX7_takeNumbers_44 (by decide) (fun _ => ?_) (fun hc => absurd hc (by decide))
          refine lv_aload_n hx hb dX7_takeNumbers_49 rfl (lv_at hl 2 rfl) ?_
          refine r_get kc7 X h 55 1 (by decide) rfl h51 (by decide) kv_413 rfl dX7_takeNumbers_50 ?_
          refine lv_iload hx hb dX7_takeNumbers_53 (lv_at hl 0 rfl) ?_
          refine lv_aload_n hx hb dX7_takeNumbers_55 rfl (lv_at hl 2 rfl) ?_
          refine r_get kc7 X h 55 6 (by decide) rfl h51 (by decide) kv_390 rfl dX7_takeNumbers_56 ?_
          have f63 : w42 57 = .inl (cI, 3, .inl g32) := (kk45 57 (by decide)).trans f37
          obtain ⟨g64, e65⟩ : ∃ z : Nat → Int32, upd g32 1 y50 = z := ⟨_, rfl⟩
          have p66 : rgA 0 99 g64 := rgA_upd p34 e65 (by omega) (by omega)
          refine o_iast (f1 := g64) X hD h 57 0 (by decide) rfl f63 rfl (by unfold vp_in; decide) e65 dX7_takeNumbers_59 (fun H locs w67 e68 h => ?_)
          have f69 : w67 57 = .inl (cI, 3, .inl g64) := (congrFun e68 _).trans (va_up_self _ _ _)
          have ok70 : OK cI cB cZ cO ad w67 := OK.up ok44 e68 (sA_mk p66)
          have kx71 : KX w w67 := KX.up kx56 e68 f63 rfl
          refine lv_iinc (v := 2) (lv' := [(4, .int 2), (3, .int 2), (0, .ref (ad 55)), (1, .ref (ad 14)), (2, .int 3)]) hx hb dX7_takeNumbers_60 hl (k := 0) rfl rfl (by decide) rfl (fun ls hl => ?_)
          refine lv_goto (tgt := 8) hx hb dX7_takeNumbers_63 (by decide) ?_
          refine lv_iload hx hb dX7_takeNumbers_8 (lv_at hl 0 rfl) ?_
          refine lv_iload_n hx hb dX7_takeNumbers_10 rfl (lv_at hl 1 rfl) ?_
          refine lv_icmp_ge (tgt := 66) hx hb dX7_takeNumbers_11 (by decide) (fun _ => ?_) (fun hc => absurd (by decide) hc)
          refine lv_aload_n hx hb dX7_takeNumbers_66 rfl (lv_at hl 2 rfl) ?_
          have f72 : w67 55 = .inr (5, [.ref (ad 56), .ref (ad 57), .int z, .int y47, .int y48, .int y49, .int y50]) := by rw [e68, va_up_ne _ _ (by decide)]; exact h51
          refine n_Vv (na := 0) (As := []) (rest := []) X hD hN h rfl (c_step l G cI cB cZ cO ad w67 z y47 y48 y49 y50 ok70 f72 (by first | omega | decide | (simp only [k00]; omega)) (by first | omega | decide | (simp only [k00]; omega)) (by first | omega | decide | (simp only [k00]; omega)) (by first | omega | decide | (simp only [k00]; omega)) (by first | omega | decide | (simp only [k00]; omega))) ⟨kv_417, kv_418, kv_419, kv_388, kv_420⟩ rfl ⟨by decide, by decide, by decide⟩ ⟨Nat.le_of_ble_eq_true rfl, Nat.le_of_ble_eq_true rfl⟩ ⟨Nat.zero_le _, Nat.zero_le _⟩ (by decide) f72 rfl rfl hl.1 rfl (Nat.le_of_ble_eq_true rfl) dX7_takeNumbers_67 (fun w74 H locs hp75 h => ?_)
          obtain ⟨ok76, kk77, hr78⟩ := hp75
          obtain ⟨y79, y80, y81, y82, h83, h84, h85, h86⟩ := hr78
          have q87 : 0 ≤ y82.toInt ∧ y82.toInt ≤ 99 := txd ok76 h83
          have kx88 : KX w w74 := KX.tr kx71 (F5.x kk77 f72 h83)
          refine lv_aload_n hx hb dX7_takeNumbers_70 rfl (lv_at hl 2 rfl) ?_
          refine r_get kc7 X h 55 5 (by decide) rfl h83 (by decide) kv_392 rfl dX7_takeNumbers_71 ?_
          refine lv_iconst (v := 3) hx hb dX7_takeNumbers_74 (by decide) ?_
          refine lv_icmp_ne (tgt := 82) hx hb dX7_takeNumbers_75 (by decide) (fun hc89 => ?_) (fun hc89 => ?_)
          · have hc89 : ¬ (y81).toInt = 3 := i_ne hc89 rfl rfl
            refine lv_iconst (v := 0) hx hb dX7_takeNumbers_82 (by decide) ?_
            exact e_n X h hr hlk rfl dX7_takeNumbers_83 ⟨ok76, kx88, ⟨⟨_, _, _, _, h83, by omega, by omega, by omega⟩, Or.inr rfl⟩⟩
          · have hc89 : (y81).toInt = 3 := i_eq hc89 rfl rfl
            refine lv_iconst (v := 1) hx hb dX7_takeNumbers_78 (by decide) ?_
            refine lv_goto (tgt := 83) hx hb dX7_takeNumbers_79 (by decide) ?_
            have f90 : w74 57 = .inl (cI, 3, .inl g64) := (kk77 57 (by decide)).trans f69
            exact e_n X h hr hlk rfl dX7_takeNumbers_83 ⟨ok76, kx88, ⟨⟨_, _, _, _, h83, by omega, by omega, by omega⟩, Or.inl ⟨⟨g64, f90, ⟨by rw [← e65, pk_un (by decide), ← e33, pk_us]; omega, by rw [← e65, pk_us]; omega⟩⟩, rfl⟩⟩⟩
        · refine lv_if_ne (tgt := 49) hx hb dX7_takeNumbers_44 (by decide) (fun hc => absurd (by decide) hc) (fun _ => ?_)
          refine lv_iconst (v := 0) hx hb dX7_takeNumbers_47 (by decide) ?_
          exact e_n X h hr hlk rfl dX7_takeNumbers_48 ⟨ok44, kx56, ⟨⟨_, _, _, _, h51, by omega, by omega, by omega⟩, Or.inr rfl⟩⟩
    · refine lv_if_ne (tgt := 49) hx hb dX7_takeNumbers_44 (by decide) (fun hc => absurd (by decide) hc) (fun _ => ?_)
      refine lv_iconst (v := 0) hx hb dX7_takeNumbers_47 (by decide) ?_
      exact e_n X h hr hlk rfl dX7_takeNumbers_48 ⟨ok12, kx24, ⟨⟨_, _, _, _, h19, by omega, by omega, by omega⟩, Or.inr rfl⟩⟩

set_option maxHeartbeats 4000000 in
set_option maxRecDepth 100000 in
theorem c_takeNumbers4 (l : Launch) (G : va_G) (cI cB cZ cO : ClassId) (ad : Nat → Nat) (w : Nat → va_E) (z a b c0 d : Int32) (ok : OK cI cB cZ cO ad w)   (pf : w 55 = .inr (5, [.ref (ad 56), .ref (ad 57), .int z, .int a, .int b, .int c0, .int d])) (hz1 : z.toInt ≤ 150) (hb0 : 0 ≤ b.toInt) (hbz : b.toInt ≤ z.toInt) (hd0 : 0 ≤ d.toInt) (hd1 : d.toInt ≤ 99) : NI l G (tyq cI cB cZ cO) yX7_takeNumbers cX7_takeNumbers 5 (some .boolean) 3 66 74 ad w [.ref (ad 55), .ref (ad 14), .int 4] (fun r w1 => OK cI cB cZ cO ad w1 ∧ KX w w1 ∧ (∃ a1 b1 c1 d1 : Int32, w1 55 = .inr (5, [.ref (ad 56), .ref (ad 57), .int z, .int a1, .int b1, .int c1, .int d1]) ∧ 0 ≤ a1.toInt ∧ a1.toInt ≤ b1.toInt ∧ b1.toInt ≤ z.toInt) ∧ ((∃ f : Nat → Int32, w1 57 = .inl (cI, 3, .inl f) ∧ (f 0).toInt ≤ 3 ∧ (f 1).toInt ≤ 3) ∧ r = 1 ∨ r = 0)) := by
  refine nk_i (own := "NoonShade$Text") rfl (by decide) (Nat.le_of_ble_eq_true rfl) ?_
  intro p e s m below meth c ls X hD hN hr hlk h hl
  have hx := X.1.1
  have hb := X.1.2.1
  have hown := X.1.2.2.2.1
  have hts := X.1.2.2.2.2
  have hl : lv_has ls 5 [(0, .ref (ad 55)), (1, .ref (ad 14)), (2, .int 4)] := hl
  refine lv_iload_n hx hb dX7_takeNumbers_0 rfl (lv_at hl 2 rfl) ?_
  refine n_Si (na := 1) (As := [.int 4]) (rest := []) X hD hN h (c_numbersOf4 l G cI cB cZ cO ad w) ⟨kv_414, kv_415, kv_388, kv_416⟩ ⟨by decide, by decide, by decide⟩ ⟨Nat.le_of_ble_eq_true rfl, Nat.le_of_ble_eq_true rfl⟩ ⟨Nat.zero_le _, Nat.zero_le _⟩ rfl hl.1 rfl (Nat.le_of_ble_eq_true rfl) dX7_takeNumbers_1 (fun r1 w2 H locs hp3 h => ?_)
  obtain ⟨rfl, h4⟩ := hp3
  subst h4
  refine lv_istore_n (lv' := [(3, .int 2), (0, .ref (ad 55)), (1, .ref (ad 14)), (2, .int 4)]) hx hb dX7_takeNumbers_4 rfl hl (by decide) rfl (fun ls hl => ?_)
  refine lv_iconst (v := 0) hx hb dX7_takeNumbers_5 (by decide) ?_
  refine lv_istore (lv' := [(4, .int 0), (3, .int 2), (0, .ref (ad 55)), (1, .ref (ad 14)), (2, .int 4)]) hx hb dX7_takeNumbers_6 hl (by decide) rfl (fun ls hl => ?_)
  refine lv_iload hx hb dX7_takeNumbers_8 (lv_at hl 0 rfl) ?_
  refine lv_iload_n hx hb dX7_takeNumbers_10 rfl (lv_at hl 1 rfl) ?_
  refine lv_icmp_ge (tgt := 66) hx hb dX7_takeNumbers_11 (by decide) (fun hc => absurd hc (by decide)) (fun _ => ?_)
  refine lv_iload hx hb dX7_takeNumbers_14 (lv_at hl 0 rfl) ?_
  refine lv_aload_n hx hb dX7_takeNumbers_16 rfl (lv_at hl 2 rfl) ?_
  refine r_get kc7 X h 55 1 (by decide) rfl pf (by decide) kv_413 rfl dX7_takeNumbers_17 ?_
  obtain ⟨g6, f5, p7⟩ := (show sA cI 3 (rgA 0 99) (w 57) from ok 57 (by decide))
  have f8 : w 57 = .inl (cI, 3, .inl g6) := f5
  refine r_alen X h (v := 3) 57 0 (by decide) rfl f8 rfl rfl dX7_takeNumbers_20 ?_
  refine lv_icmp_ge (tgt := 66) hx hb dX7_takeNumbers_21 (by decide) (fun hc => absurd hc (by decide)) (fun _ => ?_)
  refine lv_aload_n hx hb dX7_takeNumbers_24 rfl (lv_at hl 2 rfl) ?_
  refine n_Vv (na := 0) (As := []) (rest := []) X hD hN h rfl (c_step l G cI cB cZ cO ad w z a b c0 d ok pf (by first | omega | decide | (simp only [k00]; omega)) (by first | omega | decide | (simp only [k00]; omega)) (by first | omega | decide | (simp only [k00]; omega)) (by first | omega | decide | (simp only [k00]; omega)) (by first | omega | decide | (simp only [k00]; omega))) ⟨kv_417, kv_418, kv_419, kv_388, kv_420⟩ rfl ⟨by decide, by decide, by decide⟩ ⟨Nat.le_of_ble_eq_true rfl, Nat.le_of_ble_eq_true rfl⟩ ⟨Nat.zero_le _, Nat.zero_le _⟩ (by decide) pf rfl rfl hl.1 rfl (Nat.le_of_ble_eq_true rfl) dX7_takeNumbers_25 (fun w10 H locs hp11 h => ?_)
  obtain ⟨ok12, kk13, hr14⟩ := hp11
  obtain ⟨y15, y16, y17, y18, h19, h20, h21, h22⟩ := hr14
  have q23 : 0 ≤ y18.toInt ∧ y18.toInt ≤ 99 := txd ok12 h19
  have kx24 : KX w w10 := KX.tr KX.rf (F5.x kk13 pf h19)
  refine lv_aload_n hx hb dX7_takeNumbers_28 rfl (lv_at hl 2 rfl) ?_
  refine r_get kc7 X h 55 5 (by decide) rfl h19 (by decide) kv_392 rfl dX7_takeNumbers_29 ?_
  refine lv_iconst (v := 2) hx hb dX7_takeNumbers_32 (by decide) ?_
  refine lv_icmp_ne (tgt := 47) hx hb dX7_takeNumbers_33 (by decide) (fun hc25 => ?_) (fun hc25 => ?_)
  · have hc25 : ¬ (y17).toInt = 2 := i_ne hc25 rfl rfl
    refine lv_iconst (v := 0) hx hb dX7_takeNumbers_47 (by decide) ?_
    exact e_n X h hr hlk rfl dX7_takeNumbers_48 ⟨ok12, kx24, ⟨⟨_, _, _, _, h19, by omega, by omega, by omega⟩, Or.inr rfl⟩⟩
  · have hc25 : (y17).toInt = 2 := i_eq hc25 rfl rfl
    refine lv_aload_n hx hb dX7_takeNumbers_36 rfl (lv_at hl 2 rfl) ?_
    refine lv_aload_n hx hb dX7_takeNumbers_37 rfl (lv_at hl 3 rfl) ?_
    refine lv_iload_n hx hb dX7_takeNumbers_38 rfl (lv_at hl 4 rfl) ?_
    refine lv_iload hx hb dX7_takeNumbers_39 (lv_at hl 0 rfl) ?_
    refine n_Vi (na := 3) (As := [.ref (ad 14), .int 4, .int 0]) (rest := []) X hD hN h rfl (c_fits40 l G cI cB cZ cO ad w10 z y15 y16 y17 y18 ok12 h19 (by omega) (by omega) (by omega)) ⟨kv_421, kv_422, kv_423, kv_388, kv_424⟩ rfl ⟨by decide, by decide, by decide⟩ ⟨Nat.le_of_ble_eq_true rfl, Nat.le_of_ble_eq_true rfl⟩ ⟨Nat.zero_le _, Nat.zero_le _⟩ (by decide) h19 rfl rfl hl.1 rfl (Nat.le_of_ble_eq_true rfl) dX7_takeNumbers_41 (fun r26 w27 H locs hp28 h => ?_)
    obtain ⟨rfl, hr29⟩ := hp28
    rcases hr29 with ⟨hq30, rfl⟩ | rfl
    · refine lv_if_ne (tgt := 49) hx hb dX7_takeNumbers_44 (by decide) (fun _ => ?_) (fun hc => absurd hc (by decide))
      refine lv_aload_n hx hb dX7_takeNumbers_49 rfl (lv_at hl 2 rfl) ?_
      refine r_get kc7 X h 55 1 (by decide) rfl h19 (by decide) kv_413 rfl dX7_takeNumbers_50 ?_
      refine lv_iload hx hb dX7_takeNumbers_53 (lv_at hl 0 rfl) ?_
      refine lv_aload_n hx hb dX7_takeNumbers_55 rfl (lv_at hl 2 rfl) ?_
      refine r_get kc7 X h 55 6 (by decide) rfl h19 (by decide) kv_390 rfl dX7_takeNumbers_56 ?_
      have f31 : w10 57 = .inl (cI, 3, .inl g6) := (kk13 57 (by decide)).trans f8
      obtain ⟨g32, e33⟩ : ∃ z : Nat → Int32, upd g6 0 y18 = z := ⟨_, rfl⟩
      have p34 : rgA 0 99 g32 := rgA_upd p7 e33 (by omega) (by omega)
      refine o_iast (f1 := g32) X hD h 57 0 (by decide) rfl f31 rfl (by unfold vp_in; decide) e33 dX7_takeNumbers_59 (fun H locs w35 e36 h => ?_)
      have f37 : w35 57 = .inl (cI, 3, .inl g32) := (congrFun e36 _).trans (va_up_self _ _ _)
      have ok38 : OK cI cB cZ cO ad w35 := OK.up ok12 e36 (sA_mk p34)
      have kx39 : KX w w35 := KX.up kx24 e36 f31 rfl
      refine lv_iinc (v := 1) (lv' := [(4, .int 1), (3, .int 2), (0, .ref (ad 55)), (1, .ref (ad 14)), (2, .int 4)]) hx hb dX7_takeNumbers_60 hl (k := 0) rfl rfl (by decide) rfl (fun ls hl => ?_)
      refine lv_goto (tgt := 8) hx hb dX7_takeNumbers_63 (by decide) ?_
      refine lv_iload hx hb dX7_takeNumbers_8 (lv_at hl 0 rfl) ?_
      refine lv_iload_n hx hb dX7_takeNumbers_10 rfl (lv_at hl 1 rfl) ?_
      refine lv_icmp_ge (tgt := 66) hx hb dX7_takeNumbers_11 (by decide) (fun hc => absurd hc (by decide)) (fun _ => ?_)
      refine lv_iload hx hb dX7_takeNumbers_14 (lv_at hl 0 rfl) ?_
      refine lv_aload_n hx hb dX7_takeNumbers_16 rfl (lv_at hl 2 rfl) ?_
      have f40 : w35 55 = .inr (5, [.ref (ad 56), .ref (ad 57), .int z, .int y15, .int y16, .int y17, .int y18]) := by rw [e36, va_up_ne _ _ (by decide)]; exact h19
      refine r_get kc7 X h 55 1 (by decide) rfl f40 (by decide) kv_413 rfl dX7_takeNumbers_17 ?_
      refine r_alen X h (v := 3) 57 0 (by decide) rfl f37 rfl rfl dX7_takeNumbers_20 ?_
      refine lv_icmp_ge (tgt := 66) hx hb dX7_takeNumbers_21 (by decide) (fun hc => absurd hc (by decide)) (fun _ => ?_)
      refine lv_aload_n hx hb dX7_takeNumbers_24 rfl (lv_at hl 2 rfl) ?_
      refine n_Vv (na := 0) (As := []) (rest := []) X hD hN h rfl (c_step l G cI cB cZ cO ad w35 z y15 y16 y17 y18 ok38 f40 (by first | omega | decide | (simp only [k00]; omega)) (by first | omega | decide | (simp only [k00]; omega)) (by first | omega | decide | (simp only [k00]; omega)) (by first | omega | decide | (simp only [k00]; omega)) (by first | omega | decide | (simp only [k00]; omega))) ⟨kv_417, kv_418, kv_419, kv_388, kv_420⟩ rfl ⟨by decide, by decide, by decide⟩ ⟨Nat.le_of_ble_eq_true rfl, Nat.le_of_ble_eq_true rfl⟩ ⟨Nat.zero_le _, Nat.zero_le _⟩ (by decide) f40 rfl rfl hl.1 rfl (Nat.le_of_ble_eq_true rfl) dX7_takeNumbers_25 (fun w42 H locs hp43 h => ?_)
      obtain ⟨ok44, kk45, hr46⟩ := hp43
      obtain ⟨y47, y48, y49, y50, h51, h52, h53, h54⟩ := hr46
      have q55 : 0 ≤ y50.toInt ∧ y50.toInt ≤ 99 := txd ok44 h51
      have kx56 : KX w w42 := KX.tr kx39 (F5.x kk45 f40 h51)
      refine lv_aload_n hx hb dX7_takeNumbers_28 rfl (lv_at hl 2 rfl) ?_
      refine r_get kc7 X h 55 5 (by decide) rfl h51 (by decide) kv_392 rfl dX7_takeNumbers_29 ?_
      refine lv_iconst (v := 2) hx hb dX7_takeNumbers_32 (by decide) ?_
      refine lv_icmp_ne (tgt := 47) hx hb dX7_takeNumbers_33 (by decide) (fun hc57 => ?_) (fun hc57 => ?_)
      · have hc57 : ¬ (y49).toInt = 2 := i_ne hc57 rfl rfl
        refine lv_iconst (v := 0) hx hb dX7_takeNumbers_47 (by decide) ?_
        exact e_n X h hr hlk rfl dX7_takeNumbers_48 ⟨ok44, kx56, ⟨⟨_, _, _, _, h51, by omega, by omega, by omega⟩, Or.inr rfl⟩⟩
      · have hc57 : (y49).toInt = 2 := i_eq hc57 rfl rfl
        refine lv_aload_n hx hb dX7_takeNumbers_36 rfl (lv_at hl 2 rfl) ?_
        refine lv_aload_n hx hb dX7_takeNumbers_37 rfl (lv_at hl 3 rfl) ?_
        refine lv_iload_n hx hb dX7_takeNumbers_38 rfl (lv_at hl 4 rfl) ?_
        refine lv_iload hx hb dX7_takeNumbers_39 (lv_at hl 0 rfl) ?_
        refine n_Vi (na := 3) (As := [.ref (ad 14), .int 4, .int 1]) (rest := []) X hD hN h rfl (c_fits41 l G cI cB cZ cO ad w42 z y47 y48 y49 y50 ok44 h51 (by omega) (by omega) (by omega)) ⟨kv_421, kv_422, kv_423, kv_388, kv_424⟩ rfl ⟨by decide, by decide, by decide⟩ ⟨Nat.le_of_ble_eq_true rfl, Nat.le_of_ble_eq_true rfl⟩ ⟨Nat.zero_le _, Nat.zero_le _⟩ (by decide) h51 rfl rfl hl.1 rfl (Nat.le_of_ble_eq_true rfl) dX7_takeNumbers_41 (fun r58 w59 H locs hp60 h => ?_)
        obtain ⟨rfl, hr61⟩ := hp60
        rcases hr61 with ⟨hq62, rfl⟩ | rfl
        · refine lv_if_ne (tgt := 49) hx hb dX7_takeNumbers_44 (by decide) (fun _ => ?_) (fun hc => absurd hc (by decide))
          refine lv_aload_n hx hb dX7_takeNumbers_49 rfl (lv_at hl 2 rfl) ?_
          refine r_get kc7 X h 55 1 (by decide) rfl h51 (by decide) kv_413 rfl dX7_takeNumbers_50 ?_
          refine lv_iload hx hb dX7_takeNumbers_53 (lv_at hl 0 rfl) ?_
          refine lv_aload_n hx hb dX7_takeNumbers_55 rfl (lv_at hl 2 rfl) ?_
          refine r_get kc7 X h 55 6 (by decide) rfl h51 (by decide) kv_390 rfl dX7_takeNumbers_56 ?_
          have f63 : w42 57 = .inl (cI, 3, .inl g32) := (kk45 57 (by decide)).trans f37
          obtain ⟨g64, e65⟩ : ∃ z : Nat → Int32, upd g32 1 y50 = z := ⟨_, rfl⟩
          have p66 : rgA 0 99 g64 := rgA_upd p34 e65 (by omega) (by omega)
          refine o_iast (f1 := g64) X hD h 57 0 (by decide) rfl f63 rfl (by unfold vp_in; decide) e65 dX7_takeNumbers_59 (fun H locs w67 e68 h => ?_)
          have f69 : w67 57 = .inl (cI, 3, .inl g64) := (congrFun e68 _).trans (va_up_self _ _ _)
          have ok70 : OK cI cB cZ cO ad w67 := OK.up ok44 e68 (sA_mk p66)
          have kx71 : KX w w67 := KX.up kx56 e68 f63 rfl
          refine lv_iinc (v := 2) (lv' := [(4, .int 2), (3, .int 2), (0, .ref (ad 55)), (1, .ref (ad 14)), (2, .int 4)]) hx hb dX7_takeNumbers_60 hl (k := 0) rfl rfl (by decide) rfl (fun ls hl => ?_)
          refine lv_goto (tgt := 8) hx hb dX7_takeNumbers_63 (by decide) ?_
          refine lv_iload hx hb dX7_takeNumbers_8 (lv_at hl 0 rfl) ?_
          refine lv_iload_n hx hb dX7_takeNumbers_10 rfl (lv_at hl 1 rfl) ?_
          refine lv_icmp_ge (tgt := 66) hx hb dX7_takeNumbers_11 (by decide) (fun _ => ?_) (fun hc => absurd (by decide) hc)
          refine lv_aload_n hx hb dX7_takeNumbers_66 rfl (lv_at hl 2 rfl) ?_
          have f72 : w67 55 = .inr (5, [.ref (ad 56), .ref (ad 57), .int z, .int y47, .int y48, .int y49, .int y50]) := by rw [e68, va_up_ne _ _ (by decide)]; exact h51
          refine n_Vv (na := 0) (As := []) (rest := []) X hD hN h rfl (c_step l G cI cB cZ cO ad w67 z y47 y48 y49 y50 ok70 f72 (by first | omega | decide | (simp only [k00]; omega)) (by first | omega | decide | (simp only [k00]; omega)) (by first | omega | decide | (simp only [k00]; omega)) (by first | omega | decide | (simp only [k00]; omega)) (by first | omega | decide | (simp only [k00]; omega))) ⟨kv_417, kv_418, kv_419, kv_388, kv_420⟩ rfl ⟨by decide, by decide, by decide⟩ ⟨Nat.le_of_ble_eq_true rfl, Nat.le_of_ble_eq_true rfl⟩ ⟨Nat.zero_le _, Nat.zero_le _⟩ (by decide) f72 rfl rfl hl.1 rfl (Nat.le_of_ble_eq_true rfl) dX7_takeNumbers_67 (fun w74 H locs hp75 h => ?_)
          obtain ⟨ok76, kk77, hr78⟩ := hp75
          obtain ⟨y79, y80, y81, y82, h83, h84, h85, h86⟩ := hr78
          have q87 : 0 ≤ y82.toInt ∧ y82.toInt ≤ 99 := txd ok76 h83
          have kx88 : KX w w74 := KX.tr kx71 (F5.x kk77 f72 h83)
          refine lv_aload_n hx hb dX7_takeNumbers_70 rfl (lv_at hl 2 rfl) ?_
          refine r_get kc7 X h 55 5 (by decide) rfl h83 (by decide) kv_392 rfl dX7_takeNumbers_71 ?_
          refine lv_iconst (v := 3) hx hb dX7_takeNumbers_74 (by decide) ?_
          refine lv_icmp_ne (tgt := 82) hx hb dX7_takeNumbers_75 (by decide) (fun hc89 => ?_) (fun hc89 => ?_)
          · have hc89 : ¬ (y81).toInt = 3 := i_ne hc89 rfl rfl
            refine lv_iconst (v := 0) hx hb dX7_takeNumbers_82 (by decide) ?_
            exact e_n X h hr hlk rfl dX7_takeNumbers_83 ⟨ok76, kx88, ⟨⟨_, _, _, _, h83, by omega, by omega, by omega⟩, Or.inr rfl⟩⟩
          · have hc89 : (y81).toInt = 3 := i_eq hc89 rfl rfl
            refine lv_iconst (v := 1) hx hb dX7_takeNumbers_78 (by decide) ?_
            refine lv_goto (tgt := 83) hx hb dX7_takeNumbers_79 (by decide) ?_
            have f90 : w74 57 = .inl (cI, 3, .inl g64) := (kk77 57 (by decide)).trans f69
            exact e_n X h hr hlk rfl dX7_takeNumbers_83 ⟨ok76, kx88, ⟨⟨_, _, _, _, h83, by omega, by omega, by omega⟩, Or.inl ⟨⟨g64, f90, ⟨by rw [← e65, pk_un (by decide), ← e33, pk_us]; omega, by rw [← e65, pk_us]; omega⟩⟩, rfl⟩⟩⟩
        · refine lv_if_ne (tgt := 49) hx hb dX7_takeNumbers_44 (by decide) (fun hc => absurd (by decide) hc) (fun _ => ?_)
          refine lv_iconst (v := 0) hx hb dX7_takeNumbers_47 (by decide) ?_
          exact e_n X h hr hlk rfl dX7_takeNumbers_48 ⟨ok44, kx56, ⟨⟨_, _, _, _, h51, by omega, by omega, by omega⟩, Or.inr rfl⟩⟩
    · refine lv_if_ne (tgt := 49) hx hb dX7_takeNumbers_44 (by decide) (fun hc => absurd (by decide) hc) (fun _ => ?_)
      refine lv_iconst (v := 0) hx hb dX7_takeNumbers_47 (by decide) ?_
      exact e_n X h hr hlk rfl dX7_takeNumbers_48 ⟨ok12, kx24, ⟨⟨_, _, _, _, h19, by omega, by omega, by omega⟩, Or.inr rfl⟩⟩

set_option maxHeartbeats 4000000 in
set_option maxRecDepth 100000 in
theorem c_takeNumbers5 (l : Launch) (G : va_G) (cI cB cZ cO : ClassId) (ad : Nat → Nat) (w : Nat → va_E) (z a b c0 d : Int32) (ok : OK cI cB cZ cO ad w)   (pf : w 55 = .inr (5, [.ref (ad 56), .ref (ad 57), .int z, .int a, .int b, .int c0, .int d])) (hz1 : z.toInt ≤ 150) (hb0 : 0 ≤ b.toInt) (hbz : b.toInt ≤ z.toInt) (hd0 : 0 ≤ d.toInt) (hd1 : d.toInt ≤ 99) : NI l G (tyq cI cB cZ cO) yX7_takeNumbers cX7_takeNumbers 5 (some .boolean) 3 66 74 ad w [.ref (ad 55), .ref (ad 14), .int 5] (fun r w1 => OK cI cB cZ cO ad w1 ∧ KX w w1 ∧ (∃ a1 b1 c1 d1 : Int32, w1 55 = .inr (5, [.ref (ad 56), .ref (ad 57), .int z, .int a1, .int b1, .int c1, .int d1]) ∧ 0 ≤ a1.toInt ∧ a1.toInt ≤ b1.toInt ∧ b1.toInt ≤ z.toInt) ∧ ((∃ f : Nat → Int32, w1 57 = .inl (cI, 3, .inl f) ∧ True) ∧ r = 1 ∨ r = 0)) := by
  refine nk_i (own := "NoonShade$Text") rfl (by decide) (Nat.le_of_ble_eq_true rfl) ?_
  intro p e s m below meth c ls X hD hN hr hlk h hl
  have hx := X.1.1
  have hb := X.1.2.1
  have hown := X.1.2.2.2.1
  have hts := X.1.2.2.2.2
  have hl : lv_has ls 5 [(0, .ref (ad 55)), (1, .ref (ad 14)), (2, .int 5)] := hl
  refine lv_iload_n hx hb dX7_takeNumbers_0 rfl (lv_at hl 2 rfl) ?_
  refine n_Si (na := 1) (As := [.int 5]) (rest := []) X hD hN h (c_numbersOf5 l G cI cB cZ cO ad w) ⟨kv_414, kv_415, kv_388, kv_416⟩ ⟨by decide, by decide, by decide⟩ ⟨Nat.le_of_ble_eq_true rfl, Nat.le_of_ble_eq_true rfl⟩ ⟨Nat.zero_le _, Nat.zero_le _⟩ rfl hl.1 rfl (Nat.le_of_ble_eq_true rfl) dX7_takeNumbers_1 (fun r1 w2 H locs hp3 h => ?_)
  obtain ⟨rfl, h4⟩ := hp3
  subst h4
  refine lv_istore_n (lv' := [(3, .int 1), (0, .ref (ad 55)), (1, .ref (ad 14)), (2, .int 5)]) hx hb dX7_takeNumbers_4 rfl hl (by decide) rfl (fun ls hl => ?_)
  refine lv_iconst (v := 0) hx hb dX7_takeNumbers_5 (by decide) ?_
  refine lv_istore (lv' := [(4, .int 0), (3, .int 1), (0, .ref (ad 55)), (1, .ref (ad 14)), (2, .int 5)]) hx hb dX7_takeNumbers_6 hl (by decide) rfl (fun ls hl => ?_)
  refine lv_iload hx hb dX7_takeNumbers_8 (lv_at hl 0 rfl) ?_
  refine lv_iload_n hx hb dX7_takeNumbers_10 rfl (lv_at hl 1 rfl) ?_
  refine lv_icmp_ge (tgt := 66) hx hb dX7_takeNumbers_11 (by decide) (fun hc => absurd hc (by decide)) (fun _ => ?_)
  refine lv_iload hx hb dX7_takeNumbers_14 (lv_at hl 0 rfl) ?_
  refine lv_aload_n hx hb dX7_takeNumbers_16 rfl (lv_at hl 2 rfl) ?_
  refine r_get kc7 X h 55 1 (by decide) rfl pf (by decide) kv_413 rfl dX7_takeNumbers_17 ?_
  obtain ⟨g6, f5, p7⟩ := (show sA cI 3 (rgA 0 99) (w 57) from ok 57 (by decide))
  have f8 : w 57 = .inl (cI, 3, .inl g6) := f5
  refine r_alen X h (v := 3) 57 0 (by decide) rfl f8 rfl rfl dX7_takeNumbers_20 ?_
  refine lv_icmp_ge (tgt := 66) hx hb dX7_takeNumbers_21 (by decide) (fun hc => absurd hc (by decide)) (fun _ => ?_)
  refine lv_aload_n hx hb dX7_takeNumbers_24 rfl (lv_at hl 2 rfl) ?_
  refine n_Vv (na := 0) (As := []) (rest := []) X hD hN h rfl (c_step l G cI cB cZ cO ad w z a b c0 d ok pf (by first | omega | decide | (simp only [k00]; omega)) (by first | omega | decide | (simp only [k00]; omega)) (by first | omega | decide | (simp only [k00]; omega)) (by first | omega | decide | (simp only [k00]; omega)) (by first | omega | decide | (simp only [k00]; omega))) ⟨kv_417, kv_418, kv_419, kv_388, kv_420⟩ rfl ⟨by decide, by decide, by decide⟩ ⟨Nat.le_of_ble_eq_true rfl, Nat.le_of_ble_eq_true rfl⟩ ⟨Nat.zero_le _, Nat.zero_le _⟩ (by decide) pf rfl rfl hl.1 rfl (Nat.le_of_ble_eq_true rfl) dX7_takeNumbers_25 (fun w10 H locs hp11 h => ?_)
  obtain ⟨ok12, kk13, hr14⟩ := hp11
  obtain ⟨y15, y16, y17, y18, h19, h20, h21, h22⟩ := hr14
  have q23 : 0 ≤ y18.toInt ∧ y18.toInt ≤ 99 := txd ok12 h19
  have kx24 : KX w w10 := KX.tr KX.rf (F5.x kk13 pf h19)
  refine lv_aload_n hx hb dX7_takeNumbers_28 rfl (lv_at hl 2 rfl) ?_
  refine r_get kc7 X h 55 5 (by decide) rfl h19 (by decide) kv_392 rfl dX7_takeNumbers_29 ?_
  refine lv_iconst (v := 2) hx hb dX7_takeNumbers_32 (by decide) ?_
  refine lv_icmp_ne (tgt := 47) hx hb dX7_takeNumbers_33 (by decide) (fun hc25 => ?_) (fun hc25 => ?_)
  · have hc25 : ¬ (y17).toInt = 2 := i_ne hc25 rfl rfl
    refine lv_iconst (v := 0) hx hb dX7_takeNumbers_47 (by decide) ?_
    exact e_n X h hr hlk rfl dX7_takeNumbers_48 ⟨ok12, kx24, ⟨⟨_, _, _, _, h19, by omega, by omega, by omega⟩, Or.inr rfl⟩⟩
  · have hc25 : (y17).toInt = 2 := i_eq hc25 rfl rfl
    refine lv_aload_n hx hb dX7_takeNumbers_36 rfl (lv_at hl 2 rfl) ?_
    refine lv_aload_n hx hb dX7_takeNumbers_37 rfl (lv_at hl 3 rfl) ?_
    refine lv_iload_n hx hb dX7_takeNumbers_38 rfl (lv_at hl 4 rfl) ?_
    refine lv_iload hx hb dX7_takeNumbers_39 (lv_at hl 0 rfl) ?_
    refine n_Vi (na := 3) (As := [.ref (ad 14), .int 5, .int 0]) (rest := []) X hD hN h rfl (c_fits50 l G cI cB cZ cO ad w10 z y15 y16 y17 y18 ok12 h19 (by omega) (by omega) (by omega)) ⟨kv_421, kv_422, kv_423, kv_388, kv_424⟩ rfl ⟨by decide, by decide, by decide⟩ ⟨Nat.le_of_ble_eq_true rfl, Nat.le_of_ble_eq_true rfl⟩ ⟨Nat.zero_le _, Nat.zero_le _⟩ (by decide) h19 rfl rfl hl.1 rfl (Nat.le_of_ble_eq_true rfl) dX7_takeNumbers_41 (fun r26 w27 H locs hp28 h => ?_)
    obtain ⟨rfl, hr29⟩ := hp28
    rcases hr29 with ⟨hq30, rfl⟩ | rfl
    · refine lv_if_ne (tgt := 49) hx hb dX7_takeNumbers_44 (by decide) (fun _ => ?_) (fun hc => absurd hc (by decide))
      refine lv_aload_n hx hb dX7_takeNumbers_49 rfl (lv_at hl 2 rfl) ?_
      refine r_get kc7 X h 55 1 (by decide) rfl h19 (by decide) kv_413 rfl dX7_takeNumbers_50 ?_
      refine lv_iload hx hb dX7_takeNumbers_53 (lv_at hl 0 rfl) ?_
      refine lv_aload_n hx hb dX7_takeNumbers_55 rfl (lv_at hl 2 rfl) ?_
      refine r_get kc7 X h 55 6 (by decide) rfl h19 (by decide) kv_390 rfl dX7_takeNumbers_56 ?_
      have f31 : w10 57 = .inl (cI, 3, .inl g6) := (kk13 57 (by decide)).trans f8
      obtain ⟨g32, e33⟩ : ∃ z : Nat → Int32, upd g6 0 y18 = z := ⟨_, rfl⟩
      have p34 : rgA 0 99 g32 := rgA_upd p7 e33 (by omega) (by omega)
      refine o_iast (f1 := g32) X hD h 57 0 (by decide) rfl f31 rfl (by unfold vp_in; decide) e33 dX7_takeNumbers_59 (fun H locs w35 e36 h => ?_)
      have f37 : w35 57 = .inl (cI, 3, .inl g32) := (congrFun e36 _).trans (va_up_self _ _ _)
      have ok38 : OK cI cB cZ cO ad w35 := OK.up ok12 e36 (sA_mk p34)
      have kx39 : KX w w35 := KX.up kx24 e36 f31 rfl
      refine lv_iinc (v := 1) (lv' := [(4, .int 1), (3, .int 1), (0, .ref (ad 55)), (1, .ref (ad 14)), (2, .int 5)]) hx hb dX7_takeNumbers_60 hl (k := 0) rfl rfl (by decide) rfl (fun ls hl => ?_)
      refine lv_goto (tgt := 8) hx hb dX7_takeNumbers_63 (by decide) ?_
      refine lv_iload hx hb dX7_takeNumbers_8 (lv_at hl 0 rfl) ?_
      refine lv_iload_n hx hb dX7_takeNumbers_10 rfl (lv_at hl 1 rfl) ?_
      refine lv_icmp_ge (tgt := 66) hx hb dX7_takeNumbers_11 (by decide) (fun _ => ?_) (fun hc => absurd (by decide) hc)
      refine lv_aload_n hx hb dX7_takeNumbers_66 rfl (lv_at hl 2 rfl) ?_
      have f40 : w35 55 = .inr (5, [.ref (ad 56), .ref (ad 57), .int z, .int y15, .int y16, .int y17, .int y18]) := by rw [e36, va_up_ne _ _ (by decide)]; exact h19
      refine n_Vv (na := 0) (As := []) (rest := []) X hD hN h rfl (c_step l G cI cB cZ cO ad w35 z y15 y16 y17 y18 ok38 f40 (by first | omega | decide | (simp only [k00]; omega)) (by first | omega | decide | (simp only [k00]; omega)) (by first | omega | decide | (simp only [k00]; omega)) (by first | omega | decide | (simp only [k00]; omega)) (by first | omega | decide | (simp only [k00]; omega))) ⟨kv_417, kv_418, kv_419, kv_388, kv_420⟩ rfl ⟨by decide, by decide, by decide⟩ ⟨Nat.le_of_ble_eq_true rfl, Nat.le_of_ble_eq_true rfl⟩ ⟨Nat.zero_le _, Nat.zero_le _⟩ (by decide) f40 rfl rfl hl.1 rfl (Nat.le_of_ble_eq_true rfl) dX7_takeNumbers_67 (fun w42 H locs hp43 h => ?_)
      obtain ⟨ok44, kk45, hr46⟩ := hp43
      obtain ⟨y47, y48, y49, y50, h51, h52, h53, h54⟩ := hr46
      have q55 : 0 ≤ y50.toInt ∧ y50.toInt ≤ 99 := txd ok44 h51
      have kx56 : KX w w42 := KX.tr kx39 (F5.x kk45 f40 h51)
      refine lv_aload_n hx hb dX7_takeNumbers_70 rfl (lv_at hl 2 rfl) ?_
      refine r_get kc7 X h 55 5 (by decide) rfl h51 (by decide) kv_392 rfl dX7_takeNumbers_71 ?_
      refine lv_iconst (v := 3) hx hb dX7_takeNumbers_74 (by decide) ?_
      refine lv_icmp_ne (tgt := 82) hx hb dX7_takeNumbers_75 (by decide) (fun hc57 => ?_) (fun hc57 => ?_)
      · have hc57 : ¬ (y49).toInt = 3 := i_ne hc57 rfl rfl
        refine lv_iconst (v := 0) hx hb dX7_takeNumbers_82 (by decide) ?_
        exact e_n X h hr hlk rfl dX7_takeNumbers_83 ⟨ok44, kx56, ⟨⟨_, _, _, _, h51, by omega, by omega, by omega⟩, Or.inr rfl⟩⟩
      · have hc57 : (y49).toInt = 3 := i_eq hc57 rfl rfl
        refine lv_iconst (v := 1) hx hb dX7_takeNumbers_78 (by decide) ?_
        refine lv_goto (tgt := 83) hx hb dX7_takeNumbers_79 (by decide) ?_
        have f58 : w42 57 = .inl (cI, 3, .inl g32) := (kk45 57 (by decide)).trans f37
        exact e_n X h hr hlk rfl dX7_takeNumbers_83 ⟨ok44, kx56, ⟨⟨_, _, _, _, h51, by omega, by omega, by omega⟩, Or.inl ⟨⟨g32, f58, trivial⟩, rfl⟩⟩⟩
    · refine lv_if_ne (tgt := 49) hx hb dX7_takeNumbers_44 (by decide) (fun hc => absurd (by decide) hc) (fun _ => ?_)
      refine lv_iconst (v := 0) hx hb dX7_takeNumbers_47 (by decide) ?_
      exact e_n X h hr hlk rfl dX7_takeNumbers_48 ⟨ok12, kx24, ⟨⟨_, _, _, _, h19, by omega, by omega, by omega⟩, Or.inr rfl⟩⟩

set_option maxHeartbeats 4000000 in
set_option maxRecDepth 100000 in
theorem c_carryOut0 (l : Launch) (G : va_G) (cI cB cZ cO : ClassId) (ad : Nat → Nat) (w : Nat → va_E) (f : Nat → Int32) (t0 t1 t2 t3 t4 : Int32) (ok : OK cI cB cZ cO ad w)   (pf : w 57 = .inl (cI, 3, .inl f)) (pn : rgA 0 99 f) (p55 : w 55 = .inr (5, [.ref (ad 56), .ref (ad 57), .int t0, .int t1, .int t2, .int t3, .int t4])) : NV l G (tyq cI cB cZ cO) yX7_carryOut cX7_carryOut 3 0 0 74 ad w [.ref (ad 55), .ref (ad 14), .int 0] (fun w1 => OK cI cB cZ cO ad w1 ∧ KB 14 w w1 ∧ True) := by
  refine nk_v (own := "NoonShade$Text") rfl (by decide) (Nat.le_of_ble_eq_true rfl) ?_
  intro p e s m below meth c ls X hD hN hr hlk h hl
  have hx := X.1.1
  have hb := X.1.2.1
  have hown := X.1.2.2.2.1
  have hts := X.1.2.2.2.2
  have hl : lv_has ls 3 [(0, .ref (ad 55)), (1, .ref (ad 14)), (2, .int 0)] := hl
  obtain ⟨v1, e2⟩ : ∃ z : Int32, f 0 = z := ⟨_, rfl⟩
  have h3 := rgA_rd pn e2
  obtain ⟨v4, e5⟩ : ∃ z : Int32, f 1 = z := ⟨_, rfl⟩
  have h6 := rgA_rd pn e5
  obtain ⟨v7, e8⟩ : ∃ z : Int32, f 2 = z := ⟨_, rfl⟩
  have h9 := rgA_rd pn e8
  refine lv_iload_n hx hb dX7_carryOut_0 rfl (lv_at hl 2 rfl) ?_
  refine lv_tableIn (tgt := 36) (off := 35) hx hb dX7_carryOut_1 (by decide) (by decide) (by decide) (by decide) ?_
  refine lv_aload_n hx hb dX7_carryOut_36 rfl (lv_at hl 1 rfl) ?_
  refine lv_aload_n hx hb dX7_carryOut_37 rfl (lv_at hl 0 rfl) ?_
  refine r_get kc7 X h 55 1 (by decide) rfl p55 (by decide) kv_413 rfl dX7_carryOut_38 ?_
  refine lv_iconst (v := 0) hx hb dX7_carryOut_41 (by decide) ?_
  refine o_iald (v := v1) X h 57 0 (by decide) rfl pf rfl (by unfold vp_in; decide) e2 dX7_carryOut_42 ?_
  obtain ⟨q11, q12, q13, q14, q15, f10, h16, h17, h18, h19⟩ := (show sI ad 14 (w 14) from ok 14 (by decide))
  have f20 : w 14 = .inr (1, [.int q11, .int q12, .int q13, .int q14, .int q15, .ref (ad 15), .ref (ad 16), .ref (ad 17), .ref (ad 18), .ref (ad 19), .ref (ad 20), .ref (ad 21), .ref (ad 23), .ref (ad 25)]) := f10
  refine r_put kc2 X hD h 14 0 (by decide) rfl f20 (by decide) kv_425 rfl rfl rfl (Nat.le_of_ble_eq_true rfl) dX7_carryOut_43 (fun H locs w21 e22 h => ?_)
  have f23 : w21 14 = .inr (1, [.int v1, .int q12, .int q13, .int q14, .int q15, .ref (ad 15), .ref (ad 16), .ref (ad 17), .ref (ad 18), .ref (ad 19), .ref (ad 20), .ref (ad 21), .ref (ad 23), .ref (ad 25)]) := (congrFun e22 _).trans (va_up_self _ _ _)
  have ok24 : OK cI cB cZ cO ad w21 := OK.up ok e22 (sI_mk (by omega) (by omega) (by omega) (by omega))
  have kx25 : KB 14 w w21 := KB.up KB.rf e22 f20 rfl (by omega)
  refine lv_goto (tgt := 139) hx hb dX7_carryOut_46 (by decide) ?_
  exact e_v X h hr hlk dX7_carryOut_139 ⟨ok24, kx25, trivial⟩

set_option maxHeartbeats 4000000 in
set_option maxRecDepth 100000 in
theorem c_carryOut1 (l : Launch) (G : va_G) (cI cB cZ cO : ClassId) (ad : Nat → Nat) (w : Nat → va_E) (f : Nat → Int32) (t0 t1 t2 t3 t4 : Int32) (ok : OK cI cB cZ cO ad w)   (pf : w 57 = .inl (cI, 3, .inl f)) (pn : rgA 0 99 f) (p55 : w 55 = .inr (5, [.ref (ad 56), .ref (ad 57), .int t0, .int t1, .int t2, .int t3, .int t4])) (hn1 : (f 1).toInt ≤ 9) : NV l G (tyq cI cB cZ cO) yX7_carryOut cX7_carryOut 3 1 23 74 ad w [.ref (ad 55), .ref (ad 14), .int 1] (fun w1 => OK cI cB cZ cO ad w1 ∧ KB 14 w w1 ∧ True) := by
  refine nk_v (own := "NoonShade$Text") rfl (by decide) (Nat.le_of_ble_eq_true rfl) ?_
  intro p e s m below meth c ls X hD hN hr hlk h hl
  have hx := X.1.1
  have hb := X.1.2.1
  have hown := X.1.2.2.2.1
  have hts := X.1.2.2.2.2
  have hl : lv_has ls 3 [(0, .ref (ad 55)), (1, .ref (ad 14)), (2, .int 1)] := hl
  obtain ⟨v1, e2⟩ : ∃ z : Int32, f 0 = z := ⟨_, rfl⟩
  have h3 := rgA_rd pn e2
  obtain ⟨v4, e5⟩ : ∃ z : Int32, f 1 = z := ⟨_, rfl⟩
  have h6 := rgA_rd pn e5
  rw [e5] at hn1
  obtain ⟨v7, e8⟩ : ∃ z : Int32, f 2 = z := ⟨_, rfl⟩
  have h9 := rgA_rd pn e8
  refine lv_iload_n hx hb dX7_carryOut_0 rfl (lv_at hl 2 rfl) ?_
  refine lv_tableIn (tgt := 49) (off := 48) hx hb dX7_carryOut_1 (by decide) (by decide) (by decide) (by decide) ?_
  refine lv_aload_n hx hb dX7_carryOut_49 rfl (lv_at hl 1 rfl) ?_
  refine lv_aload_n hx hb dX7_carryOut_50 rfl (lv_at hl 0 rfl) ?_
  refine r_get kc7 X h 55 1 (by decide) rfl p55 (by decide) kv_413 rfl dX7_carryOut_51 ?_
  refine lv_iconst (v := 0) hx hb dX7_carryOut_54 (by decide) ?_
  refine o_iald (v := v1) X h 57 0 (by decide) rfl pf rfl (by unfold vp_in; decide) e2 dX7_carryOut_55 ?_
  refine lv_aload_n hx hb dX7_carryOut_56 rfl (lv_at hl 0 rfl) ?_
  refine r_get kc7 X h 55 1 (by decide) rfl p55 (by decide) kv_413 rfl dX7_carryOut_57 ?_
  refine lv_iconst (v := 1) hx hb dX7_carryOut_60 (by decide) ?_
  refine o_iald (v := v4) X h 57 0 (by decide) rfl pf rfl (by unfold vp_in; decide) e5 dX7_carryOut_61 ?_
  refine lv_aload_n hx hb dX7_carryOut_62 rfl (lv_at hl 0 rfl) ?_
  refine r_get kc7 X h 55 1 (by decide) rfl p55 (by decide) kv_413 rfl dX7_carryOut_63 ?_
  refine lv_iconst (v := 2) hx hb dX7_carryOut_66 (by decide) ?_
  refine o_iald (v := v7) X h 57 0 (by decide) rfl pf rfl (by unfold vp_in; decide) e8 dX7_carryOut_67 ?_
  obtain ⟨q14, q15, q16, q17, q18, f13, h19, h20, h21, h22⟩ := (show sI ad 14 (w 14) from ok 14 (by decide))
  have f23 : w 14 = .inr (1, [.int q14, .int q15, .int q16, .int q17, .int q18, .ref (ad 15), .ref (ad 16), .ref (ad 17), .ref (ad 18), .ref (ad 19), .ref (ad 20), .ref (ad 21), .ref (ad 23), .ref (ad 25)]) := f13
  refine n_Vi (na := 3) (As := [.int v1, .int v4, .int v7]) (rest := []) X hD hN h rfl (c_addCaster l G cI cB cZ cO ad w 14 (Or.inr rfl) ok v1 v4 v7 (by omega) (by omega) ) ⟨kv_426, kv_337, kv_338, kv_37, kv_339⟩ rfl ⟨by decide, by decide, by decide⟩ ⟨Nat.le_of_ble_eq_true rfl, Nat.le_of_ble_eq_true rfl⟩ ⟨Nat.zero_le _, Nat.zero_le _⟩ (by decide) f23 rfl rfl hl.1 rfl (Nat.le_of_ble_eq_true rfl) dX7_carryOut_68 (fun r10 w11 H locs hp12 h => ?_)
  obtain ⟨ok25, kk26, hr24⟩ := hp12
  have kx27 : KB 14 w w11 := (FR.kb kk26)
  refine lv_pop hx hb dX7_carryOut_71 rfl ?_
  refine lv_goto (tgt := 139) hx hb dX7_carryOut_72 (by decide) ?_
  exact e_v X h hr hlk dX7_carryOut_139 ⟨ok25, kx27, trivial⟩

set_option maxHeartbeats 4000000 in
set_option maxRecDepth 100000 in
theorem c_carryOut2 (l : Launch) (G : va_G) (cI cB cZ cO : ClassId) (ad : Nat → Nat) (w : Nat → va_E) (f : Nat → Int32) (t0 t1 t2 t3 t4 : Int32) (ok : OK cI cB cZ cO ad w)   (pf : w 57 = .inl (cI, 3, .inl f)) (pn : rgA 0 99 f) (p55 : w 55 = .inr (5, [.ref (ad 56), .ref (ad 57), .int t0, .int t1, .int t2, .int t3, .int t4])) : NV l G (tyq cI cB cZ cO) yX7_carryOut cX7_carryOut 3 1 21 74 ad w [.ref (ad 55), .ref (ad 14), .int 2] (fun w1 => OK cI cB cZ cO ad w1 ∧ KB 14 w w1 ∧ True) := by
  refine nk_v (own := "NoonShade$Text") rfl (by decide) (Nat.le_of_ble_eq_true rfl) ?_
  intro p e s m below meth c ls X hD hN hr hlk h hl
  have hx := X.1.1
  have hb := X.1.2.1
  have hown := X.1.2.2.2.1
  have hts := X.1.2.2.2.2
  have hl : lv_has ls 3 [(0, .ref (ad 55)), (1, .ref (ad 14)), (2, .int 2)] := hl
  obtain ⟨v1, e2⟩ : ∃ z : Int32, f 0 = z := ⟨_, rfl⟩
  have h3 := rgA_rd pn e2
  obtain ⟨v4, e5⟩ : ∃ z : Int32, f 1 = z := ⟨_, rfl⟩
  have h6 := rgA_rd pn e5
  obtain ⟨v7, e8⟩ : ∃ z : Int32, f 2 = z := ⟨_, rfl⟩
  have h9 := rgA_rd pn e8
  refine lv_iload_n hx hb dX7_carryOut_0 rfl (lv_at hl 2 rfl) ?_
  refine lv_tableIn (tgt := 75) (off := 74) hx hb dX7_carryOut_1 (by decide) (by decide) (by decide) (by decide) ?_
  refine lv_aload_n hx hb dX7_carryOut_75 rfl (lv_at hl 1 rfl) ?_
  refine lv_aload_n hx hb dX7_carryOut_76 rfl (lv_at hl 0 rfl) ?_
  refine r_get kc7 X h 55 1 (by decide) rfl p55 (by decide) kv_413 rfl dX7_carryOut_77 ?_
  refine lv_iconst (v := 0) hx hb dX7_carryOut_80 (by decide) ?_
  refine o_iald (v := v1) X h 57 0 (by decide) rfl pf rfl (by unfold vp_in; decide) e2 dX7_carryOut_81 ?_
  obtain ⟨q14, q15, q16, q17, q18, f13, h19, h20, h21, h22⟩ := (show sI ad 14 (w 14) from ok 14 (by decide))
  have f23 : w 14 = .inr (1, [.int q14, .int q15, .int q16, .int q17, .int q18, .ref (ad 15), .ref (ad 16), .ref (ad 17), .ref (ad 18), .ref (ad 19), .ref (ad 20), .ref (ad 21), .ref (ad 23), .ref (ad 25)]) := f13
  refine n_Vi (na := 1) (As := [.int v1]) (rest := []) X hD hN h rfl (c_addJar l G cI cB cZ cO ad w 14 (Or.inr rfl) ok v1  ) ⟨kv_427, kv_341, kv_342, kv_37, kv_343⟩ rfl ⟨by decide, by decide, by decide⟩ ⟨Nat.le_of_ble_eq_true rfl, Nat.le_of_ble_eq_true rfl⟩ ⟨Nat.zero_le _, Nat.zero_le _⟩ (by decide) f23 rfl rfl hl.1 rfl (Nat.le_of_ble_eq_true rfl) dX7_carryOut_82 (fun r10 w11 H locs hp12 h => ?_)
  obtain ⟨ok25, kk26, hr24⟩ := hp12
  have kx27 : KB 14 w w11 := (FR.kb kk26)
  refine lv_pop hx hb dX7_carryOut_85 rfl ?_
  refine lv_goto (tgt := 139) hx hb dX7_carryOut_86 (by decide) ?_
  exact e_v X h hr hlk dX7_carryOut_139 ⟨ok25, kx27, trivial⟩

set_option maxHeartbeats 4000000 in
set_option maxRecDepth 100000 in
theorem c_carryOut3 (l : Launch) (G : va_G) (cI cB cZ cO : ClassId) (ad : Nat → Nat) (w : Nat → va_E) (f : Nat → Int32) (t0 t1 t2 t3 t4 : Int32) (ok : OK cI cB cZ cO ad w)   (pf : w 57 = .inl (cI, 3, .inl f)) (pn : rgA 0 99 f) (p55 : w 55 = .inr (5, [.ref (ad 56), .ref (ad 57), .int t0, .int t1, .int t2, .int t3, .int t4])) (hn0 : (f 0).toInt ≤ 6) (hn1 : (f 1).toInt ≤ 3) : NV l G (tyq cI cB cZ cO) yX7_carryOut cX7_carryOut 3 4 89 74 ad w [.ref (ad 55), .ref (ad 14), .int 3] (fun w1 => OK cI cB cZ cO ad w1 ∧ KB 14 w w1 ∧ True) := by
  refine nk_v (own := "NoonShade$Text") rfl (by decide) (Nat.le_of_ble_eq_true rfl) ?_
  intro p e s m below meth c ls X hD hN hr hlk h hl
  have hx := X.1.1
  have hb := X.1.2.1
  have hown := X.1.2.2.2.1
  have hts := X.1.2.2.2.2
  have hl : lv_has ls 3 [(0, .ref (ad 55)), (1, .ref (ad 14)), (2, .int 3)] := hl
  obtain ⟨v1, e2⟩ : ∃ z : Int32, f 0 = z := ⟨_, rfl⟩
  have h3 := rgA_rd pn e2
  rw [e2] at hn0
  obtain ⟨v4, e5⟩ : ∃ z : Int32, f 1 = z := ⟨_, rfl⟩
  have h6 := rgA_rd pn e5
  rw [e5] at hn1
  obtain ⟨v7, e8⟩ : ∃ z : Int32, f 2 = z := ⟨_, rfl⟩
  have h9 := rgA_rd pn e8
  refine lv_iload_n hx hb dX7_carryOut_0 rfl (lv_at hl 2 rfl) ?_
  refine lv_tableIn (tgt := 89) (off := 88) hx hb dX7_carryOut_1 (by decide) (by decide) (by decide) (by decide) ?_
  refine lv_aload_n hx hb dX7_carryOut_89 rfl (lv_at hl 1 rfl) ?_
  refine lv_aload_n hx hb dX7_carryOut_90 rfl (lv_at hl 0 rfl) ?_
  refine r_get kc7 X h 55 1 (by decide) rfl p55 (by decide) kv_413 rfl dX7_carryOut_91 ?_
  refine lv_iconst (v := 0) hx hb dX7_carryOut_94 (by decide) ?_
  refine o_iald (v := v1) X h 57 0 (by decide) rfl pf rfl (by unfold vp_in; decide) e2 dX7_carryOut_95 ?_
  refine lv_aload_n hx hb dX7_carryOut_96 rfl (lv_at hl 0 rfl) ?_
  refine r_get kc7 X h 55 1 (by decide) rfl p55 (by decide) kv_413 rfl dX7_carryOut_97 ?_
  refine lv_iconst (v := 1) hx hb dX7_carryOut_100 (by decide) ?_
  refine o_iald (v := v4) X h 57 0 (by decide) rfl pf rfl (by unfold vp_in; decide) e5 dX7_carryOut_101 ?_
  obtain ⟨q14, q15, q16, q17, q18, f13, h19, h20, h21, h22⟩ := (show sI ad 14 (w 14) from ok 14 (by decide))
  have f23 : w 14 = .inr (1, [.int q14, .int q15, .int q16, .int q17, .int q18, .ref (ad 15), .ref (ad 16), .ref (ad 17), .ref (ad 18), .ref (ad 19), .ref (ad 20), .ref (ad 21), .ref (ad 23), .ref (ad 25)]) := f13
  refine n_Vi (na := 2) (As := [.int v1, .int v4]) (rest := []) X hD hN h rfl (c_draw l G cI cB cZ cO ad w 14 (Or.inr rfl) ok v1 v4 (by omega) (by omega) (by omega) (by omega) ) ⟨kv_428, kv_236, kv_237, kv_37, kv_238⟩ rfl ⟨by decide, by decide, by decide⟩ ⟨Nat.le_of_ble_eq_true rfl, Nat.le_of_ble_eq_true rfl⟩ ⟨Nat.zero_le _, Nat.zero_le _⟩ (by decide) f23 rfl rfl hl.1 rfl (Nat.le_of_ble_eq_true rfl) dX7_carryOut_102 (fun r10 w11 H locs hp12 h => ?_)
  obtain ⟨ok25, kk26, hr24⟩ := hp12
  have kx27 : KB 14 w w11 := kk26
  refine lv_pop hx hb dX7_carryOut_105 rfl ?_
  refine lv_goto (tgt := 139) hx hb dX7_carryOut_106 (by decide) ?_
  exact e_v X h hr hlk dX7_carryOut_139 ⟨ok25, kx27, trivial⟩

set_option maxHeartbeats 4000000 in
set_option maxRecDepth 100000 in
theorem c_carryOut4 (l : Launch) (G : va_G) (cI cB cZ cO : ClassId) (ad : Nat → Nat) (w : Nat → va_E) (f : Nat → Int32) (t0 t1 t2 t3 t4 : Int32) (ok : OK cI cB cZ cO ad w)   (pf : w 57 = .inl (cI, 3, .inl f)) (pn : rgA 0 99 f) (p55 : w 55 = .inr (5, [.ref (ad 56), .ref (ad 57), .int t0, .int t1, .int t2, .int t3, .int t4])) (hn0 : (f 0).toInt ≤ 3) (hn1 : (f 1).toInt ≤ 3) : NV l G (tyq cI cB cZ cO) yX7_carryOut cX7_carryOut 3 3 68 74 ad w [.ref (ad 55), .ref (ad 14), .int 4] (fun w1 => OK cI cB cZ cO ad w1 ∧ KB 14 w w1 ∧ True) := by
  refine nk_v (own := "NoonShade$Text") rfl (by decide) (Nat.le_of_ble_eq_true rfl) ?_
  intro p e s m below meth c ls X hD hN hr hlk h hl
  have hx := X.1.1
  have hb := X.1.2.1
  have hown := X.1.2.2.2.1
  have hts := X.1.2.2.2.2
  have hl : lv_has ls 3 [(0, .ref (ad 55)), (1, .ref (ad 14)), (2, .int 4)] := hl
  obtain ⟨v1, e2⟩ : ∃ z : Int32, f 0 = z := ⟨_, rfl⟩
  have h3 := rgA_rd pn e2
  rw [e2] at hn0
  obtain ⟨v4, e5⟩ : ∃ z : Int32, f 1 = z := ⟨_, rfl⟩
  have h6 := rgA_rd pn e5
  rw [e5] at hn1
  obtain ⟨v7, e8⟩ : ∃ z : Int32, f 2 = z := ⟨_, rfl⟩
  have h9 := rgA_rd pn e8
  refine lv_iload_n hx hb dX7_carryOut_0 rfl (lv_at hl 2 rfl) ?_
  refine lv_tableIn (tgt := 109) (off := 108) hx hb dX7_carryOut_1 (by decide) (by decide) (by decide) (by decide) ?_
  refine lv_aload_n hx hb dX7_carryOut_109 rfl (lv_at hl 1 rfl) ?_
  refine lv_aload_n hx hb dX7_carryOut_110 rfl (lv_at hl 0 rfl) ?_
  refine r_get kc7 X h 55 1 (by decide) rfl p55 (by decide) kv_413 rfl dX7_carryOut_111 ?_
  refine lv_iconst (v := 0) hx hb dX7_carryOut_114 (by decide) ?_
  refine o_iald (v := v1) X h 57 0 (by decide) rfl pf rfl (by unfold vp_in; decide) e2 dX7_carryOut_115 ?_
  refine lv_aload_n hx hb dX7_carryOut_116 rfl (lv_at hl 0 rfl) ?_
  refine r_get kc7 X h 55 1 (by decide) rfl p55 (by decide) kv_413 rfl dX7_carryOut_117 ?_
  refine lv_iconst (v := 1) hx hb dX7_carryOut_120 (by decide) ?_
  refine o_iald (v := v4) X h 57 0 (by decide) rfl pf rfl (by unfold vp_in; decide) e5 dX7_carryOut_121 ?_
  obtain ⟨q14, q15, q16, q17, q18, f13, h19, h20, h21, h22⟩ := (show sI ad 14 (w 14) from ok 14 (by decide))
  have f23 : w 14 = .inr (1, [.int q14, .int q15, .int q16, .int q17, .int q18, .ref (ad 15), .ref (ad 16), .ref (ad 17), .ref (ad 18), .ref (ad 19), .ref (ad 20), .ref (ad 21), .ref (ad 23), .ref (ad 25)]) := f13
  refine n_Vi (na := 2) (As := [.int v1, .int v4]) (rest := []) X hD hN h rfl (c_pour l G cI cB cZ cO ad w 14 (Or.inr rfl) ok v1 v4 (by omega) (by omega) (by omega) (by omega) ) ⟨kv_429, kv_240, kv_241, kv_37, kv_242⟩ rfl ⟨by decide, by decide, by decide⟩ ⟨Nat.le_of_ble_eq_true rfl, Nat.le_of_ble_eq_true rfl⟩ ⟨Nat.zero_le _, Nat.zero_le _⟩ (by decide) f23 rfl rfl hl.1 rfl (Nat.le_of_ble_eq_true rfl) dX7_carryOut_122 (fun r10 w11 H locs hp12 h => ?_)
  obtain ⟨ok25, kk26, hr24⟩ := hp12
  have kx27 : KB 14 w w11 := kk26
  refine lv_pop hx hb dX7_carryOut_125 rfl ?_
  refine lv_goto (tgt := 139) hx hb dX7_carryOut_126 (by decide) ?_
  exact e_v X h hr hlk dX7_carryOut_139 ⟨ok25, kx27, trivial⟩

set_option maxHeartbeats 4000000 in
set_option maxRecDepth 100000 in
theorem c_carryOut5 (l : Launch) (G : va_G) (cI cB cZ cO : ClassId) (ad : Nat → Nat) (w : Nat → va_E) (f : Nat → Int32) (t0 t1 t2 t3 t4 : Int32) (ok : OK cI cB cZ cO ad w)   (pf : w 57 = .inl (cI, 3, .inl f)) (pn : rgA 0 99 f) (p55 : w 55 = .inr (5, [.ref (ad 56), .ref (ad 57), .int t0, .int t1, .int t2, .int t3, .int t4])) : NV l G (tyq cI cB cZ cO) yX7_carryOut cX7_carryOut 3 4 90 74 ad w [.ref (ad 55), .ref (ad 14), .int 5] (fun w1 => OK cI cB cZ cO ad w1 ∧ KB 14 w w1 ∧ True) := by
  refine nk_v (own := "NoonShade$Text") rfl (by decide) (Nat.le_of_ble_eq_true rfl) ?_
  intro p e s m below meth c ls X hD hN hr hlk h hl
  have hx := X.1.1
  have hb := X.1.2.1
  have hown := X.1.2.2.2.1
  have hts := X.1.2.2.2.2
  have hl : lv_has ls 3 [(0, .ref (ad 55)), (1, .ref (ad 14)), (2, .int 5)] := hl
  obtain ⟨v1, e2⟩ : ∃ z : Int32, f 0 = z := ⟨_, rfl⟩
  have h3 := rgA_rd pn e2
  obtain ⟨v4, e5⟩ : ∃ z : Int32, f 1 = z := ⟨_, rfl⟩
  have h6 := rgA_rd pn e5
  obtain ⟨v7, e8⟩ : ∃ z : Int32, f 2 = z := ⟨_, rfl⟩
  have h9 := rgA_rd pn e8
  refine lv_iload_n hx hb dX7_carryOut_0 rfl (lv_at hl 2 rfl) ?_
  refine lv_tableOut (tgt := 129) hx hb dX7_carryOut_1 (by decide) (by decide) ?_
  refine lv_aload_n hx hb dX7_carryOut_129 rfl (lv_at hl 1 rfl) ?_
  refine lv_aload_n hx hb dX7_carryOut_130 rfl (lv_at hl 0 rfl) ?_
  refine r_get kc7 X h 55 1 (by decide) rfl p55 (by decide) kv_413 rfl dX7_carryOut_131 ?_
  refine lv_iconst (v := 0) hx hb dX7_carryOut_134 (by decide) ?_
  refine o_iald (v := v1) X h 57 0 (by decide) rfl pf rfl (by unfold vp_in; decide) e2 dX7_carryOut_135 ?_
  obtain ⟨q14, q15, q16, q17, q18, f13, h19, h20, h21, h22⟩ := (show sI ad 14 (w 14) from ok 14 (by decide))
  have f23 : w 14 = .inr (1, [.int q14, .int q15, .int q16, .int q17, .int q18, .ref (ad 15), .ref (ad 16), .ref (ad 17), .ref (ad 18), .ref (ad 19), .ref (ad 20), .ref (ad 21), .ref (ad 23), .ref (ad 25)]) := f13
  refine n_Vv (na := 1) (As := [.int v1]) (rest := []) X hD hN h rfl (c_passHours l G cI cB cZ cO ad w 14 (Or.inr rfl) ok v1 (by omega) (by omega) ) ⟨kv_430, kv_251, kv_252, kv_37, kv_253⟩ rfl ⟨by decide, by decide, by decide⟩ ⟨Nat.le_of_ble_eq_true rfl, Nat.le_of_ble_eq_true rfl⟩ ⟨Nat.zero_le _, Nat.zero_le _⟩ (by decide) f23 rfl rfl hl.1 rfl (Nat.le_of_ble_eq_true rfl) dX7_carryOut_136 (fun w11 H locs hp12 h => ?_)
  obtain ⟨ok25, kk26, hr24⟩ := hp12
  have kx27 : KB 14 w w11 := kk26
  exact e_v X h hr hlk dX7_carryOut_139 ⟨ok25, kx27, trivial⟩

set_option maxHeartbeats 4000000 in
set_option maxRecDepth 100000 in
theorem c_tell (l : Launch) (G : va_G) (cI cB cZ cO : ClassId) (ad : Nat → Nat) (w : Nat → va_E) (z a b c0 d : Int32) (ok : OK cI cB cZ cO ad w)   (pf : w 55 = .inr (5, [.ref (ad 56), .ref (ad 57), .int z, .int a, .int b, .int c0, .int d])) (hz1 : z.toInt ≤ 150) (hd0 : 0 ≤ d.toInt) (hd1 : d.toInt ≤ 99) (hz0 : 0 ≤ z.toInt) : NI l G (tyq cI cB cZ cO) yX7_tell cX7_tell 4 (some .int) 6 127 74 ad w [.ref (ad 55), .ref (ad 14)] (fun r w1 => OK cI cB cZ cO ad w1 ∧ KX w w1 ∧ True) := by
  refine nk_i (own := "NoonShade$Text") rfl (by decide) (Nat.le_of_ble_eq_true rfl) ?_
  intro p e s m below meth c ls X hD hN hr hlk h hl
  have hx := X.1.1
  have hb := X.1.2.1
  have hown := X.1.2.2.2.1
  have hts := X.1.2.2.2.2
  have hl : lv_has ls 4 [(0, .ref (ad 55)), (1, .ref (ad 14))] := hl
  refine lv_aload_n hx hb dX7_tell_0 rfl (lv_at hl 1 rfl) ?_
  refine lv_iconst (v := 0) hx hb dX7_tell_1 (by decide) ?_
  obtain ⟨q5, q6, q7, q8, q9, f4, h10, h11, h12, h13⟩ := (show sI ad 14 (w 14) from ok 14 (by decide))
  have f14 : w 14 = .inr (1, [.int q5, .int q6, .int q7, .int q8, .int q9, .ref (ad 15), .ref (ad 16), .ref (ad 17), .ref (ad 18), .ref (ad 19), .ref (ad 20), .ref (ad 21), .ref (ad 23), .ref (ad 25)]) := f4
  refine n_Vv (na := 1) (As := [.int 0]) (rest := []) X hD hN h rfl (c_begin l G cI cB cZ cO ad w 14 (Or.inr rfl) ok (0 : Int32)  ) ⟨kv_431, kv_332, kv_333, kv_37, kv_334⟩ rfl ⟨by decide, by decide, by decide⟩ ⟨Nat.le_of_ble_eq_true rfl, Nat.le_of_ble_eq_true rfl⟩ ⟨Nat.zero_le _, Nat.zero_le _⟩ (by decide) f14 rfl rfl hl.1 rfl (Nat.le_of_ble_eq_true rfl) dX7_tell_2 (fun w2 H locs hp3 h => ?_)
  obtain ⟨ok16, kk17, hr15⟩ := hp3
  have kx18 : KX w w2 := (FR.x kk17)
  refine lv_aload_n hx hb dX7_tell_5 rfl (lv_at hl 0 rfl) ?_
  refine lv_iconst (v := 0) hx hb dX7_tell_6 (by decide) ?_
  have f19 : w2 55 = .inr (5, [.ref (ad 56), .ref (ad 57), .int z, .int a, .int b, .int c0, .int d]) := (kk17 55 (by decide)).trans pf
  refine r_put kc7 X hD h 55 4 (by decide) rfl f19 (by decide) kv_378 rfl rfl rfl (Nat.le_of_ble_eq_true rfl) dX7_tell_7 (fun H locs w20 e21 h => ?_)
  have f22 : w20 55 = .inr (5, [.ref (ad 56), .ref (ad 57), .int z, .int a, .int 0, .int c0, .int d]) := (congrFun e21 _).trans (va_up_self _ _ _)
  have ok23 : OK cI cB cZ cO ad w20 := OK.up ok16 e21 (sT_mk (by omega) (by omega) (by omega) (by omega))
  have kx24 : KX w w20 := KX.up kx18 e21 f19 rfl
  refine lv_iconst (v := 0) hx hb dX7_tell_10 (by decide) ?_
  refine lv_istore_n (lv' := [(2, .int 0), (0, .ref (ad 55)), (1, .ref (ad 14))]) hx hb dX7_tell_11 rfl hl (by decide) rfl (fun ls hl => ?_)
  have hloop31 : ∀ (d32 : Nat) (L25 : Int32) (C27 : Int32) (C28 : Int32) (C29 : Int32) (C30 : Int32) (wL26 : Nat → va_E) (H : Heap) (locs : List Loc) (ls : Array Slot), 0 ≤ L25.toInt → L25.toInt ≤ 151 → C28.toInt ≤ z.toInt → 0 ≤ C28.toInt → C28.toInt ≤ 150 → 0 ≤ C30.toInt → C30.toInt ≤ 99 → OK cI cB cZ cO ad wL26 → KX w wL26 → wL26 55 = .inr (5, [.ref (ad 56), .ref (ad 57), .int z, .int C27, .int C28, .int C29, .int C30]) → 151 - L25.toInt < (d32 : Int) → St G 74 ad (wA 74 ad s.heap.size) s.heap wL26 H locs → lv_has ls 4 [(2, .int L25), (0, .ref (ad 55)), (1, .ref (ad 14))] → W p l e { frames := 6, cells := 0, slots := 0, locals := 127 } s m [.ref (ad 55), .ref (ad 14)].toArray below meth c H locs 0 0 (MQ below (va_Qi (fun r w1 => OK cI cB cZ cO ad w1 ∧ KX w w1 ∧ True) (Aft G 74 ad) (wA 74 ad s.heap.size)) [.ref (ad 55), .ref (ad 14)].toArray s 0 0 (wA 74 ad s.heap.size)) (F0 m 12 ls []) := by
    intro d32
    induction d32 with
    | zero => intro L25 C27 C28 C29 C30 wL26 H locs ls hi35 hi36 hi37 hi38 hi39 hi40 hi41 ok42 kx43 cf44 hm34 h hl; exfalso; omega
    | succ d32 ih33 =>
      intro L25 C27 C28 C29 C30 wL26 H locs ls hi35 hi36 hi37 hi38 hi39 hi40 hi41 ok42 kx43 cf44 hm34 h hl
      refine lv_iload_n hx hb dX7_tell_12 rfl (lv_at hl 0 rfl) ?_
      refine lv_sipush (v := 150) hx hb dX7_tell_13 (by decide) ?_
      refine lv_icmp_gt (tgt := 94) hx hb dX7_tell_16 (by decide) (fun hc46 => ?_) (fun hc46 => ?_)
      · have hc46 : 150 < (L25).toInt := i_lt hc46 rfl rfl
        refine lv_bipush (v := (-10)) hx hb dX7_tell_94 (by decide) ?_
        refine lv_aload_n hx hb dX7_tell_96 rfl (lv_at hl 1 rfl) ?_
        refine r_get kc7 X h 55 3 (by decide) rfl cf44 (by decide) kv_379 rfl dX7_tell_97 ?_
        obtain ⟨z49, e47⟩ : ∃ z : Int32, ((-10) : Int32) - C27 = z := ⟨_, rfl⟩
        refine o_isub (z := z49) hx hb dX7_tell_100 e47 ?_
        exact e_i X h hr hlk dX7_tell_101 ⟨ok42, kx43, trivial⟩
      · have hc46 : ¬ 150 < (L25).toInt := i_nlt hc46 rfl rfl
        refine lv_aload_n hx hb dX7_tell_19 rfl (lv_at hl 1 rfl) ?_
        refine n_Vv (na := 0) (As := []) (rest := []) X hD hN h rfl (c_step l G cI cB cZ cO ad wL26 z C27 C28 C29 C30 ok42 cf44 (by first | omega | decide | (simp only [k00]; omega)) (by first | omega | decide | (simp only [k00]; omega)) (by first | omega | decide | (simp only [k00]; omega)) (by first | omega | decide | (simp only [k00]; omega)) (by first | omega | decide | (simp only [k00]; omega))) ⟨kv_417, kv_418, kv_419, kv_388, kv_420⟩ rfl ⟨by decide, by decide, by decide⟩ ⟨Nat.le_of_ble_eq_true rfl, Nat.le_of_ble_eq_true rfl⟩ ⟨Nat.zero_le _, Nat.zero_le _⟩ (by decide) cf44 rfl rfl hl.1 rfl (Nat.le_of_ble_eq_true rfl) dX7_tell_20 (fun w51 H locs hp52 h => ?_)
        obtain ⟨ok53, kk54, hr55⟩ := hp52
        obtain ⟨y56, y57, y58, y59, h60, h61, h62, h63⟩ := hr55
        have q64 : 0 ≤ y59.toInt ∧ y59.toInt ≤ 99 := txd ok53 h60
        have kx65 : KX w w51 := KX.tr kx43 (F5.x kk54 cf44 h60)
        refine lv_aload_n hx hb dX7_tell_23 rfl (lv_at hl 1 rfl) ?_
        refine r_get kc7 X h 55 5 (by decide) rfl h60 (by decide) kv_392 rfl dX7_tell_24 ?_
        refine lv_if_ne (tgt := 36) hx hb dX7_tell_27 (by decide) (fun hc66 => ?_) (fun hc66 => ?_)
        · have hc66 : ¬ (y58).toInt = 0 := i_ne hc66 rfl rfl
          refine lv_aload_n hx hb dX7_tell_36 rfl (lv_at hl 1 rfl) ?_
          refine r_get kc7 X h 55 5 (by decide) rfl h60 (by decide) kv_392 rfl dX7_tell_37 ?_
          refine lv_iconst (v := 1) hx hb dX7_tell_40 (by decide) ?_
          refine lv_icmp_ne (tgt := 51) hx hb dX7_tell_41 (by decide) (fun hc67 => ?_) (fun hc67 => ?_)
          · have hc67 : ¬ (y58).toInt = 1 := i_ne hc67 rfl rfl
            refine lv_iconst (v := (-1)) hx hb dX7_tell_51 (by decide) ?_
            refine lv_istore_n (lv' := [(3, .int (-1)), (2, .int L25), (0, .ref (ad 55)), (1, .ref (ad 14))]) hx hb dX7_tell_52 rfl hl (by decide) rfl (fun ls hl => ?_)
            refine lv_aload_n hx hb dX7_tell_53 rfl (lv_at hl 3 rfl) ?_
            refine lv_iload_n hx hb dX7_tell_54 rfl (lv_at hl 0 rfl) ?_
            refine lv_iload_n hx hb dX7_tell_55 rfl (lv_at hl 1 rfl) ?_
            refine lv_if_ne (tgt := 63) hx hb dX7_tell_56 (by decide) (fun hc68 => ?_) (fun hc68 => ?_)
            · have hc68 : ¬ (L25).toInt = 0 := i_ne hc68 rfl rfl
              refine lv_iconst (v := 0) hx hb dX7_tell_63 (by decide) ?_
              refine n_Si (na := 3) (As := [.ref (ad 14), .int (-1), .int 0]) (rest := []) X hD hN h (c_mayBegin0 l G cI cB cZ cO ad w51  ok53 ((-1) : Int32) (by decide) (by decide) ) ⟨kv_432, kv_433, kv_388, kv_434⟩ ⟨by decide, by decide, by decide⟩ ⟨Nat.le_of_ble_eq_true rfl, Nat.le_of_ble_eq_true rfl⟩ ⟨Nat.zero_le _, Nat.zero_le _⟩ rfl hl.1 rfl (Nat.le_of_ble_eq_true rfl) dX7_tell_64 (fun r69 w70 H locs hp71 h => ?_)
              obtain ⟨rfl, hr72⟩ := hp71
              rcases hr72 with ⟨hq73, rfl⟩ | rfl
              · exfalso; first | omega | exact absurd hq73 (by decide)
              · refine lv_if_eq (tgt := 94) hx hb dX7_tell_67 (by decide) (fun _ => ?_) (fun hc => absurd (by decide) hc)
                refine lv_bipush (v := (-10)) hx hb dX7_tell_94 (by decide) ?_
                refine lv_aload_n hx hb dX7_tell_96 rfl (lv_at hl 2 rfl) ?_
                refine r_get kc7 X h 55 3 (by decide) rfl h60 (by decide) kv_379 rfl dX7_tell_97 ?_
                obtain ⟨z76, e74, t75⟩ := x_sub (x := ((-10) : Int32)) (y := y56) (a := (-10)) (b := (y56).toInt) rfl rfl (by omega) (by omega)
                refine o_isub (z := z76) hx hb dX7_tell_100 e74 ?_
                exact e_i X h hr hlk dX7_tell_101 ⟨ok53, kx65, trivial⟩
            · have hc68 : (L25).toInt = 0 := i_eq hc68 rfl rfl
              refine lv_iconst (v := 1) hx hb dX7_tell_59 (by decide) ?_
              refine lv_goto (tgt := 64) hx hb dX7_tell_60 (by decide) ?_
              refine n_Si (na := 3) (As := [.ref (ad 14), .int (-1), .int 1]) (rest := []) X hD hN h (c_mayBegin1 l G cI cB cZ cO ad w51  ok53 ((-1) : Int32) (by decide) (by decide) ) ⟨kv_432, kv_433, kv_388, kv_434⟩ ⟨by decide, by decide, by decide⟩ ⟨Nat.le_of_ble_eq_true rfl, Nat.le_of_ble_eq_true rfl⟩ ⟨Nat.zero_le _, Nat.zero_le _⟩ rfl hl.1 rfl (Nat.le_of_ble_eq_true rfl) dX7_tell_64 (fun r77 w78 H locs hp79 h => ?_)
              obtain ⟨rfl, hr80⟩ := hp79
              rcases hr80 with ⟨hq81, rfl⟩ | rfl
              · exfalso; first | omega | exact absurd hq81 (by decide)
              · refine lv_if_eq (tgt := 94) hx hb dX7_tell_67 (by decide) (fun _ => ?_) (fun hc => absurd (by decide) hc)
                refine lv_bipush (v := (-10)) hx hb dX7_tell_94 (by decide) ?_
                refine lv_aload_n hx hb dX7_tell_96 rfl (lv_at hl 2 rfl) ?_
                refine r_get kc7 X h 55 3 (by decide) rfl h60 (by decide) kv_379 rfl dX7_tell_97 ?_
                obtain ⟨z84, e82, t83⟩ := x_sub (x := ((-10) : Int32)) (y := y56) (a := (-10)) (b := (y56).toInt) rfl rfl (by omega) (by omega)
                refine o_isub (z := z84) hx hb dX7_tell_100 e82 ?_
                exact e_i X h hr hlk dX7_tell_101 ⟨ok53, kx65, trivial⟩
          · have hc67 : (y58).toInt = 1 := i_eq hc67 rfl rfl
            refine lv_aload_n hx hb dX7_tell_44 rfl (lv_at hl 1 rfl) ?_
            refine n_Vi (na := 0) (As := []) (rest := []) X hD hN h rfl (c_wordNumber l G cI cB cZ cO ad w51 z y56 y57 y58 y59 ok53   h60 (by first | omega | decide | (simp only [k00]; omega)) (by first | omega | decide | (simp only [k00]; omega)) (by first | omega | decide | (simp only [k00]; omega)) (by first | omega | decide | (simp only [k00]; omega))) ⟨kv_435, kv_436, kv_437, kv_388, kv_438⟩ rfl ⟨by decide, by decide, by decide⟩ ⟨Nat.le_of_ble_eq_true rfl, Nat.le_of_ble_eq_true rfl⟩ ⟨Nat.zero_le _, Nat.zero_le _⟩ (by decide) h60 rfl rfl hl.1 rfl (Nat.le_of_ble_eq_true rfl) dX7_tell_45 (fun r85 w86 H locs hp87 h => ?_)
            obtain ⟨rfl, hr88⟩ := hp87
            obtain ⟨h89, h90⟩ := hr88
            refine lv_goto (tgt := 52) hx hb dX7_tell_48 (by decide) ?_
            refine lv_istore_n (lv' := [(3, .int r85), (2, .int L25), (0, .ref (ad 55)), (1, .ref (ad 14))]) hx hb dX7_tell_52 rfl hl (by decide) rfl (fun ls hl => ?_)
            refine lv_aload_n hx hb dX7_tell_53 rfl (lv_at hl 3 rfl) ?_
            refine lv_iload_n hx hb dX7_tell_54 rfl (lv_at hl 0 rfl) ?_
            refine lv_iload_n hx hb dX7_tell_55 rfl (lv_at hl 1 rfl) ?_
            refine lv_if_ne (tgt := 63) hx hb dX7_tell_56 (by decide) (fun hc91 => ?_) (fun hc91 => ?_)
            · have hc91 : ¬ (L25).toInt = 0 := i_ne hc91 rfl rfl
              refine lv_iconst (v := 0) hx hb dX7_tell_63 (by decide) ?_
              refine n_Si (na := 3) (As := [.ref (ad 14), .int r85, .int 0]) (rest := []) X hD hN h (c_mayBegin0 l G cI cB cZ cO ad w51  ok53 r85 (by omega) (by omega) ) ⟨kv_432, kv_433, kv_388, kv_434⟩ ⟨by decide, by decide, by decide⟩ ⟨Nat.le_of_ble_eq_true rfl, Nat.le_of_ble_eq_true rfl⟩ ⟨Nat.zero_le _, Nat.zero_le _⟩ rfl hl.1 rfl (Nat.le_of_ble_eq_true rfl) dX7_tell_64 (fun r92 w93 H locs hp94 h => ?_)
              obtain ⟨rfl, hr95⟩ := hp94
              rcases hr95 with ⟨hq96, rfl⟩ | rfl
              · refine lv_if_eq (tgt := 94) hx hb dX7_tell_67 (by decide) (fun hc => absurd hc (by decide)) (fun _ => ?_)
                refine lv_aload_n hx hb dX7_tell_70 rfl (lv_at hl 2 rfl) ?_
                refine lv_aload_n hx hb dX7_tell_71 rfl (lv_at hl 3 rfl) ?_
                refine lv_iload_n hx hb dX7_tell_72 rfl (lv_at hl 0 rfl) ?_
                have hq97 : r85 = 0 ∨ r85 = 1 ∨ r85 = 2 ∨ r85 = 3 ∨ r85 = 4 ∨ r85 = 5 := by simp only [fa_eq]; simp only [show ((0 : Int32).toInt = 0) from rfl, show ((1 : Int32).toInt = 1) from rfl, show ((2 : Int32).toInt = 2) from rfl, show ((3 : Int32).toInt = 3) from rfl, show ((4 : Int32).toInt = 4) from rfl, show ((5 : Int32).toInt = 5) from rfl]; omega
                rcases hq97 with rfl | rfl | rfl | rfl | rfl | rfl
                · refine n_Vi (na := 2) (As := [.ref (ad 14), .int 0]) (rest := []) X hD hN h rfl (c_takeNumbers0 l G cI cB cZ cO ad w51 z y56 y57 y58 y59 ok53 h60 (by first | omega | (simp only [k00]; omega)) (by first | omega | (simp only [k00]; omega)) (by first | omega | (simp only [k00]; omega)) (by first | omega | (simp only [k00]; omega)) (by first | omega | (simp only [k00]; omega))) ⟨kv_439, kv_440, kv_441, kv_388, kv_442⟩ rfl ⟨by decide, by decide, by decide⟩ ⟨Nat.le_of_ble_eq_true rfl, Nat.le_of_ble_eq_true rfl⟩ ⟨Nat.zero_le _, Nat.zero_le _⟩ (by decide) h60 rfl rfl hl.1 rfl (Nat.le_of_ble_eq_true rfl) dX7_tell_73 (fun r98 w99 H locs hp100 h => ?_)
                  obtain ⟨ok101, kk102, h103, hr104⟩ := hp100
                  have kx105 : KX w w99 := KX.tr kx65 kk102
                  obtain ⟨y106, y107, y108, y109, h110, h111, h112, h113⟩ := h103
                  have q114 : 0 ≤ y109.toInt ∧ y109.toInt ≤ 99 := txd ok101 h110
                  rcases hr104 with ⟨⟨g115, f116, h118⟩, rfl⟩ | rfl
                  · have p119 : rgA 0 99 g115 := nm99 ok101 f116
                    refine lv_if_ne (tgt := 82) hx hb dX7_tell_76 (by decide) (fun _ => ?_) (fun hc => absurd hc (by decide))
                    refine lv_aload_n hx hb dX7_tell_82 rfl (lv_at hl 2 rfl) ?_
                    refine lv_aload_n hx hb dX7_tell_83 rfl (lv_at hl 3 rfl) ?_
                    refine lv_iload_n hx hb dX7_tell_84 rfl (lv_at hl 0 rfl) ?_
                    refine n_Vv (na := 2) (As := [.ref (ad 14), .int 0]) (rest := []) X hD hN h rfl (c_carryOut0 l G cI cB cZ cO ad w99 g115 _ _ _ _ _ ok101 f116 p119 h110 ) ⟨kv_443, kv_444, kv_445, kv_388, kv_446⟩ rfl ⟨by decide, by decide, by decide⟩ ⟨Nat.le_of_ble_eq_true rfl, Nat.le_of_ble_eq_true rfl⟩ ⟨Nat.zero_le _, Nat.zero_le _⟩ (by decide) h110 rfl rfl hl.1 rfl (Nat.le_of_ble_eq_true rfl) dX7_tell_85 (fun w121 H locs hp122 h => ?_)
                    obtain ⟨ok123, kk124, hr125⟩ := hp122
                    have kx126 : KX w w121 := KX.tr kx105 kk124.1
                    obtain ⟨z127, e128, t129⟩ := x_add (x := L25) (y := 1) (a := L25.toInt) (b := 1) rfl rfl (by omega) (by omega)
                    refine lv_iinc (v := z127) (lv' := [(2, .int z127), (3, .int 0), (0, .ref (ad 55)), (1, .ref (ad 14))]) hx hb dX7_tell_88 hl (k := 1) rfl e128 (by decide) rfl (fun ls hl => ?_)
                    refine lv_goto (tgt := 12) hx hb dX7_tell_91 (by decide) ?_
                    have f130 : w121 55 = .inr (5, [.ref (ad 56), .ref (ad 57), .int z, .int y106, .int y107, .int y108, .int y109]) := (kk124.2 55 (by decide)).trans h110
                    exact ih33  z127 y106 y107 y108 y109 w121 _ _ _ (by omega) (by omega) (by omega) (by omega) (by omega) (by omega) (by omega) ok123 kx126 f130 (by omega) h (lv_sub hl [0, 2, 3] rfl)
                  · refine lv_if_ne (tgt := 82) hx hb dX7_tell_76 (by decide) (fun hc => absurd (by decide) hc) (fun _ => ?_)
                    refine lv_goto (tgt := 94) hx hb dX7_tell_79 (by decide) ?_
                    refine lv_bipush (v := (-10)) hx hb dX7_tell_94 (by decide) ?_
                    refine lv_aload_n hx hb dX7_tell_96 rfl (lv_at hl 2 rfl) ?_
                    refine r_get kc7 X h 55 3 (by decide) rfl h110 (by decide) kv_379 rfl dX7_tell_97 ?_
                    obtain ⟨z133, e131, t132⟩ := x_sub (x := ((-10) : Int32)) (y := y106) (a := (-10)) (b := (y106).toInt) rfl rfl (by omega) (by omega)
                    refine o_isub (z := z133) hx hb dX7_tell_100 e131 ?_
                    exact e_i X h hr hlk dX7_tell_101 ⟨ok101, kx105, trivial⟩
                · refine n_Vi (na := 2) (As := [.ref (ad 14), .int 1]) (rest := []) X hD hN h rfl (c_takeNumbers1 l G cI cB cZ cO ad w51 z y56 y57 y58 y59 ok53 h60 (by first | omega | (simp only [k00]; omega)) (by first | omega | (simp only [k00]; omega)) (by first | omega | (simp only [k00]; omega)) (by first | omega | (simp only [k00]; omega)) (by first | omega | (simp only [k00]; omega))) ⟨kv_439, kv_440, kv_441, kv_388, kv_442⟩ rfl ⟨by decide, by decide, by decide⟩ ⟨Nat.le_of_ble_eq_true rfl, Nat.le_of_ble_eq_true rfl⟩ ⟨Nat.zero_le _, Nat.zero_le _⟩ (by decide) h60 rfl rfl hl.1 rfl (Nat.le_of_ble_eq_true rfl) dX7_tell_73 (fun r134 w135 H locs hp136 h => ?_)
                  obtain ⟨ok137, kk138, h139, hr140⟩ := hp136
                  have kx141 : KX w w135 := KX.tr kx65 kk138
                  obtain ⟨y142, y143, y144, y145, h146, h147, h148, h149⟩ := h139
                  have q150 : 0 ≤ y145.toInt ∧ y145.toInt ≤ 99 := txd ok137 h146
                  rcases hr140 with ⟨⟨g151, f152, h154⟩, rfl⟩ | rfl
                  · have p155 : rgA 0 99 g151 := nm99 ok137 f152
                    refine lv_if_ne (tgt := 82) hx hb dX7_tell_76 (by decide) (fun _ => ?_) (fun hc => absurd hc (by decide))
                    refine lv_aload_n hx hb dX7_tell_82 rfl (lv_at hl 2 rfl) ?_
                    refine lv_aload_n hx hb dX7_tell_83 rfl (lv_at hl 3 rfl) ?_
                    refine lv_iload_n hx hb dX7_tell_84 rfl (lv_at hl 0 rfl) ?_
                    refine n_Vv (na := 2) (As := [.ref (ad 14), .int 1]) (rest := []) X hD hN h rfl (c_carryOut1 l G cI cB cZ cO ad w135 g151 _ _ _ _ _ ok137 f152 p155 h146 h154) ⟨kv_443, kv_444, kv_445, kv_388, kv_446⟩ rfl ⟨by decide, by decide, by decide⟩ ⟨Nat.le_of_ble_eq_true rfl, Nat.le_of_ble_eq_true rfl⟩ ⟨Nat.zero_le _, Nat.zero_le _⟩ (by decide) h146 rfl rfl hl.1 rfl (Nat.le_of_ble_eq_true rfl) dX7_tell_85 (fun w157 H locs hp158 h => ?_)
                    obtain ⟨ok159, kk160, hr161⟩ := hp158
                    have kx162 : KX w w157 := KX.tr kx141 kk160.1
                    obtain ⟨z163, e164, t165⟩ := x_add (x := L25) (y := 1) (a := L25.toInt) (b := 1) rfl rfl (by omega) (by omega)
                    refine lv_iinc (v := z163) (lv' := [(2, .int z163), (3, .int 1), (0, .ref (ad 55)), (1, .ref (ad 14))]) hx hb dX7_tell_88 hl (k := 1) rfl e164 (by decide) rfl (fun ls hl => ?_)
                    refine lv_goto (tgt := 12) hx hb dX7_tell_91 (by decide) ?_
                    have f166 : w157 55 = .inr (5, [.ref (ad 56), .ref (ad 57), .int z, .int y142, .int y143, .int y144, .int y145]) := (kk160.2 55 (by decide)).trans h146
                    exact ih33  z163 y142 y143 y144 y145 w157 _ _ _ (by omega) (by omega) (by omega) (by omega) (by omega) (by omega) (by omega) ok159 kx162 f166 (by omega) h (lv_sub hl [0, 2, 3] rfl)
                  · refine lv_if_ne (tgt := 82) hx hb dX7_tell_76 (by decide) (fun hc => absurd (by decide) hc) (fun _ => ?_)
                    refine lv_goto (tgt := 94) hx hb dX7_tell_79 (by decide) ?_
                    refine lv_bipush (v := (-10)) hx hb dX7_tell_94 (by decide) ?_
                    refine lv_aload_n hx hb dX7_tell_96 rfl (lv_at hl 2 rfl) ?_
                    refine r_get kc7 X h 55 3 (by decide) rfl h146 (by decide) kv_379 rfl dX7_tell_97 ?_
                    obtain ⟨z169, e167, t168⟩ := x_sub (x := ((-10) : Int32)) (y := y142) (a := (-10)) (b := (y142).toInt) rfl rfl (by omega) (by omega)
                    refine o_isub (z := z169) hx hb dX7_tell_100 e167 ?_
                    exact e_i X h hr hlk dX7_tell_101 ⟨ok137, kx141, trivial⟩
                · refine n_Vi (na := 2) (As := [.ref (ad 14), .int 2]) (rest := []) X hD hN h rfl (c_takeNumbers2 l G cI cB cZ cO ad w51 z y56 y57 y58 y59 ok53 h60 (by first | omega | (simp only [k00]; omega)) (by first | omega | (simp only [k00]; omega)) (by first | omega | (simp only [k00]; omega)) (by first | omega | (simp only [k00]; omega)) (by first | omega | (simp only [k00]; omega))) ⟨kv_439, kv_440, kv_441, kv_388, kv_442⟩ rfl ⟨by decide, by decide, by decide⟩ ⟨Nat.le_of_ble_eq_true rfl, Nat.le_of_ble_eq_true rfl⟩ ⟨Nat.zero_le _, Nat.zero_le _⟩ (by decide) h60 rfl rfl hl.1 rfl (Nat.le_of_ble_eq_true rfl) dX7_tell_73 (fun r170 w171 H locs hp172 h => ?_)
                  obtain ⟨ok173, kk174, h175, hr176⟩ := hp172
                  have kx177 : KX w w171 := KX.tr kx65 kk174
                  obtain ⟨y178, y179, y180, y181, h182, h183, h184, h185⟩ := h175
                  have q186 : 0 ≤ y181.toInt ∧ y181.toInt ≤ 99 := txd ok173 h182
                  rcases hr176 with ⟨⟨g187, f188, h190⟩, rfl⟩ | rfl
                  · have p191 : rgA 0 99 g187 := nm99 ok173 f188
                    refine lv_if_ne (tgt := 82) hx hb dX7_tell_76 (by decide) (fun _ => ?_) (fun hc => absurd hc (by decide))
                    refine lv_aload_n hx hb dX7_tell_82 rfl (lv_at hl 2 rfl) ?_
                    refine lv_aload_n hx hb dX7_tell_83 rfl (lv_at hl 3 rfl) ?_
                    refine lv_iload_n hx hb dX7_tell_84 rfl (lv_at hl 0 rfl) ?_
                    refine n_Vv (na := 2) (As := [.ref (ad 14), .int 2]) (rest := []) X hD hN h rfl (c_carryOut2 l G cI cB cZ cO ad w171 g187 _ _ _ _ _ ok173 f188 p191 h182 ) ⟨kv_443, kv_444, kv_445, kv_388, kv_446⟩ rfl ⟨by decide, by decide, by decide⟩ ⟨Nat.le_of_ble_eq_true rfl, Nat.le_of_ble_eq_true rfl⟩ ⟨Nat.zero_le _, Nat.zero_le _⟩ (by decide) h182 rfl rfl hl.1 rfl (Nat.le_of_ble_eq_true rfl) dX7_tell_85 (fun w193 H locs hp194 h => ?_)
                    obtain ⟨ok195, kk196, hr197⟩ := hp194
                    have kx198 : KX w w193 := KX.tr kx177 kk196.1
                    obtain ⟨z199, e200, t201⟩ := x_add (x := L25) (y := 1) (a := L25.toInt) (b := 1) rfl rfl (by omega) (by omega)
                    refine lv_iinc (v := z199) (lv' := [(2, .int z199), (3, .int 2), (0, .ref (ad 55)), (1, .ref (ad 14))]) hx hb dX7_tell_88 hl (k := 1) rfl e200 (by decide) rfl (fun ls hl => ?_)
                    refine lv_goto (tgt := 12) hx hb dX7_tell_91 (by decide) ?_
                    have f202 : w193 55 = .inr (5, [.ref (ad 56), .ref (ad 57), .int z, .int y178, .int y179, .int y180, .int y181]) := (kk196.2 55 (by decide)).trans h182
                    exact ih33  z199 y178 y179 y180 y181 w193 _ _ _ (by omega) (by omega) (by omega) (by omega) (by omega) (by omega) (by omega) ok195 kx198 f202 (by omega) h (lv_sub hl [0, 2, 3] rfl)
                  · refine lv_if_ne (tgt := 82) hx hb dX7_tell_76 (by decide) (fun hc => absurd (by decide) hc) (fun _ => ?_)
                    refine lv_goto (tgt := 94) hx hb dX7_tell_79 (by decide) ?_
                    refine lv_bipush (v := (-10)) hx hb dX7_tell_94 (by decide) ?_
                    refine lv_aload_n hx hb dX7_tell_96 rfl (lv_at hl 2 rfl) ?_
                    refine r_get kc7 X h 55 3 (by decide) rfl h182 (by decide) kv_379 rfl dX7_tell_97 ?_
                    obtain ⟨z205, e203, t204⟩ := x_sub (x := ((-10) : Int32)) (y := y178) (a := (-10)) (b := (y178).toInt) rfl rfl (by omega) (by omega)
                    refine o_isub (z := z205) hx hb dX7_tell_100 e203 ?_
                    exact e_i X h hr hlk dX7_tell_101 ⟨ok173, kx177, trivial⟩
                · refine n_Vi (na := 2) (As := [.ref (ad 14), .int 3]) (rest := []) X hD hN h rfl (c_takeNumbers3 l G cI cB cZ cO ad w51 z y56 y57 y58 y59 ok53 h60 (by first | omega | (simp only [k00]; omega)) (by first | omega | (simp only [k00]; omega)) (by first | omega | (simp only [k00]; omega)) (by first | omega | (simp only [k00]; omega)) (by first | omega | (simp only [k00]; omega))) ⟨kv_439, kv_440, kv_441, kv_388, kv_442⟩ rfl ⟨by decide, by decide, by decide⟩ ⟨Nat.le_of_ble_eq_true rfl, Nat.le_of_ble_eq_true rfl⟩ ⟨Nat.zero_le _, Nat.zero_le _⟩ (by decide) h60 rfl rfl hl.1 rfl (Nat.le_of_ble_eq_true rfl) dX7_tell_73 (fun r206 w207 H locs hp208 h => ?_)
                  obtain ⟨ok209, kk210, h211, hr212⟩ := hp208
                  have kx213 : KX w w207 := KX.tr kx65 kk210
                  obtain ⟨y214, y215, y216, y217, h218, h219, h220, h221⟩ := h211
                  have q222 : 0 ≤ y217.toInt ∧ y217.toInt ≤ 99 := txd ok209 h218
                  rcases hr212 with ⟨⟨g223, f224, h226, h227⟩, rfl⟩ | rfl
                  · have p228 : rgA 0 99 g223 := nm99 ok209 f224
                    refine lv_if_ne (tgt := 82) hx hb dX7_tell_76 (by decide) (fun _ => ?_) (fun hc => absurd hc (by decide))
                    refine lv_aload_n hx hb dX7_tell_82 rfl (lv_at hl 2 rfl) ?_
                    refine lv_aload_n hx hb dX7_tell_83 rfl (lv_at hl 3 rfl) ?_
                    refine lv_iload_n hx hb dX7_tell_84 rfl (lv_at hl 0 rfl) ?_
                    refine n_Vv (na := 2) (As := [.ref (ad 14), .int 3]) (rest := []) X hD hN h rfl (c_carryOut3 l G cI cB cZ cO ad w207 g223 _ _ _ _ _ ok209 f224 p228 h218 h226 h227) ⟨kv_443, kv_444, kv_445, kv_388, kv_446⟩ rfl ⟨by decide, by decide, by decide⟩ ⟨Nat.le_of_ble_eq_true rfl, Nat.le_of_ble_eq_true rfl⟩ ⟨Nat.zero_le _, Nat.zero_le _⟩ (by decide) h218 rfl rfl hl.1 rfl (Nat.le_of_ble_eq_true rfl) dX7_tell_85 (fun w230 H locs hp231 h => ?_)
                    obtain ⟨ok232, kk233, hr234⟩ := hp231
                    have kx235 : KX w w230 := KX.tr kx213 kk233.1
                    obtain ⟨z236, e237, t238⟩ := x_add (x := L25) (y := 1) (a := L25.toInt) (b := 1) rfl rfl (by omega) (by omega)
                    refine lv_iinc (v := z236) (lv' := [(2, .int z236), (3, .int 3), (0, .ref (ad 55)), (1, .ref (ad 14))]) hx hb dX7_tell_88 hl (k := 1) rfl e237 (by decide) rfl (fun ls hl => ?_)
                    refine lv_goto (tgt := 12) hx hb dX7_tell_91 (by decide) ?_
                    have f239 : w230 55 = .inr (5, [.ref (ad 56), .ref (ad 57), .int z, .int y214, .int y215, .int y216, .int y217]) := (kk233.2 55 (by decide)).trans h218
                    exact ih33  z236 y214 y215 y216 y217 w230 _ _ _ (by omega) (by omega) (by omega) (by omega) (by omega) (by omega) (by omega) ok232 kx235 f239 (by omega) h (lv_sub hl [0, 2, 3] rfl)
                  · refine lv_if_ne (tgt := 82) hx hb dX7_tell_76 (by decide) (fun hc => absurd (by decide) hc) (fun _ => ?_)
                    refine lv_goto (tgt := 94) hx hb dX7_tell_79 (by decide) ?_
                    refine lv_bipush (v := (-10)) hx hb dX7_tell_94 (by decide) ?_
                    refine lv_aload_n hx hb dX7_tell_96 rfl (lv_at hl 2 rfl) ?_
                    refine r_get kc7 X h 55 3 (by decide) rfl h218 (by decide) kv_379 rfl dX7_tell_97 ?_
                    obtain ⟨z242, e240, t241⟩ := x_sub (x := ((-10) : Int32)) (y := y214) (a := (-10)) (b := (y214).toInt) rfl rfl (by omega) (by omega)
                    refine o_isub (z := z242) hx hb dX7_tell_100 e240 ?_
                    exact e_i X h hr hlk dX7_tell_101 ⟨ok209, kx213, trivial⟩
                · refine n_Vi (na := 2) (As := [.ref (ad 14), .int 4]) (rest := []) X hD hN h rfl (c_takeNumbers4 l G cI cB cZ cO ad w51 z y56 y57 y58 y59 ok53 h60 (by first | omega | (simp only [k00]; omega)) (by first | omega | (simp only [k00]; omega)) (by first | omega | (simp only [k00]; omega)) (by first | omega | (simp only [k00]; omega)) (by first | omega | (simp only [k00]; omega))) ⟨kv_439, kv_440, kv_441, kv_388, kv_442⟩ rfl ⟨by decide, by decide, by decide⟩ ⟨Nat.le_of_ble_eq_true rfl, Nat.le_of_ble_eq_true rfl⟩ ⟨Nat.zero_le _, Nat.zero_le _⟩ (by decide) h60 rfl rfl hl.1 rfl (Nat.le_of_ble_eq_true rfl) dX7_tell_73 (fun r243 w244 H locs hp245 h => ?_)
                  obtain ⟨ok246, kk247, h248, hr249⟩ := hp245
                  have kx250 : KX w w244 := KX.tr kx65 kk247
                  obtain ⟨y251, y252, y253, y254, h255, h256, h257, h258⟩ := h248
                  have q259 : 0 ≤ y254.toInt ∧ y254.toInt ≤ 99 := txd ok246 h255
                  rcases hr249 with ⟨⟨g260, f261, h263, h264⟩, rfl⟩ | rfl
                  · have p265 : rgA 0 99 g260 := nm99 ok246 f261
                    refine lv_if_ne (tgt := 82) hx hb dX7_tell_76 (by decide) (fun _ => ?_) (fun hc => absurd hc (by decide))
                    refine lv_aload_n hx hb dX7_tell_82 rfl (lv_at hl 2 rfl) ?_
                    refine lv_aload_n hx hb dX7_tell_83 rfl (lv_at hl 3 rfl) ?_
                    refine lv_iload_n hx hb dX7_tell_84 rfl (lv_at hl 0 rfl) ?_
                    refine n_Vv (na := 2) (As := [.ref (ad 14), .int 4]) (rest := []) X hD hN h rfl (c_carryOut4 l G cI cB cZ cO ad w244 g260 _ _ _ _ _ ok246 f261 p265 h255 h263 h264) ⟨kv_443, kv_444, kv_445, kv_388, kv_446⟩ rfl ⟨by decide, by decide, by decide⟩ ⟨Nat.le_of_ble_eq_true rfl, Nat.le_of_ble_eq_true rfl⟩ ⟨Nat.zero_le _, Nat.zero_le _⟩ (by decide) h255 rfl rfl hl.1 rfl (Nat.le_of_ble_eq_true rfl) dX7_tell_85 (fun w267 H locs hp268 h => ?_)
                    obtain ⟨ok269, kk270, hr271⟩ := hp268
                    have kx272 : KX w w267 := KX.tr kx250 kk270.1
                    obtain ⟨z273, e274, t275⟩ := x_add (x := L25) (y := 1) (a := L25.toInt) (b := 1) rfl rfl (by omega) (by omega)
                    refine lv_iinc (v := z273) (lv' := [(2, .int z273), (3, .int 4), (0, .ref (ad 55)), (1, .ref (ad 14))]) hx hb dX7_tell_88 hl (k := 1) rfl e274 (by decide) rfl (fun ls hl => ?_)
                    refine lv_goto (tgt := 12) hx hb dX7_tell_91 (by decide) ?_
                    have f276 : w267 55 = .inr (5, [.ref (ad 56), .ref (ad 57), .int z, .int y251, .int y252, .int y253, .int y254]) := (kk270.2 55 (by decide)).trans h255
                    exact ih33  z273 y251 y252 y253 y254 w267 _ _ _ (by omega) (by omega) (by omega) (by omega) (by omega) (by omega) (by omega) ok269 kx272 f276 (by omega) h (lv_sub hl [0, 2, 3] rfl)
                  · refine lv_if_ne (tgt := 82) hx hb dX7_tell_76 (by decide) (fun hc => absurd (by decide) hc) (fun _ => ?_)
                    refine lv_goto (tgt := 94) hx hb dX7_tell_79 (by decide) ?_
                    refine lv_bipush (v := (-10)) hx hb dX7_tell_94 (by decide) ?_
                    refine lv_aload_n hx hb dX7_tell_96 rfl (lv_at hl 2 rfl) ?_
                    refine r_get kc7 X h 55 3 (by decide) rfl h255 (by decide) kv_379 rfl dX7_tell_97 ?_
                    obtain ⟨z279, e277, t278⟩ := x_sub (x := ((-10) : Int32)) (y := y251) (a := (-10)) (b := (y251).toInt) rfl rfl (by omega) (by omega)
                    refine o_isub (z := z279) hx hb dX7_tell_100 e277 ?_
                    exact e_i X h hr hlk dX7_tell_101 ⟨ok246, kx250, trivial⟩
                · refine n_Vi (na := 2) (As := [.ref (ad 14), .int 5]) (rest := []) X hD hN h rfl (c_takeNumbers5 l G cI cB cZ cO ad w51 z y56 y57 y58 y59 ok53 h60 (by first | omega | (simp only [k00]; omega)) (by first | omega | (simp only [k00]; omega)) (by first | omega | (simp only [k00]; omega)) (by first | omega | (simp only [k00]; omega)) (by first | omega | (simp only [k00]; omega))) ⟨kv_439, kv_440, kv_441, kv_388, kv_442⟩ rfl ⟨by decide, by decide, by decide⟩ ⟨Nat.le_of_ble_eq_true rfl, Nat.le_of_ble_eq_true rfl⟩ ⟨Nat.zero_le _, Nat.zero_le _⟩ (by decide) h60 rfl rfl hl.1 rfl (Nat.le_of_ble_eq_true rfl) dX7_tell_73 (fun r280 w281 H locs hp282 h => ?_)
                  obtain ⟨ok283, kk284, h285, hr286⟩ := hp282
                  have kx287 : KX w w281 := KX.tr kx65 kk284
                  obtain ⟨y288, y289, y290, y291, h292, h293, h294, h295⟩ := h285
                  have q296 : 0 ≤ y291.toInt ∧ y291.toInt ≤ 99 := txd ok283 h292
                  rcases hr286 with ⟨⟨g297, f298, h300⟩, rfl⟩ | rfl
                  · have p301 : rgA 0 99 g297 := nm99 ok283 f298
                    refine lv_if_ne (tgt := 82) hx hb dX7_tell_76 (by decide) (fun _ => ?_) (fun hc => absurd hc (by decide))
                    refine lv_aload_n hx hb dX7_tell_82 rfl (lv_at hl 2 rfl) ?_
                    refine lv_aload_n hx hb dX7_tell_83 rfl (lv_at hl 3 rfl) ?_
                    refine lv_iload_n hx hb dX7_tell_84 rfl (lv_at hl 0 rfl) ?_
                    refine n_Vv (na := 2) (As := [.ref (ad 14), .int 5]) (rest := []) X hD hN h rfl (c_carryOut5 l G cI cB cZ cO ad w281 g297 _ _ _ _ _ ok283 f298 p301 h292 ) ⟨kv_443, kv_444, kv_445, kv_388, kv_446⟩ rfl ⟨by decide, by decide, by decide⟩ ⟨Nat.le_of_ble_eq_true rfl, Nat.le_of_ble_eq_true rfl⟩ ⟨Nat.zero_le _, Nat.zero_le _⟩ (by decide) h292 rfl rfl hl.1 rfl (Nat.le_of_ble_eq_true rfl) dX7_tell_85 (fun w303 H locs hp304 h => ?_)
                    obtain ⟨ok305, kk306, hr307⟩ := hp304
                    have kx308 : KX w w303 := KX.tr kx287 kk306.1
                    obtain ⟨z309, e310, t311⟩ := x_add (x := L25) (y := 1) (a := L25.toInt) (b := 1) rfl rfl (by omega) (by omega)
                    refine lv_iinc (v := z309) (lv' := [(2, .int z309), (3, .int 5), (0, .ref (ad 55)), (1, .ref (ad 14))]) hx hb dX7_tell_88 hl (k := 1) rfl e310 (by decide) rfl (fun ls hl => ?_)
                    refine lv_goto (tgt := 12) hx hb dX7_tell_91 (by decide) ?_
                    have f312 : w303 55 = .inr (5, [.ref (ad 56), .ref (ad 57), .int z, .int y288, .int y289, .int y290, .int y291]) := (kk306.2 55 (by decide)).trans h292
                    exact ih33  z309 y288 y289 y290 y291 w303 _ _ _ (by omega) (by omega) (by omega) (by omega) (by omega) (by omega) (by omega) ok305 kx308 f312 (by omega) h (lv_sub hl [0, 2, 3] rfl)
                  · refine lv_if_ne (tgt := 82) hx hb dX7_tell_76 (by decide) (fun hc => absurd (by decide) hc) (fun _ => ?_)
                    refine lv_goto (tgt := 94) hx hb dX7_tell_79 (by decide) ?_
                    refine lv_bipush (v := (-10)) hx hb dX7_tell_94 (by decide) ?_
                    refine lv_aload_n hx hb dX7_tell_96 rfl (lv_at hl 2 rfl) ?_
                    refine r_get kc7 X h 55 3 (by decide) rfl h292 (by decide) kv_379 rfl dX7_tell_97 ?_
                    obtain ⟨z315, e313, t314⟩ := x_sub (x := ((-10) : Int32)) (y := y288) (a := (-10)) (b := (y288).toInt) rfl rfl (by omega) (by omega)
                    refine o_isub (z := z315) hx hb dX7_tell_100 e313 ?_
                    exact e_i X h hr hlk dX7_tell_101 ⟨ok283, kx287, trivial⟩
              · refine lv_if_eq (tgt := 94) hx hb dX7_tell_67 (by decide) (fun _ => ?_) (fun hc => absurd (by decide) hc)
                refine lv_bipush (v := (-10)) hx hb dX7_tell_94 (by decide) ?_
                refine lv_aload_n hx hb dX7_tell_96 rfl (lv_at hl 2 rfl) ?_
                refine r_get kc7 X h 55 3 (by decide) rfl h60 (by decide) kv_379 rfl dX7_tell_97 ?_
                obtain ⟨z318, e316, t317⟩ := x_sub (x := ((-10) : Int32)) (y := y56) (a := (-10)) (b := (y56).toInt) rfl rfl (by omega) (by omega)
                refine o_isub (z := z318) hx hb dX7_tell_100 e316 ?_
                exact e_i X h hr hlk dX7_tell_101 ⟨ok53, kx65, trivial⟩
            · have hc91 : (L25).toInt = 0 := i_eq hc91 rfl rfl
              refine lv_iconst (v := 1) hx hb dX7_tell_59 (by decide) ?_
              refine lv_goto (tgt := 64) hx hb dX7_tell_60 (by decide) ?_
              refine n_Si (na := 3) (As := [.ref (ad 14), .int r85, .int 1]) (rest := []) X hD hN h (c_mayBegin1 l G cI cB cZ cO ad w51  ok53 r85 (by omega) (by omega) ) ⟨kv_432, kv_433, kv_388, kv_434⟩ ⟨by decide, by decide, by decide⟩ ⟨Nat.le_of_ble_eq_true rfl, Nat.le_of_ble_eq_true rfl⟩ ⟨Nat.zero_le _, Nat.zero_le _⟩ rfl hl.1 rfl (Nat.le_of_ble_eq_true rfl) dX7_tell_64 (fun r319 w320 H locs hp321 h => ?_)
              obtain ⟨rfl, hr322⟩ := hp321
              rcases hr322 with ⟨hq323, rfl⟩ | rfl
              · refine lv_if_eq (tgt := 94) hx hb dX7_tell_67 (by decide) (fun hc => absurd hc (by decide)) (fun _ => ?_)
                refine lv_aload_n hx hb dX7_tell_70 rfl (lv_at hl 2 rfl) ?_
                refine lv_aload_n hx hb dX7_tell_71 rfl (lv_at hl 3 rfl) ?_
                refine lv_iload_n hx hb dX7_tell_72 rfl (lv_at hl 0 rfl) ?_
                have hq324 : r85 = 0 ∨ r85 = 1 ∨ r85 = 2 ∨ r85 = 3 ∨ r85 = 4 ∨ r85 = 5 := by simp only [fa_eq]; simp only [show ((0 : Int32).toInt = 0) from rfl, show ((1 : Int32).toInt = 1) from rfl, show ((2 : Int32).toInt = 2) from rfl, show ((3 : Int32).toInt = 3) from rfl, show ((4 : Int32).toInt = 4) from rfl, show ((5 : Int32).toInt = 5) from rfl]; omega
                rcases hq324 with rfl | rfl | rfl | rfl | rfl | rfl
                · refine n_Vi (na := 2) (As := [.ref (ad 14), .int 0]) (rest := []) X hD hN h rfl (c_takeNumbers0 l G cI cB cZ cO ad w51 z y56 y57 y58 y59 ok53 h60 (by first | omega | (simp only [k00]; omega)) (by first | omega | (simp only [k00]; omega)) (by first | omega | (simp only [k00]; omega)) (by first | omega | (simp only [k00]; omega)) (by first | omega | (simp only [k00]; omega))) ⟨kv_439, kv_440, kv_441, kv_388, kv_442⟩ rfl ⟨by decide, by decide, by decide⟩ ⟨Nat.le_of_ble_eq_true rfl, Nat.le_of_ble_eq_true rfl⟩ ⟨Nat.zero_le _, Nat.zero_le _⟩ (by decide) h60 rfl rfl hl.1 rfl (Nat.le_of_ble_eq_true rfl) dX7_tell_73 (fun r325 w326 H locs hp327 h => ?_)
                  obtain ⟨ok328, kk329, h330, hr331⟩ := hp327
                  have kx332 : KX w w326 := KX.tr kx65 kk329
                  obtain ⟨y333, y334, y335, y336, h337, h338, h339, h340⟩ := h330
                  have q341 : 0 ≤ y336.toInt ∧ y336.toInt ≤ 99 := txd ok328 h337
                  rcases hr331 with ⟨⟨g342, f343, h345⟩, rfl⟩ | rfl
                  · have p346 : rgA 0 99 g342 := nm99 ok328 f343
                    refine lv_if_ne (tgt := 82) hx hb dX7_tell_76 (by decide) (fun _ => ?_) (fun hc => absurd hc (by decide))
                    refine lv_aload_n hx hb dX7_tell_82 rfl (lv_at hl 2 rfl) ?_
                    refine lv_aload_n hx hb dX7_tell_83 rfl (lv_at hl 3 rfl) ?_
                    refine lv_iload_n hx hb dX7_tell_84 rfl (lv_at hl 0 rfl) ?_
                    refine n_Vv (na := 2) (As := [.ref (ad 14), .int 0]) (rest := []) X hD hN h rfl (c_carryOut0 l G cI cB cZ cO ad w326 g342 _ _ _ _ _ ok328 f343 p346 h337 ) ⟨kv_443, kv_444, kv_445, kv_388, kv_446⟩ rfl ⟨by decide, by decide, by decide⟩ ⟨Nat.le_of_ble_eq_true rfl, Nat.le_of_ble_eq_true rfl⟩ ⟨Nat.zero_le _, Nat.zero_le _⟩ (by decide) h337 rfl rfl hl.1 rfl (Nat.le_of_ble_eq_true rfl) dX7_tell_85 (fun w348 H locs hp349 h => ?_)
                    obtain ⟨ok350, kk351, hr352⟩ := hp349
                    have kx353 : KX w w348 := KX.tr kx332 kk351.1
                    obtain ⟨z354, e355, t356⟩ := x_add (x := L25) (y := 1) (a := L25.toInt) (b := 1) rfl rfl (by omega) (by omega)
                    refine lv_iinc (v := z354) (lv' := [(2, .int z354), (3, .int 0), (0, .ref (ad 55)), (1, .ref (ad 14))]) hx hb dX7_tell_88 hl (k := 1) rfl e355 (by decide) rfl (fun ls hl => ?_)
                    refine lv_goto (tgt := 12) hx hb dX7_tell_91 (by decide) ?_
                    have f357 : w348 55 = .inr (5, [.ref (ad 56), .ref (ad 57), .int z, .int y333, .int y334, .int y335, .int y336]) := (kk351.2 55 (by decide)).trans h337
                    exact ih33  z354 y333 y334 y335 y336 w348 _ _ _ (by omega) (by omega) (by omega) (by omega) (by omega) (by omega) (by omega) ok350 kx353 f357 (by omega) h (lv_sub hl [0, 2, 3] rfl)
                  · refine lv_if_ne (tgt := 82) hx hb dX7_tell_76 (by decide) (fun hc => absurd (by decide) hc) (fun _ => ?_)
                    refine lv_goto (tgt := 94) hx hb dX7_tell_79 (by decide) ?_
                    refine lv_bipush (v := (-10)) hx hb dX7_tell_94 (by decide) ?_
                    refine lv_aload_n hx hb dX7_tell_96 rfl (lv_at hl 2 rfl) ?_
                    refine r_get kc7 X h 55 3 (by decide) rfl h337 (by decide) kv_379 rfl dX7_tell_97 ?_
                    obtain ⟨z360, e358, t359⟩ := x_sub (x := ((-10) : Int32)) (y := y333) (a := (-10)) (b := (y333).toInt) rfl rfl (by omega) (by omega)
                    refine o_isub (z := z360) hx hb dX7_tell_100 e358 ?_
                    exact e_i X h hr hlk dX7_tell_101 ⟨ok328, kx332, trivial⟩
                · refine n_Vi (na := 2) (As := [.ref (ad 14), .int 1]) (rest := []) X hD hN h rfl (c_takeNumbers1 l G cI cB cZ cO ad w51 z y56 y57 y58 y59 ok53 h60 (by first | omega | (simp only [k00]; omega)) (by first | omega | (simp only [k00]; omega)) (by first | omega | (simp only [k00]; omega)) (by first | omega | (simp only [k00]; omega)) (by first | omega | (simp only [k00]; omega))) ⟨kv_439, kv_440, kv_441, kv_388, kv_442⟩ rfl ⟨by decide, by decide, by decide⟩ ⟨Nat.le_of_ble_eq_true rfl, Nat.le_of_ble_eq_true rfl⟩ ⟨Nat.zero_le _, Nat.zero_le _⟩ (by decide) h60 rfl rfl hl.1 rfl (Nat.le_of_ble_eq_true rfl) dX7_tell_73 (fun r361 w362 H locs hp363 h => ?_)
                  obtain ⟨ok364, kk365, h366, hr367⟩ := hp363
                  have kx368 : KX w w362 := KX.tr kx65 kk365
                  obtain ⟨y369, y370, y371, y372, h373, h374, h375, h376⟩ := h366
                  have q377 : 0 ≤ y372.toInt ∧ y372.toInt ≤ 99 := txd ok364 h373
                  rcases hr367 with ⟨⟨g378, f379, h381⟩, rfl⟩ | rfl
                  · have p382 : rgA 0 99 g378 := nm99 ok364 f379
                    refine lv_if_ne (tgt := 82) hx hb dX7_tell_76 (by decide) (fun _ => ?_) (fun hc => absurd hc (by decide))
                    refine lv_aload_n hx hb dX7_tell_82 rfl (lv_at hl 2 rfl) ?_
                    refine lv_aload_n hx hb dX7_tell_83 rfl (lv_at hl 3 rfl) ?_
                    refine lv_iload_n hx hb dX7_tell_84 rfl (lv_at hl 0 rfl) ?_
                    refine n_Vv (na := 2) (As := [.ref (ad 14), .int 1]) (rest := []) X hD hN h rfl (c_carryOut1 l G cI cB cZ cO ad w362 g378 _ _ _ _ _ ok364 f379 p382 h373 h381) ⟨kv_443, kv_444, kv_445, kv_388, kv_446⟩ rfl ⟨by decide, by decide, by decide⟩ ⟨Nat.le_of_ble_eq_true rfl, Nat.le_of_ble_eq_true rfl⟩ ⟨Nat.zero_le _, Nat.zero_le _⟩ (by decide) h373 rfl rfl hl.1 rfl (Nat.le_of_ble_eq_true rfl) dX7_tell_85 (fun w384 H locs hp385 h => ?_)
                    obtain ⟨ok386, kk387, hr388⟩ := hp385
                    have kx389 : KX w w384 := KX.tr kx368 kk387.1
                    obtain ⟨z390, e391, t392⟩ := x_add (x := L25) (y := 1) (a := L25.toInt) (b := 1) rfl rfl (by omega) (by omega)
                    refine lv_iinc (v := z390) (lv' := [(2, .int z390), (3, .int 1), (0, .ref (ad 55)), (1, .ref (ad 14))]) hx hb dX7_tell_88 hl (k := 1) rfl e391 (by decide) rfl (fun ls hl => ?_)
                    refine lv_goto (tgt := 12) hx hb dX7_tell_91 (by decide) ?_
                    have f393 : w384 55 = .inr (5, [.ref (ad 56), .ref (ad 57), .int z, .int y369, .int y370, .int y371, .int y372]) := (kk387.2 55 (by decide)).trans h373
                    exact ih33  z390 y369 y370 y371 y372 w384 _ _ _ (by omega) (by omega) (by omega) (by omega) (by omega) (by omega) (by omega) ok386 kx389 f393 (by omega) h (lv_sub hl [0, 2, 3] rfl)
                  · refine lv_if_ne (tgt := 82) hx hb dX7_tell_76 (by decide) (fun hc => absurd (by decide) hc) (fun _ => ?_)
                    refine lv_goto (tgt := 94) hx hb dX7_tell_79 (by decide) ?_
                    refine lv_bipush (v := (-10)) hx hb dX7_tell_94 (by decide) ?_
                    refine lv_aload_n hx hb dX7_tell_96 rfl (lv_at hl 2 rfl) ?_
                    refine r_get kc7 X h 55 3 (by decide) rfl h373 (by decide) kv_379 rfl dX7_tell_97 ?_
                    obtain ⟨z396, e394, t395⟩ := x_sub (x := ((-10) : Int32)) (y := y369) (a := (-10)) (b := (y369).toInt) rfl rfl (by omega) (by omega)
                    refine o_isub (z := z396) hx hb dX7_tell_100 e394 ?_
                    exact e_i X h hr hlk dX7_tell_101 ⟨ok364, kx368, trivial⟩
                · refine n_Vi (na := 2) (As := [.ref (ad 14), .int 2]) (rest := []) X hD hN h rfl (c_takeNumbers2 l G cI cB cZ cO ad w51 z y56 y57 y58 y59 ok53 h60 (by first | omega | (simp only [k00]; omega)) (by first | omega | (simp only [k00]; omega)) (by first | omega | (simp only [k00]; omega)) (by first | omega | (simp only [k00]; omega)) (by first | omega | (simp only [k00]; omega))) ⟨kv_439, kv_440, kv_441, kv_388, kv_442⟩ rfl ⟨by decide, by decide, by decide⟩ ⟨Nat.le_of_ble_eq_true rfl, Nat.le_of_ble_eq_true rfl⟩ ⟨Nat.zero_le _, Nat.zero_le _⟩ (by decide) h60 rfl rfl hl.1 rfl (Nat.le_of_ble_eq_true rfl) dX7_tell_73 (fun r397 w398 H locs hp399 h => ?_)
                  obtain ⟨ok400, kk401, h402, hr403⟩ := hp399
                  have kx404 : KX w w398 := KX.tr kx65 kk401
                  obtain ⟨y405, y406, y407, y408, h409, h410, h411, h412⟩ := h402
                  have q413 : 0 ≤ y408.toInt ∧ y408.toInt ≤ 99 := txd ok400 h409
                  rcases hr403 with ⟨⟨g414, f415, h417⟩, rfl⟩ | rfl
                  · have p418 : rgA 0 99 g414 := nm99 ok400 f415
                    refine lv_if_ne (tgt := 82) hx hb dX7_tell_76 (by decide) (fun _ => ?_) (fun hc => absurd hc (by decide))
                    refine lv_aload_n hx hb dX7_tell_82 rfl (lv_at hl 2 rfl) ?_
                    refine lv_aload_n hx hb dX7_tell_83 rfl (lv_at hl 3 rfl) ?_
                    refine lv_iload_n hx hb dX7_tell_84 rfl (lv_at hl 0 rfl) ?_
                    refine n_Vv (na := 2) (As := [.ref (ad 14), .int 2]) (rest := []) X hD hN h rfl (c_carryOut2 l G cI cB cZ cO ad w398 g414 _ _ _ _ _ ok400 f415 p418 h409 ) ⟨kv_443, kv_444, kv_445, kv_388, kv_446⟩ rfl ⟨by decide, by decide, by decide⟩ ⟨Nat.le_of_ble_eq_true rfl, Nat.le_of_ble_eq_true rfl⟩ ⟨Nat.zero_le _, Nat.zero_le _⟩ (by decide) h409 rfl rfl hl.1 rfl (Nat.le_of_ble_eq_true rfl) dX7_tell_85 (fun w420 H locs hp421 h => ?_)
                    obtain ⟨ok422, kk423, hr424⟩ := hp421
                    have kx425 : KX w w420 := KX.tr kx404 kk423.1
                    obtain ⟨z426, e427, t428⟩ := x_add (x := L25) (y := 1) (a := L25.toInt) (b := 1) rfl rfl (by omega) (by omega)
                    refine lv_iinc (v := z426) (lv' := [(2, .int z426), (3, .int 2), (0, .ref (ad 55)), (1, .ref (ad 14))]) hx hb dX7_tell_88 hl (k := 1) rfl e427 (by decide) rfl (fun ls hl => ?_)
                    refine lv_goto (tgt := 12) hx hb dX7_tell_91 (by decide) ?_
                    have f429 : w420 55 = .inr (5, [.ref (ad 56), .ref (ad 57), .int z, .int y405, .int y406, .int y407, .int y408]) := (kk423.2 55 (by decide)).trans h409
                    exact ih33  z426 y405 y406 y407 y408 w420 _ _ _ (by omega) (by omega) (by omega) (by omega) (by omega) (by omega) (by omega) ok422 kx425 f429 (by omega) h (lv_sub hl [0, 2, 3] rfl)
                  · refine lv_if_ne (tgt := 82) hx hb dX7_tell_76 (by decide) (fun hc => absurd (by decide) hc) (fun _ => ?_)
                    refine lv_goto (tgt := 94) hx hb dX7_tell_79 (by decide) ?_
                    refine lv_bipush (v := (-10)) hx hb dX7_tell_94 (by decide) ?_
                    refine lv_aload_n hx hb dX7_tell_96 rfl (lv_at hl 2 rfl) ?_
                    refine r_get kc7 X h 55 3 (by decide) rfl h409 (by decide) kv_379 rfl dX7_tell_97 ?_
                    obtain ⟨z432, e430, t431⟩ := x_sub (x := ((-10) : Int32)) (y := y405) (a := (-10)) (b := (y405).toInt) rfl rfl (by omega) (by omega)
                    refine o_isub (z := z432) hx hb dX7_tell_100 e430 ?_
                    exact e_i X h hr hlk dX7_tell_101 ⟨ok400, kx404, trivial⟩
                · refine n_Vi (na := 2) (As := [.ref (ad 14), .int 3]) (rest := []) X hD hN h rfl (c_takeNumbers3 l G cI cB cZ cO ad w51 z y56 y57 y58 y59 ok53 h60 (by first | omega | (simp only [k00]; omega)) (by first | omega | (simp only [k00]; omega)) (by first | omega | (simp only [k00]; omega)) (by first | omega | (simp only [k00]; omega)) (by first | omega | (simp only [k00]; omega))) ⟨kv_439, kv_440, kv_441, kv_388, kv_442⟩ rfl ⟨by decide, by decide, by decide⟩ ⟨Nat.le_of_ble_eq_true rfl, Nat.le_of_ble_eq_true rfl⟩ ⟨Nat.zero_le _, Nat.zero_le _⟩ (by decide) h60 rfl rfl hl.1 rfl (Nat.le_of_ble_eq_true rfl) dX7_tell_73 (fun r433 w434 H locs hp435 h => ?_)
                  obtain ⟨ok436, kk437, h438, hr439⟩ := hp435
                  have kx440 : KX w w434 := KX.tr kx65 kk437
                  obtain ⟨y441, y442, y443, y444, h445, h446, h447, h448⟩ := h438
                  have q449 : 0 ≤ y444.toInt ∧ y444.toInt ≤ 99 := txd ok436 h445
                  rcases hr439 with ⟨⟨g450, f451, h453, h454⟩, rfl⟩ | rfl
                  · have p455 : rgA 0 99 g450 := nm99 ok436 f451
                    refine lv_if_ne (tgt := 82) hx hb dX7_tell_76 (by decide) (fun _ => ?_) (fun hc => absurd hc (by decide))
                    refine lv_aload_n hx hb dX7_tell_82 rfl (lv_at hl 2 rfl) ?_
                    refine lv_aload_n hx hb dX7_tell_83 rfl (lv_at hl 3 rfl) ?_
                    refine lv_iload_n hx hb dX7_tell_84 rfl (lv_at hl 0 rfl) ?_
                    refine n_Vv (na := 2) (As := [.ref (ad 14), .int 3]) (rest := []) X hD hN h rfl (c_carryOut3 l G cI cB cZ cO ad w434 g450 _ _ _ _ _ ok436 f451 p455 h445 h453 h454) ⟨kv_443, kv_444, kv_445, kv_388, kv_446⟩ rfl ⟨by decide, by decide, by decide⟩ ⟨Nat.le_of_ble_eq_true rfl, Nat.le_of_ble_eq_true rfl⟩ ⟨Nat.zero_le _, Nat.zero_le _⟩ (by decide) h445 rfl rfl hl.1 rfl (Nat.le_of_ble_eq_true rfl) dX7_tell_85 (fun w457 H locs hp458 h => ?_)
                    obtain ⟨ok459, kk460, hr461⟩ := hp458
                    have kx462 : KX w w457 := KX.tr kx440 kk460.1
                    obtain ⟨z463, e464, t465⟩ := x_add (x := L25) (y := 1) (a := L25.toInt) (b := 1) rfl rfl (by omega) (by omega)
                    refine lv_iinc (v := z463) (lv' := [(2, .int z463), (3, .int 3), (0, .ref (ad 55)), (1, .ref (ad 14))]) hx hb dX7_tell_88 hl (k := 1) rfl e464 (by decide) rfl (fun ls hl => ?_)
                    refine lv_goto (tgt := 12) hx hb dX7_tell_91 (by decide) ?_
                    have f466 : w457 55 = .inr (5, [.ref (ad 56), .ref (ad 57), .int z, .int y441, .int y442, .int y443, .int y444]) := (kk460.2 55 (by decide)).trans h445
                    exact ih33  z463 y441 y442 y443 y444 w457 _ _ _ (by omega) (by omega) (by omega) (by omega) (by omega) (by omega) (by omega) ok459 kx462 f466 (by omega) h (lv_sub hl [0, 2, 3] rfl)
                  · refine lv_if_ne (tgt := 82) hx hb dX7_tell_76 (by decide) (fun hc => absurd (by decide) hc) (fun _ => ?_)
                    refine lv_goto (tgt := 94) hx hb dX7_tell_79 (by decide) ?_
                    refine lv_bipush (v := (-10)) hx hb dX7_tell_94 (by decide) ?_
                    refine lv_aload_n hx hb dX7_tell_96 rfl (lv_at hl 2 rfl) ?_
                    refine r_get kc7 X h 55 3 (by decide) rfl h445 (by decide) kv_379 rfl dX7_tell_97 ?_
                    obtain ⟨z469, e467, t468⟩ := x_sub (x := ((-10) : Int32)) (y := y441) (a := (-10)) (b := (y441).toInt) rfl rfl (by omega) (by omega)
                    refine o_isub (z := z469) hx hb dX7_tell_100 e467 ?_
                    exact e_i X h hr hlk dX7_tell_101 ⟨ok436, kx440, trivial⟩
                · refine n_Vi (na := 2) (As := [.ref (ad 14), .int 4]) (rest := []) X hD hN h rfl (c_takeNumbers4 l G cI cB cZ cO ad w51 z y56 y57 y58 y59 ok53 h60 (by first | omega | (simp only [k00]; omega)) (by first | omega | (simp only [k00]; omega)) (by first | omega | (simp only [k00]; omega)) (by first | omega | (simp only [k00]; omega)) (by first | omega | (simp only [k00]; omega))) ⟨kv_439, kv_440, kv_441, kv_388, kv_442⟩ rfl ⟨by decide, by decide, by decide⟩ ⟨Nat.le_of_ble_eq_true rfl, Nat.le_of_ble_eq_true rfl⟩ ⟨Nat.zero_le _, Nat.zero_le _⟩ (by decide) h60 rfl rfl hl.1 rfl (Nat.le_of_ble_eq_true rfl) dX7_tell_73 (fun r470 w471 H locs hp472 h => ?_)
                  obtain ⟨ok473, kk474, h475, hr476⟩ := hp472
                  have kx477 : KX w w471 := KX.tr kx65 kk474
                  obtain ⟨y478, y479, y480, y481, h482, h483, h484, h485⟩ := h475
                  have q486 : 0 ≤ y481.toInt ∧ y481.toInt ≤ 99 := txd ok473 h482
                  rcases hr476 with ⟨⟨g487, f488, h490, h491⟩, rfl⟩ | rfl
                  · have p492 : rgA 0 99 g487 := nm99 ok473 f488
                    refine lv_if_ne (tgt := 82) hx hb dX7_tell_76 (by decide) (fun _ => ?_) (fun hc => absurd hc (by decide))
                    refine lv_aload_n hx hb dX7_tell_82 rfl (lv_at hl 2 rfl) ?_
                    refine lv_aload_n hx hb dX7_tell_83 rfl (lv_at hl 3 rfl) ?_
                    refine lv_iload_n hx hb dX7_tell_84 rfl (lv_at hl 0 rfl) ?_
                    refine n_Vv (na := 2) (As := [.ref (ad 14), .int 4]) (rest := []) X hD hN h rfl (c_carryOut4 l G cI cB cZ cO ad w471 g487 _ _ _ _ _ ok473 f488 p492 h482 h490 h491) ⟨kv_443, kv_444, kv_445, kv_388, kv_446⟩ rfl ⟨by decide, by decide, by decide⟩ ⟨Nat.le_of_ble_eq_true rfl, Nat.le_of_ble_eq_true rfl⟩ ⟨Nat.zero_le _, Nat.zero_le _⟩ (by decide) h482 rfl rfl hl.1 rfl (Nat.le_of_ble_eq_true rfl) dX7_tell_85 (fun w494 H locs hp495 h => ?_)
                    obtain ⟨ok496, kk497, hr498⟩ := hp495
                    have kx499 : KX w w494 := KX.tr kx477 kk497.1
                    obtain ⟨z500, e501, t502⟩ := x_add (x := L25) (y := 1) (a := L25.toInt) (b := 1) rfl rfl (by omega) (by omega)
                    refine lv_iinc (v := z500) (lv' := [(2, .int z500), (3, .int 4), (0, .ref (ad 55)), (1, .ref (ad 14))]) hx hb dX7_tell_88 hl (k := 1) rfl e501 (by decide) rfl (fun ls hl => ?_)
                    refine lv_goto (tgt := 12) hx hb dX7_tell_91 (by decide) ?_
                    have f503 : w494 55 = .inr (5, [.ref (ad 56), .ref (ad 57), .int z, .int y478, .int y479, .int y480, .int y481]) := (kk497.2 55 (by decide)).trans h482
                    exact ih33  z500 y478 y479 y480 y481 w494 _ _ _ (by omega) (by omega) (by omega) (by omega) (by omega) (by omega) (by omega) ok496 kx499 f503 (by omega) h (lv_sub hl [0, 2, 3] rfl)
                  · refine lv_if_ne (tgt := 82) hx hb dX7_tell_76 (by decide) (fun hc => absurd (by decide) hc) (fun _ => ?_)
                    refine lv_goto (tgt := 94) hx hb dX7_tell_79 (by decide) ?_
                    refine lv_bipush (v := (-10)) hx hb dX7_tell_94 (by decide) ?_
                    refine lv_aload_n hx hb dX7_tell_96 rfl (lv_at hl 2 rfl) ?_
                    refine r_get kc7 X h 55 3 (by decide) rfl h482 (by decide) kv_379 rfl dX7_tell_97 ?_
                    obtain ⟨z506, e504, t505⟩ := x_sub (x := ((-10) : Int32)) (y := y478) (a := (-10)) (b := (y478).toInt) rfl rfl (by omega) (by omega)
                    refine o_isub (z := z506) hx hb dX7_tell_100 e504 ?_
                    exact e_i X h hr hlk dX7_tell_101 ⟨ok473, kx477, trivial⟩
                · refine n_Vi (na := 2) (As := [.ref (ad 14), .int 5]) (rest := []) X hD hN h rfl (c_takeNumbers5 l G cI cB cZ cO ad w51 z y56 y57 y58 y59 ok53 h60 (by first | omega | (simp only [k00]; omega)) (by first | omega | (simp only [k00]; omega)) (by first | omega | (simp only [k00]; omega)) (by first | omega | (simp only [k00]; omega)) (by first | omega | (simp only [k00]; omega))) ⟨kv_439, kv_440, kv_441, kv_388, kv_442⟩ rfl ⟨by decide, by decide, by decide⟩ ⟨Nat.le_of_ble_eq_true rfl, Nat.le_of_ble_eq_true rfl⟩ ⟨Nat.zero_le _, Nat.zero_le _⟩ (by decide) h60 rfl rfl hl.1 rfl (Nat.le_of_ble_eq_true rfl) dX7_tell_73 (fun r507 w508 H locs hp509 h => ?_)
                  obtain ⟨ok510, kk511, h512, hr513⟩ := hp509
                  have kx514 : KX w w508 := KX.tr kx65 kk511
                  obtain ⟨y515, y516, y517, y518, h519, h520, h521, h522⟩ := h512
                  have q523 : 0 ≤ y518.toInt ∧ y518.toInt ≤ 99 := txd ok510 h519
                  rcases hr513 with ⟨⟨g524, f525, h527⟩, rfl⟩ | rfl
                  · have p528 : rgA 0 99 g524 := nm99 ok510 f525
                    refine lv_if_ne (tgt := 82) hx hb dX7_tell_76 (by decide) (fun _ => ?_) (fun hc => absurd hc (by decide))
                    refine lv_aload_n hx hb dX7_tell_82 rfl (lv_at hl 2 rfl) ?_
                    refine lv_aload_n hx hb dX7_tell_83 rfl (lv_at hl 3 rfl) ?_
                    refine lv_iload_n hx hb dX7_tell_84 rfl (lv_at hl 0 rfl) ?_
                    refine n_Vv (na := 2) (As := [.ref (ad 14), .int 5]) (rest := []) X hD hN h rfl (c_carryOut5 l G cI cB cZ cO ad w508 g524 _ _ _ _ _ ok510 f525 p528 h519 ) ⟨kv_443, kv_444, kv_445, kv_388, kv_446⟩ rfl ⟨by decide, by decide, by decide⟩ ⟨Nat.le_of_ble_eq_true rfl, Nat.le_of_ble_eq_true rfl⟩ ⟨Nat.zero_le _, Nat.zero_le _⟩ (by decide) h519 rfl rfl hl.1 rfl (Nat.le_of_ble_eq_true rfl) dX7_tell_85 (fun w530 H locs hp531 h => ?_)
                    obtain ⟨ok532, kk533, hr534⟩ := hp531
                    have kx535 : KX w w530 := KX.tr kx514 kk533.1
                    obtain ⟨z536, e537, t538⟩ := x_add (x := L25) (y := 1) (a := L25.toInt) (b := 1) rfl rfl (by omega) (by omega)
                    refine lv_iinc (v := z536) (lv' := [(2, .int z536), (3, .int 5), (0, .ref (ad 55)), (1, .ref (ad 14))]) hx hb dX7_tell_88 hl (k := 1) rfl e537 (by decide) rfl (fun ls hl => ?_)
                    refine lv_goto (tgt := 12) hx hb dX7_tell_91 (by decide) ?_
                    have f539 : w530 55 = .inr (5, [.ref (ad 56), .ref (ad 57), .int z, .int y515, .int y516, .int y517, .int y518]) := (kk533.2 55 (by decide)).trans h519
                    exact ih33  z536 y515 y516 y517 y518 w530 _ _ _ (by omega) (by omega) (by omega) (by omega) (by omega) (by omega) (by omega) ok532 kx535 f539 (by omega) h (lv_sub hl [0, 2, 3] rfl)
                  · refine lv_if_ne (tgt := 82) hx hb dX7_tell_76 (by decide) (fun hc => absurd (by decide) hc) (fun _ => ?_)
                    refine lv_goto (tgt := 94) hx hb dX7_tell_79 (by decide) ?_
                    refine lv_bipush (v := (-10)) hx hb dX7_tell_94 (by decide) ?_
                    refine lv_aload_n hx hb dX7_tell_96 rfl (lv_at hl 2 rfl) ?_
                    refine r_get kc7 X h 55 3 (by decide) rfl h519 (by decide) kv_379 rfl dX7_tell_97 ?_
                    obtain ⟨z542, e540, t541⟩ := x_sub (x := ((-10) : Int32)) (y := y515) (a := (-10)) (b := (y515).toInt) rfl rfl (by omega) (by omega)
                    refine o_isub (z := z542) hx hb dX7_tell_100 e540 ?_
                    exact e_i X h hr hlk dX7_tell_101 ⟨ok510, kx514, trivial⟩
              · refine lv_if_eq (tgt := 94) hx hb dX7_tell_67 (by decide) (fun _ => ?_) (fun hc => absurd (by decide) hc)
                refine lv_bipush (v := (-10)) hx hb dX7_tell_94 (by decide) ?_
                refine lv_aload_n hx hb dX7_tell_96 rfl (lv_at hl 2 rfl) ?_
                refine r_get kc7 X h 55 3 (by decide) rfl h60 (by decide) kv_379 rfl dX7_tell_97 ?_
                obtain ⟨z545, e543, t544⟩ := x_sub (x := ((-10) : Int32)) (y := y56) (a := (-10)) (b := (y56).toInt) rfl rfl (by omega) (by omega)
                refine o_isub (z := z545) hx hb dX7_tell_100 e543 ?_
                exact e_i X h hr hlk dX7_tell_101 ⟨ok53, kx65, trivial⟩
        · have hc66 : (y58).toInt = 0 := i_eq hc66 rfl rfl
          refine lv_iload_n hx hb dX7_tell_30 rfl (lv_at hl 0 rfl) ?_
          refine lv_if_le (tgt := 36) hx hb dX7_tell_31 (by decide) (fun hc546 => ?_) (fun hc546 => ?_)
          · have hc546 : (L25).toInt ≤ 0 := i_le hc546 rfl rfl
            refine lv_aload_n hx hb dX7_tell_36 rfl (lv_at hl 1 rfl) ?_
            refine r_get kc7 X h 55 5 (by decide) rfl h60 (by decide) kv_392 rfl dX7_tell_37 ?_
            refine lv_iconst (v := 1) hx hb dX7_tell_40 (by decide) ?_
            refine lv_icmp_ne (tgt := 51) hx hb dX7_tell_41 (by decide) (fun hc547 => ?_) (fun hc547 => ?_)
            · have hc547 : ¬ (y58).toInt = 1 := i_ne hc547 rfl rfl
              refine lv_iconst (v := (-1)) hx hb dX7_tell_51 (by decide) ?_
              refine lv_istore_n (lv' := [(3, .int (-1)), (2, .int L25), (0, .ref (ad 55)), (1, .ref (ad 14))]) hx hb dX7_tell_52 rfl hl (by decide) rfl (fun ls hl => ?_)
              refine lv_aload_n hx hb dX7_tell_53 rfl (lv_at hl 3 rfl) ?_
              refine lv_iload_n hx hb dX7_tell_54 rfl (lv_at hl 0 rfl) ?_
              refine lv_iload_n hx hb dX7_tell_55 rfl (lv_at hl 1 rfl) ?_
              refine lv_if_ne (tgt := 63) hx hb dX7_tell_56 (by decide) (fun hc548 => ?_) (fun hc548 => ?_)
              · have hc548 : ¬ (L25).toInt = 0 := i_ne hc548 rfl rfl
                exfalso; omega
              · have hc548 : (L25).toInt = 0 := i_eq hc548 rfl rfl
                refine lv_iconst (v := 1) hx hb dX7_tell_59 (by decide) ?_
                refine lv_goto (tgt := 64) hx hb dX7_tell_60 (by decide) ?_
                refine n_Si (na := 3) (As := [.ref (ad 14), .int (-1), .int 1]) (rest := []) X hD hN h (c_mayBegin1 l G cI cB cZ cO ad w51  ok53 ((-1) : Int32) (by decide) (by decide) ) ⟨kv_432, kv_433, kv_388, kv_434⟩ ⟨by decide, by decide, by decide⟩ ⟨Nat.le_of_ble_eq_true rfl, Nat.le_of_ble_eq_true rfl⟩ ⟨Nat.zero_le _, Nat.zero_le _⟩ rfl hl.1 rfl (Nat.le_of_ble_eq_true rfl) dX7_tell_64 (fun r549 w550 H locs hp551 h => ?_)
                obtain ⟨rfl, hr552⟩ := hp551
                rcases hr552 with ⟨hq553, rfl⟩ | rfl
                · exfalso; first | omega | exact absurd hq553 (by decide)
                · refine lv_if_eq (tgt := 94) hx hb dX7_tell_67 (by decide) (fun _ => ?_) (fun hc => absurd (by decide) hc)
                  refine lv_bipush (v := (-10)) hx hb dX7_tell_94 (by decide) ?_
                  refine lv_aload_n hx hb dX7_tell_96 rfl (lv_at hl 2 rfl) ?_
                  refine r_get kc7 X h 55 3 (by decide) rfl h60 (by decide) kv_379 rfl dX7_tell_97 ?_
                  obtain ⟨z556, e554, t555⟩ := x_sub (x := ((-10) : Int32)) (y := y56) (a := (-10)) (b := (y56).toInt) rfl rfl (by omega) (by omega)
                  refine o_isub (z := z556) hx hb dX7_tell_100 e554 ?_
                  exact e_i X h hr hlk dX7_tell_101 ⟨ok53, kx65, trivial⟩
            · have hc547 : (y58).toInt = 1 := i_eq hc547 rfl rfl
              exfalso; omega
          · have hc546 : ¬ (L25).toInt ≤ 0 := i_nle hc546 rfl rfl
            refine lv_iload_n hx hb dX7_tell_34 rfl (lv_at hl 0 rfl) ?_
            exact e_i X h hr hlk dX7_tell_35 ⟨ok53, kx65, trivial⟩
  exact hloop31 152 (0 : Int32) a (0 : Int32) c0 d w20 _ _ _ (by have q0 : (0 : Int32).toInt = 0 := rfl; omega) (by have q0 : (0 : Int32).toInt = 0 := rfl; omega) (by have q0 : (0 : Int32).toInt = 0 := rfl; omega) (by have q0 : (0 : Int32).toInt = 0 := rfl; omega) (by have q0 : (0 : Int32).toInt = 0 := rfl; omega) (by have q0 : (0 : Int32).toInt = 0 := rfl; omega) (by have q0 : (0 : Int32).toInt = 0 := rfl; omega) ok23 kx24 f22 (by have q0 : (0 : Int32).toInt = 0 := rfl; omega) h (lv_sub hl [0, 1, 2] rfl)

set_option maxHeartbeats 4000000 in
set_option maxRecDepth 100000 in
theorem c_T_isFull (l : Launch) (G : va_G) (cI cB cZ cO : ClassId) (ad : Nat → Nat) (w : Nat → va_E) (z a b c0 d : Int32)    (pf : w 55 = .inr (5, [.ref (ad 56), .ref (ad 57), .int z, .int a, .int b, .int c0, .int d])) : NI l G (tyq cI cB cZ cO) yX7_isFull cX7_isFull 1 (some .boolean) 0 0 74 ad w [.ref (ad 55)] (fun r w1 => w = w1 ∧ ((150 ≤ z.toInt ∧ r = 1) ∨ (z.toInt < 150 ∧ r = 0))) := by
  refine nk_i (own := "NoonShade$Text") rfl (by decide) (Nat.le_of_ble_eq_true rfl) ?_
  intro p e s m below meth c ls X hD hN hr hlk h hl
  have hx := X.1.1
  have hb := X.1.2.1
  have hown := X.1.2.2.2.1
  have hts := X.1.2.2.2.2
  have hl : lv_has ls 1 [(0, .ref (ad 55))] := hl
  refine lv_aload_n hx hb dX7_isFull_0 rfl (lv_at hl 0 rfl) ?_
  refine r_get kc7 X h 55 2 (by decide) rfl pf (by decide) kv_391 rfl dX7_isFull_1 ?_
  refine lv_sipush (v := 150) hx hb dX7_isFull_4 (by decide) ?_
  refine lv_icmp_lt (tgt := 14) hx hb dX7_isFull_7 (by decide) (fun hc1 => ?_) (fun hc1 => ?_)
  · have hc1 : (z).toInt < 150 := i_lt hc1 rfl rfl
    refine lv_iconst (v := 0) hx hb dX7_isFull_14 (by decide) ?_
    exact e_n X h hr hlk rfl dX7_isFull_15 ⟨rfl, Or.inr ⟨by omega, rfl⟩⟩
  · have hc1 : ¬ (z).toInt < 150 := i_nlt hc1 rfl rfl
    refine lv_iconst (v := 1) hx hb dX7_isFull_10 (by decide) ?_
    refine lv_goto (tgt := 15) hx hb dX7_isFull_11 (by decide) ?_
    exact e_n X h hr hlk rfl dX7_isFull_15 ⟨rfl, Or.inl ⟨by omega, rfl⟩⟩

set_option maxHeartbeats 4000000 in
set_option maxRecDepth 100000 in
theorem c_T_add (l : Launch) (G : va_G) (cI cB cZ cO : ClassId) (ad : Nat → Nat) (w : Nat → va_E) (z a b c0 d : Int32) (ok : OK cI cB cZ cO ad w) (x : Int32)  (pf : w 55 = .inr (5, [.ref (ad 56), .ref (ad 57), .int z, .int a, .int b, .int c0, .int d])) (hz1 : z.toInt ≤ 150) (hd0 : 0 ≤ d.toInt) (hd1 : d.toInt ≤ 99) (hz0 : 0 ≤ z.toInt) : NI l G (tyq cI cB cZ cO) yX7_add cX7_add 2 (some .int) 1 20 74 ad w [.ref (ad 55), .int x] (fun r w1 => OK cI cB cZ cO ad w1 ∧ KL w w1 ∧ ((150 ≤ z.toInt ∧ KT w w1 ∧ r = -4) ∨ (z.toInt < 150 ∧ r = z + 1 ∧ pT (w1 55) = .inr (5, [.int (z + 1)])))) := by
  refine nk_i (own := "NoonShade$Text") rfl (by decide) (Nat.le_of_ble_eq_true rfl) ?_
  intro p e s m below meth c ls X hD hN hr hlk h hl
  have hx := X.1.1
  have hb := X.1.2.1
  have hown := X.1.2.2.2.1
  have hts := X.1.2.2.2.2
  have hl : lv_has ls 2 [(0, .ref (ad 55)), (1, .int x)] := hl
  refine lv_aload_n hx hb dX7_add_0 rfl (lv_at hl 0 rfl) ?_
  refine n_Vi (na := 0) (As := []) (rest := []) X hD hN h rfl (c_T_isFull l G cI cB cZ cO ad w z a b c0 d    pf) ⟨kv_447, kv_448, kv_449, kv_388, kv_450⟩ rfl ⟨by decide, by decide, by decide⟩ ⟨Nat.le_of_ble_eq_true rfl, Nat.le_of_ble_eq_true rfl⟩ ⟨Nat.zero_le _, Nat.zero_le _⟩ (by decide) pf rfl rfl hl.1 rfl (Nat.le_of_ble_eq_true rfl) dX7_add_1 (fun r1 w2 H locs hp3 h => ?_)
  obtain ⟨rfl, hr4⟩ := hp3
  rcases hr4 with ⟨hq5, rfl⟩ | ⟨hq6, rfl⟩
  · refine lv_if_eq (tgt := 10) hx hb dX7_add_4 (by decide) (fun hc => absurd hc (by decide)) (fun _ => ?_)
    refine lv_bipush (v := (-4)) hx hb dX7_add_7 (by decide) ?_
    exact e_i X h hr hlk dX7_add_9 ⟨ok, KL.rf, Or.inl ⟨by omega, KT.rf, rfl⟩⟩
  · refine lv_if_eq (tgt := 10) hx hb dX7_add_4 (by decide) (fun _ => ?_) (fun hc => absurd (by decide) hc)
    refine lv_aload_n hx hb dX7_add_10 rfl (lv_at hl 0 rfl) ?_
    refine r_get kc7 X h 55 0 (by decide) rfl pf (by decide) kv_380 rfl dX7_add_11 ?_
    refine lv_aload_n hx hb dX7_add_14 rfl (lv_at hl 0 rfl) ?_
    refine r_get kc7 X h 55 2 (by decide) rfl pf (by decide) kv_391 rfl dX7_add_15 ?_
    refine lv_iload_n hx hb dX7_add_18 rfl (lv_at hl 1 rfl) ?_
    obtain ⟨z7, e8⟩ : ∃ z : Int32, x.toInt8.toInt32 = z := ⟨_, rfl⟩
    refine lv_i2b (v := z7) hx hb dX7_add_19 e8 ?_
    obtain ⟨g10, f9, p11⟩ := (show sA cB 150 (anyA) (w 56) from ok 56 (by decide))
    have f12 : w 56 = .inl (cB, 150, .inl g10) := f9
    obtain ⟨g13, e14⟩ : ∃ zz9 : Nat → Int32, upd g10 (z).toNatClampNeg (vp_nar .byte z7) = zz9 := ⟨_, rfl⟩
    have p15 : anyA g13 := trivial
    refine o_bast (f1 := g13) X hD h 56 1 (by decide) rfl f12 rfl (in_of (by omega) (by omega)) e14 dX7_add_20 (fun H locs w16 e17 h => ?_)
    have f18 : w16 56 = .inl (cB, 150, .inl g13) := (congrFun e17 _).trans (va_up_self _ _ _)
    have ok19 : OK cI cB cZ cO ad w16 := OK.up ok e17 (sA_mk p15)
    have kx20 : KL w w16 := KL.up KL.rf e17 f12 (Or.inr (Or.inl rfl))
    refine lv_aload_n hx hb dX7_add_21 rfl (lv_at hl 0 rfl) ?_
    refine lv_dup hx hb dX7_add_22 rfl ?_
    have f21 : w16 55 = .inr (5, [.ref (ad 56), .ref (ad 57), .int z, .int a, .int b, .int c0, .int d]) := by rw [e17, va_up_ne _ _ (by decide)]; exact pf
    refine r_get kc7 X h 55 2 (by decide) rfl f21 (by decide) kv_391 rfl dX7_add_23 ?_
    refine lv_iconst (v := 1) hx hb dX7_add_26 (by decide) ?_
    obtain ⟨z24, e22, t23⟩ := x_add (x := z) (y := (1 : Int32)) (a := (z).toInt) (b := 1) rfl rfl (by omega) (by omega)
    refine o_iadd (z := z24) hx hb dX7_add_27 e22 ?_
    refine r_put kc7 X hD h 55 2 (by decide) rfl f21 (by decide) kv_391 rfl rfl rfl (Nat.le_of_ble_eq_true rfl) dX7_add_28 (fun H locs w25 e26 h => ?_)
    have f27 : w25 55 = .inr (5, [.ref (ad 56), .ref (ad 57), .int z24, .int a, .int b, .int c0, .int d]) := (congrFun e26 _).trans (va_up_self _ _ _)
    have ok28 : OK cI cB cZ cO ad w25 := OK.up ok19 e26 (sT_mk (by omega) (by omega) (by omega) (by omega))
    have kx29 : KL w w25 := KL.up kx20 e26 f21 (Or.inl rfl)
    refine lv_aload_n hx hb dX7_add_31 rfl (lv_at hl 0 rfl) ?_
    refine r_get kc7 X h 55 2 (by decide) rfl f27 (by decide) kv_391 rfl dX7_add_32 ?_
    exact e_i X h hr hlk dX7_add_35 ⟨ok28, kx29, Or.inr ⟨by omega, by first | rfl | (subst_vars; rfl), by rw [f27]; first | rfl | (subst_vars; rfl)⟩⟩
