set_option maxHeartbeats 4000000 in
set_option maxRecDepth 100000 in
theorem c_numbersOf0 (l : Launch) (G : va_G) (cI cB cZ cO : ClassId) (ad : Nat → Nat) (w : Nat → va_E)      : NI l G (tyq cI cB cZ cO) yX7_numbersOf cX7_numbersOf 1 (some .int) 0 0 74 ad w [.int 0] (fun r w1 => w = w1 ∧ 1 = r) := by
  refine nk_i (own := "NoonShade$Text") rfl (by decide) (Nat.le_of_ble_eq_true rfl) ?_
  intro p e s m below meth c ls X hD hN hr hlk h hl
  have hx := X.1.1
  have hb := X.1.2.1
  have hown := X.1.2.2.2.1
  have hts := X.1.2.2.2.2
  have hl : lv_has ls 1 [(0, .int 0)] := hl
  refine lv_iload_n hx hb dX7_numbersOf_0 rfl (lv_at hl 0 rfl) ?_
  refine lv_tableOut (tgt := 36) hx hb dX7_numbersOf_1 (by decide) (by decide) ?_
  refine lv_iconst (v := 1) hx hb dX7_numbersOf_36 (by decide) ?_
  exact e_i X h hr hlk dX7_numbersOf_37 ⟨rfl, rfl⟩

set_option maxHeartbeats 4000000 in
set_option maxRecDepth 100000 in
theorem c_numbersOf1 (l : Launch) (G : va_G) (cI cB cZ cO : ClassId) (ad : Nat → Nat) (w : Nat → va_E)      : NI l G (tyq cI cB cZ cO) yX7_numbersOf cX7_numbersOf 1 (some .int) 0 0 74 ad w [.int 1] (fun r w1 => w = w1 ∧ 3 = r) := by
  refine nk_i (own := "NoonShade$Text") rfl (by decide) (Nat.le_of_ble_eq_true rfl) ?_
  intro p e s m below meth c ls X hD hN hr hlk h hl
  have hx := X.1.1
  have hb := X.1.2.1
  have hown := X.1.2.2.2.1
  have hts := X.1.2.2.2.2
  have hl : lv_has ls 1 [(0, .int 1)] := hl
  refine lv_iload_n hx hb dX7_numbersOf_0 rfl (lv_at hl 0 rfl) ?_
  refine lv_tableIn (tgt := 32) (off := 31) hx hb dX7_numbersOf_1 (by decide) (by decide) (by decide) (by decide) ?_
  refine lv_iconst (v := 3) hx hb dX7_numbersOf_32 (by decide) ?_
  exact e_i X h hr hlk dX7_numbersOf_33 ⟨rfl, rfl⟩

set_option maxHeartbeats 4000000 in
set_option maxRecDepth 100000 in
theorem c_numbersOf2 (l : Launch) (G : va_G) (cI cB cZ cO : ClassId) (ad : Nat → Nat) (w : Nat → va_E)      : NI l G (tyq cI cB cZ cO) yX7_numbersOf cX7_numbersOf 1 (some .int) 0 0 74 ad w [.int 2] (fun r w1 => w = w1 ∧ 1 = r) := by
  refine nk_i (own := "NoonShade$Text") rfl (by decide) (Nat.le_of_ble_eq_true rfl) ?_
  intro p e s m below meth c ls X hD hN hr hlk h hl
  have hx := X.1.1
  have hb := X.1.2.1
  have hown := X.1.2.2.2.1
  have hts := X.1.2.2.2.2
  have hl : lv_has ls 1 [(0, .int 2)] := hl
  refine lv_iload_n hx hb dX7_numbersOf_0 rfl (lv_at hl 0 rfl) ?_
  refine lv_tableIn (tgt := 36) (off := 35) hx hb dX7_numbersOf_1 (by decide) (by decide) (by decide) (by decide) ?_
  refine lv_iconst (v := 1) hx hb dX7_numbersOf_36 (by decide) ?_
  exact e_i X h hr hlk dX7_numbersOf_37 ⟨rfl, rfl⟩

set_option maxHeartbeats 4000000 in
set_option maxRecDepth 100000 in
theorem c_numbersOf3 (l : Launch) (G : va_G) (cI cB cZ cO : ClassId) (ad : Nat → Nat) (w : Nat → va_E)      : NI l G (tyq cI cB cZ cO) yX7_numbersOf cX7_numbersOf 1 (some .int) 0 0 74 ad w [.int 3] (fun r w1 => w = w1 ∧ 2 = r) := by
  refine nk_i (own := "NoonShade$Text") rfl (by decide) (Nat.le_of_ble_eq_true rfl) ?_
  intro p e s m below meth c ls X hD hN hr hlk h hl
  have hx := X.1.1
  have hb := X.1.2.1
  have hown := X.1.2.2.2.1
  have hts := X.1.2.2.2.2
  have hl : lv_has ls 1 [(0, .int 3)] := hl
  refine lv_iload_n hx hb dX7_numbersOf_0 rfl (lv_at hl 0 rfl) ?_
  refine lv_tableIn (tgt := 34) (off := 33) hx hb dX7_numbersOf_1 (by decide) (by decide) (by decide) (by decide) ?_
  refine lv_iconst (v := 2) hx hb dX7_numbersOf_34 (by decide) ?_
  exact e_i X h hr hlk dX7_numbersOf_35 ⟨rfl, rfl⟩

set_option maxHeartbeats 4000000 in
set_option maxRecDepth 100000 in
theorem c_numbersOf4 (l : Launch) (G : va_G) (cI cB cZ cO : ClassId) (ad : Nat → Nat) (w : Nat → va_E)      : NI l G (tyq cI cB cZ cO) yX7_numbersOf cX7_numbersOf 1 (some .int) 0 0 74 ad w [.int 4] (fun r w1 => w = w1 ∧ 2 = r) := by
  refine nk_i (own := "NoonShade$Text") rfl (by decide) (Nat.le_of_ble_eq_true rfl) ?_
  intro p e s m below meth c ls X hD hN hr hlk h hl
  have hx := X.1.1
  have hb := X.1.2.1
  have hown := X.1.2.2.2.1
  have hts := X.1.2.2.2.2
  have hl : lv_has ls 1 [(0, .int 4)] := hl
  refine lv_iload_n hx hb dX7_numbersOf_0 rfl (lv_at hl 0 rfl) ?_
  refine lv_tableIn (tgt := 34) (off := 33) hx hb dX7_numbersOf_1 (by decide) (by decide) (by decide) (by decide) ?_
  refine lv_iconst (v := 2) hx hb dX7_numbersOf_34 (by decide) ?_
  exact e_i X h hr hlk dX7_numbersOf_35 ⟨rfl, rfl⟩

set_option maxHeartbeats 4000000 in
set_option maxRecDepth 100000 in
theorem c_numbersOf5 (l : Launch) (G : va_G) (cI cB cZ cO : ClassId) (ad : Nat → Nat) (w : Nat → va_E)      : NI l G (tyq cI cB cZ cO) yX7_numbersOf cX7_numbersOf 1 (some .int) 0 0 74 ad w [.int 5] (fun r w1 => w = w1 ∧ 1 = r) := by
  refine nk_i (own := "NoonShade$Text") rfl (by decide) (Nat.le_of_ble_eq_true rfl) ?_
  intro p e s m below meth c ls X hD hN hr hlk h hl
  have hx := X.1.1
  have hb := X.1.2.1
  have hown := X.1.2.2.2.1
  have hts := X.1.2.2.2.2
  have hl : lv_has ls 1 [(0, .int 5)] := hl
  refine lv_iload_n hx hb dX7_numbersOf_0 rfl (lv_at hl 0 rfl) ?_
  refine lv_tableOut (tgt := 36) hx hb dX7_numbersOf_1 (by decide) (by decide) ?_
  refine lv_iconst (v := 1) hx hb dX7_numbersOf_36 (by decide) ?_
  exact e_i X h hr hlk dX7_numbersOf_37 ⟨rfl, rfl⟩

set_option maxHeartbeats 4000000 in
set_option maxRecDepth 100000 in
theorem c_T_isFull (l : Launch) (G : va_G) (cI cB cZ cO : ClassId) (ad : Nat → Nat) (w : Nat → va_E) (z a b c0 d : Int32)    (pf : w 55 = .inr (5, [.ref (ad 56), .ref (ad 57), .int z, .int a, .int b, .int c0, .int d])) : NI l G (tyq cI cB cZ cO) yX7_isFull cX7_isFull 1 (some .boolean) 0 0 74 ad w [.ref (ad 55)] (fun r w1 => w = w1 ∧ ((150 ≤ z.toInt ∧ r = 1) ∨ (z.toInt < 150 ∧ r = 0))) := by
  refine nk_i (own := "NoonShade$Text") rfl (by decide) (Nat.le_of_ble_eq_true rfl) ?_
  intro p e s m below meth c ls X hD hN hr hlk h hl
  have hx := X.1.1
  have hb := X.1.2.1
  have hown := X.1.2.2.2.1
  have hts := X.1.2.2.2.2
  have hl : lv_has ls 1 [(0, .ref (ad 55))] := hl
  refine lv_aload_n hx hb dX7_isFull_0 rfl (lv_at hl 0 rfl) ?_
  refine r_get kc7 X h 55 2 (by decide) rfl pf (by decide) kv_391 rfl dX7_isFull_1 ?_
  refine lv_sipush (v := 150) hx hb dX7_isFull_4 (by decide) ?_
  refine lv_icmp_lt (tgt := 14) hx hb dX7_isFull_7 (by decide) (fun hc1 => ?_) (fun hc1 => ?_)
  · have hc1 : (z).toInt < 150 := i_lt hc1 rfl rfl
    refine lv_iconst (v := 0) hx hb dX7_isFull_14 (by decide) ?_
    exact e_n X h hr hlk rfl dX7_isFull_15 ⟨rfl, Or.inr ⟨by omega, rfl⟩⟩
  · have hc1 : ¬ (z).toInt < 150 := i_nlt hc1 rfl rfl
    refine lv_iconst (v := 1) hx hb dX7_isFull_10 (by decide) ?_
    refine lv_goto (tgt := 15) hx hb dX7_isFull_11 (by decide) ?_
    exact e_n X h hr hlk rfl dX7_isFull_15 ⟨rfl, Or.inl ⟨by omega, rfl⟩⟩

