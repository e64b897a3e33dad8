set_option maxHeartbeats 4000000 in
set_option maxRecDepth 100000 in
theorem c_M_isSmall (l : Launch) (G : va_G) (cI cB cZ cO : ClassId) (ad : Nat → Nat) (w : Nat → va_E)   (i : Int32)   : NI l G (tyq cI cB cZ cO) yX9_isSmall cX9_isSmall 1 (some .boolean) 1 25 74 ad w [.int i] (fun r w1 => w = w1 ∧ ((97 ≤ i.toInt ∧ i.toInt ≤ 122 ∧ r = 1) ∨ (¬ (97 ≤ i.toInt ∧ i.toInt ≤ 122) ∧ r = 0))) := by
  refine nk_i (own := "NoonShadeModel") rfl (by decide) (Nat.le_of_ble_eq_true rfl) ?_
  intro p e s m below meth c ls X hD hN hr hlk h hl
  have hx := X.1.1
  have hb := X.1.2.1
  have hown := X.1.2.2.2.1
  have hts := X.1.2.2.2.2
  have hl : lv_has ls 1 [(0, .int i)] := hl
  refine lv_iload_n hx hb dX9_isSmall_0 rfl (lv_at hl 0 rfl) ?_
  obtain ⟨z1, e2⟩ : ∃ z : Int64, i.toInt64 = z := ⟨_, rfl⟩
  have tz1 : z1.toInt = (i).toInt := by rw [← e2]; exact Int32.toInt_toInt64 _
  refine lv_i2l (v := z1) hx hb dX9_isSmall_1 e2 ?_
  refine lv_ldc2 (v := 97) hx hb hown (hts _ kv_659) dX9_isSmall_2 ?_
  refine lv_ldc2 (v := 122) hx hb hown (hts _ kv_660) dX9_isSmall_5 ?_
  refine n_Si (na := 3) (As := [.long z1, .long 97, .long 122]) (rest := []) X hD hN h (c_M_in l G cI cB cZ cO ad w z1 (97 : Int64) (122 : Int64) ((i).toInt) 97 122 tz1 rfl rfl) ⟨kv_468, kv_469, kv_470, kv_471⟩ ⟨by decide, by decide, by decide⟩ ⟨Nat.le_of_ble_eq_true rfl, Nat.le_of_ble_eq_true rfl⟩ ⟨Nat.zero_le _, Nat.zero_le _⟩ rfl hl.1 rfl (Nat.le_of_ble_eq_true rfl) dX9_isSmall_8 (fun r3 w4 H locs hp5 h => ?_)
  obtain ⟨rfl, hq6⟩ := hp5
  rcases hq6 with ⟨hq7, hq8, rfl⟩ | ⟨hq6, rfl⟩
  · exact e_n X h hr hlk rfl dX9_isSmall_11 ⟨rfl, Or.inl ⟨by omega, by omega, rfl⟩⟩
  · exact e_n X h hr hlk rfl dX9_isSmall_11 ⟨rfl, Or.inr ⟨by omega, rfl⟩⟩

set_option maxHeartbeats 4000000 in
set_option maxRecDepth 100000 in
theorem c_M_isFigure (l : Launch) (G : va_G) (cI cB cZ cO : ClassId) (ad : Nat → Nat) (w : Nat → va_E)   (i : Int32)   : NI l G (tyq cI cB cZ cO) yX9_isFigure cX9_isFigure 1 (some .boolean) 1 25 74 ad w [.int i] (fun r w1 => w = w1 ∧ ((48 ≤ i.toInt ∧ i.toInt ≤ 57 ∧ r = 1) ∨ (¬ (48 ≤ i.toInt ∧ i.toInt ≤ 57) ∧ r = 0))) := by
  refine nk_i (own := "NoonShadeModel") rfl (by decide) (Nat.le_of_ble_eq_true rfl) ?_
  intro p e s m below meth c ls X hD hN hr hlk h hl
  have hx := X.1.1
  have hb := X.1.2.1
  have hown := X.1.2.2.2.1
  have hts := X.1.2.2.2.2
  have hl : lv_has ls 1 [(0, .int i)] := hl
  refine lv_iload_n hx hb dX9_isFigure_0 rfl (lv_at hl 0 rfl) ?_
  obtain ⟨z1, e2⟩ : ∃ z : Int64, i.toInt64 = z := ⟨_, rfl⟩
  have tz1 : z1.toInt = (i).toInt := by rw [← e2]; exact Int32.toInt_toInt64 _
  refine lv_i2l (v := z1) hx hb dX9_isFigure_1 e2 ?_
  refine lv_ldc2 (v := 48) hx hb hown (hts _ kv_661) dX9_isFigure_2 ?_
  refine lv_ldc2 (v := 57) hx hb hown (hts _ kv_662) dX9_isFigure_5 ?_
  refine n_Si (na := 3) (As := [.long z1, .long 48, .long 57]) (rest := []) X hD hN h (c_M_in l G cI cB cZ cO ad w z1 (48 : Int64) (57 : Int64) ((i).toInt) 48 57 tz1 rfl rfl) ⟨kv_468, kv_469, kv_470, kv_471⟩ ⟨by decide, by decide, by decide⟩ ⟨Nat.le_of_ble_eq_true rfl, Nat.le_of_ble_eq_true rfl⟩ ⟨Nat.zero_le _, Nat.zero_le _⟩ rfl hl.1 rfl (Nat.le_of_ble_eq_true rfl) dX9_isFigure_8 (fun r3 w4 H locs hp5 h => ?_)
  obtain ⟨rfl, hq6⟩ := hp5
  rcases hq6 with ⟨hq7, hq8, rfl⟩ | ⟨hq6, rfl⟩
  · exact e_n X h hr hlk rfl dX9_isFigure_11 ⟨rfl, Or.inl ⟨by omega, by omega, rfl⟩⟩
  · exact e_n X h hr hlk rfl dX9_isFigure_11 ⟨rfl, Or.inr ⟨by omega, rfl⟩⟩

